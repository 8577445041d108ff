section
-- ===== PART A: goes FIRST, ahead of the names: the tables' words, and 'selects' of the private methods out of them =====
/-- a private method of a class that the tables say can be made, by its rows of tables_1 -/
def lw_okq (q : MethodName × Nat) : Prop := (q.1.cls ≠ "java/lang/invoke/MethodHandle" ∧ q.1.cls ≠ "java/lang/invoke/VarHandle") ∧ Cond.instantiable q.1.cls q.2 ∈ tables_1 ∧ Cond.privateMethod q.1 ∈ tables_1 ∧ Cond.instanceMethod q.1 ∈ tables_1
theorem lw_p0 : lw_okq (⟨"TicketScales", "counter", "()LTicketScales$Counter;"⟩, 3) := ⟨⟨by decide +kernel, by decide +kernel⟩, List.mem_of_getElem? (i := 13) (by decide +kernel), List.mem_of_getElem? (i := 285) (by decide +kernel), List.mem_of_getElem? (i := 286) (by decide +kernel)⟩
theorem lw_p1 : lw_okq (⟨"TicketScales$History", "recordSpare", "()V"⟩, 4) := ⟨⟨by decide +kernel, by decide +kernel⟩, List.mem_of_getElem? (i := 21) (by decide +kernel), List.mem_of_getElem? (i := 311) (by decide +kernel), List.mem_of_getElem? (i := 312) (by decide +kernel)⟩
theorem lw_p2 : lw_okq (⟨"TicketScales$History", "dropOldest", "()V"⟩, 4) := ⟨⟨by decide +kernel, by decide +kernel⟩, List.mem_of_getElem? (i := 21) (by decide +kernel), List.mem_of_getElem? (i := 315) (by decide +kernel), List.mem_of_getElem? (i := 316) (by decide +kernel)⟩
theorem lw_p3 : lw_okq (⟨"TicketScales$Counter", "keptWeighings", "()I"⟩, 9) := ⟨⟨by decide +kernel, by decide +kernel⟩, List.mem_of_getElem? (i := 34) (by decide +kernel), List.mem_of_getElem? (i := 433) (by decide +kernel), List.mem_of_getElem? (i := 434) (by decide +kernel)⟩
theorem lw_p4 : lw_okq (⟨"TicketScales$Counter", "allStocks", "()I"⟩, 9) := ⟨⟨by decide +kernel, by decide +kernel⟩, List.mem_of_getElem? (i := 34) (by decide +kernel), List.mem_of_getElem? (i := 441) (by decide +kernel), List.mem_of_getElem? (i := 442) (by decide +kernel)⟩
theorem lw_p5 : lw_okq (⟨"TicketScales$Scale", "pairsOf", "(ILTicketScales$Kind;LTicketScales$Kind;I)I"⟩, 3) := ⟨⟨by decide +kernel, by decide +kernel⟩, List.mem_of_getElem? (i := 42) (by decide +kernel), List.mem_of_getElem? (i := 488) (by decide +kernel), List.mem_of_getElem? (i := 489) (by decide +kernel)⟩
theorem lw_p6 : lw_okq (⟨"TicketScales$Scale", "nearestCount", "(II)I"⟩, 3) := ⟨⟨by decide +kernel, by decide +kernel⟩, List.mem_of_getElem? (i := 42) (by decide +kernel), List.mem_of_getElem? (i := 546) (by decide +kernel), List.mem_of_getElem? (i := 547) (by decide +kernel)⟩
theorem lw_p7 : lw_okq (⟨"TicketScales$Counter", "nextByPrice", "(I)I"⟩, 9) := ⟨⟨by decide +kernel, by decide +kernel⟩, List.mem_of_getElem? (i := 34) (by decide +kernel), List.mem_of_getElem? (i := 562) (by decide +kernel), List.mem_of_getElem? (i := 563) (by decide +kernel)⟩
theorem lw_p8 : lw_okq (⟨"TicketScales$Counter", "isBehind", "(II)Z"⟩, 9) := ⟨⟨by decide +kernel, by decide +kernel⟩, List.mem_of_getElem? (i := 34) (by decide +kernel), List.mem_of_getElem? (i := 566) (by decide +kernel), List.mem_of_getElem? (i := 567) (by decide +kernel)⟩
theorem lw_p9 : lw_okq (⟨"TicketScales$Scale", "apartFromNext", "(ILTicketScales$Kind;I)Z"⟩, 3) := ⟨⟨by decide +kernel, by decide +kernel⟩, List.mem_of_getElem? (i := 42) (by decide +kernel), List.mem_of_getElem? (i := 616) (by decide +kernel), List.mem_of_getElem? (i := 617) (by decide +kernel)⟩
theorem lw_p10 : lw_okq (⟨"TicketScales$Scale", "allApart", "(ILTicketScales$Kind;I)Z"⟩, 3) := ⟨⟨by decide +kernel, by decide +kernel⟩, List.mem_of_getElem? (i := 42) (by decide +kernel), List.mem_of_getElem? (i := 629) (by decide +kernel), List.mem_of_getElem? (i := 630) (by decide +kernel)⟩
theorem lw_p11 : lw_okq (⟨"TicketScales$Counter", "allows", "(ILTicketScales$Kind;I)Z"⟩, 9) := ⟨⟨by decide +kernel, by decide +kernel⟩, List.mem_of_getElem? (i := 34) (by decide +kernel), List.mem_of_getElem? (i := 669) (by decide +kernel), List.mem_of_getElem? (i := 670) (by decide +kernel)⟩
def lw_privs_1 : List (MethodName × Nat) := [(⟨"TicketScales", "counter", "()LTicketScales$Counter;"⟩, 3), (⟨"TicketScales$History", "recordSpare", "()V"⟩, 4), (⟨"TicketScales$History", "dropOldest", "()V"⟩, 4), (⟨"TicketScales$Counter", "keptWeighings", "()I"⟩, 9), (⟨"TicketScales$Counter", "allStocks", "()I"⟩, 9), (⟨"TicketScales$Scale", "pairsOf", "(ILTicketScales$Kind;LTicketScales$Kind;I)I"⟩, 3), (⟨"TicketScales$Scale", "nearestCount", "(II)I"⟩, 3), (⟨"TicketScales$Counter", "nextByPrice", "(I)I"⟩, 9), (⟨"TicketScales$Counter", "isBehind", "(II)Z"⟩, 9), (⟨"TicketScales$Scale", "apartFromNext", "(ILTicketScales$Kind;I)Z"⟩, 3), (⟨"TicketScales$Scale", "allApart", "(ILTicketScales$Kind;I)Z"⟩, 3), (⟨"TicketScales$Counter", "allows", "(ILTicketScales$Kind;I)Z"⟩, 9)]
theorem lw_r1 : ∀ q ∈ lw_privs_1, lw_okq q := List.forall_mem_cons.mpr ⟨lw_p0, List.forall_mem_cons.mpr ⟨lw_p1, List.forall_mem_cons.mpr ⟨lw_p2, List.forall_mem_cons.mpr ⟨lw_p3, List.forall_mem_cons.mpr ⟨lw_p4, List.forall_mem_cons.mpr ⟨lw_p5, List.forall_mem_cons.mpr ⟨lw_p6, List.forall_mem_cons.mpr ⟨lw_p7, List.forall_mem_cons.mpr ⟨lw_p8, List.forall_mem_cons.mpr ⟨lw_p9, List.forall_mem_cons.mpr ⟨lw_p10, List.forall_mem_cons.mpr ⟨lw_p11, fun _ h => absurd h List.not_mem_nil⟩⟩⟩⟩⟩⟩⟩⟩⟩⟩⟩⟩
def lw_privs : List (MethodName × Nat) := lw_privs_1
def lw_tbl : List Cond := k2_sels lw_privs ++ tables_1
theorem lw_privs_ok : ∀ q ∈ lw_privs, lw_okq q := lw_r1
end
section
/-! ===== BEGIN words of one list among another's, by their places ===== -/
theorem goodIn_r {big : List Cond} (ws : List Cond) (ps : List Nat) (hp : ws = ps.filterMap (fun i => big[i]?)) (h : ws.all goodWord = true) : GoodIn big ws := by
  intro w hw
  have h1 := List.all_eq_true.mp h w hw
  rw [hp] at hw
  obtain ⟨i, -, hi⟩ := List.mem_filterMap.mp hw
  have hm : w ∈ big := by first | exact List.mem_of_getElem? hi | exact List.getElem?_mem hi
  exact ⟨hm, good_of_word h1⟩
theorem goodIn_app {big a b : List Cond} (ha : GoodIn big a) (hb : GoodIn big b) : GoodIn big (a ++ b) := fun w h => (List.mem_append.mp h).elim (ha w) (hb w)
theorem goodIn_ca {big a b : List Cond} {c : Cond} (ha : GoodIn big (c :: a)) (hb : GoodIn big b) : GoodIn big (c :: (a ++ b)) := fun w h => (List.mem_cons.mp h).elim (fun e => ha w (List.mem_cons.mpr (Or.inl e))) (fun h => (List.mem_append.mp h).elim (fun h => ha w (List.mem_cons.mpr (Or.inr h))) (hb w))
theorem goodIn_sub {big ws : List Cond} (hm : ∀ w ∈ ws, w ∈ big) (h : ws.all goodWord = true) : GoodIn big ws := fun w hw => ⟨hm w hw, good_of_word (List.all_eq_true.mp h w hw)⟩
/-! ===== END ===== -/

/-! ===== BEGIN printed: names, fields, word lists, decode rows ===== -/
def RX0 : String := "TicketScales$Counter"
def TX0 : u_T := fun k => match k with
  | 0 => ("TicketScales$Counter", "kinds", "[LTicketScales$Kind;", true)
  | 1 => ("TicketScales$Counter", "scale", "LTicketScales$Scale;", true)
  | 2 => ("TicketScales$Counter", "customers", "[LTicketScales$Customer;", true)
  | 3 => ("TicketScales$Counter", "prizes", "[LTicketScales$Prize;", true)
  | 4 => ("TicketScales$Counter", "customerCount", "I", false)
  | 5 => ("TicketScales$Counter", "prizeCount", "I", false)
  | 6 => ("TicketScales$Counter", "rule", "I", false)
  | 7 => ("TicketScales$Counter", "fee", "I", false)
  | _ => ("TicketScales$Counter", "gift", "I", false)
def tyX0 : Nat → FieldType := fun k => match k with
  | 0 => .array (.object "TicketScales$Kind")
  | 1 => .object "TicketScales$Scale"
  | 2 => .array (.object "TicketScales$Customer")
  | 3 => .array (.object "TicketScales$Prize")
  | 4 => .int
  | 5 => .int
  | 6 => .int
  | 7 => .int
  | _ => .int
abbrev wsX00 : List Cond := u_ws RX0 TX0 9
theorem nmX0 : ∀ a, a < 9 → ∀ b, b < 9 → a ≠ b → (TX0 a).2.1 ≠ (TX0 b).2.1 := by decide +kernel
theorem tyX0_ok : ∀ k, k < 9 → parseFieldDescriptor (TX0 k).2.2.1 = some (tyX0 k) := by decide +kernel
abbrev cX0_init : ByteArray := prog_2_method_1_code
def yX0_init : MethodName := ⟨RX0, "<init>", "()V"⟩
abbrev cX0_copyFrom : ByteArray := prog_2_method_2_code
def yX0_copyFrom : MethodName := ⟨RX0, "copyFrom", "(LTicketScales$Counter;)V"⟩
abbrev cX0_kindAt : ByteArray := prog_2_method_3_code
def yX0_kindAt : MethodName := ⟨RX0, "kindAt", "(I)LTicketScales$Kind;"⟩
abbrev cX0_customerAt : ByteArray := prog_2_method_4_code
def yX0_customerAt : MethodName := ⟨RX0, "customerAt", "(I)LTicketScales$Customer;"⟩
abbrev cX0_prizeAt : ByteArray := prog_2_method_5_code
def yX0_prizeAt : MethodName := ⟨RX0, "prizeAt", "(I)LTicketScales$Prize;"⟩
abbrev cX0_changeKind : ByteArray := prog_2_method_6_code
def yX0_changeKind : MethodName := ⟨RX0, "changeKind", "(III)I"⟩
abbrev cX0_changeScale : ByteArray := prog_2_method_7_code
def yX0_changeScale : MethodName := ⟨RX0, "changeScale", "(II)I"⟩
abbrev cX0_changeBias : ByteArray := prog_2_method_8_code
def yX0_changeBias : MethodName := ⟨RX0, "changeBias", "(I)I"⟩
abbrev cX0_changeRule : ByteArray := prog_2_method_9_code
def yX0_changeRule : MethodName := ⟨RX0, "changeRule", "(I)I"⟩
abbrev cX0_addCustomer : ByteArray := prog_2_method_11_code
def yX0_addCustomer : MethodName := ⟨RX0, "addCustomer", "(I)I"⟩
abbrev cX0_dropCustomer : ByteArray := prog_2_method_12_code
def yX0_dropCustomer : MethodName := ⟨RX0, "dropCustomer", "(I)I"⟩
abbrev cX0_weighBundle : ByteArray := prog_2_method_13_code
def yX0_weighBundle : MethodName := ⟨RX0, "weighBundle", "(IIII)I"⟩
abbrev cX0_settleClaim : ByteArray := prog_2_method_14_code
def yX0_settleClaim : MethodName := ⟨RX0, "settleClaim", "(II)I"⟩
abbrev cX0_allows : ByteArray := prog_2_method_15_code
def yX0_allows : MethodName := ⟨RX0, "allows", "(ILTicketScales$Kind;I)Z"⟩
abbrev cX0_placePrize : ByteArray := prog_2_method_16_code
def yX0_placePrize : MethodName := ⟨RX0, "placePrize", "(IIIII)I"⟩
abbrev cX0_sellPrize : ByteArray := prog_2_method_19_code
def yX0_sellPrize : MethodName := ⟨RX0, "sellPrize", "(III)I"⟩
abbrev cX0_number : ByteArray := prog_2_method_20_code
def yX0_number : MethodName := ⟨RX0, "number", "(I)I"⟩
abbrev cX0_keptWeighings : ByteArray := prog_2_method_21_code
def yX0_keptWeighings : MethodName := ⟨RX0, "keptWeighings", "()I"⟩
abbrev cX0_allPoints : ByteArray := prog_2_method_22_code
def yX0_allPoints : MethodName := ⟨RX0, "allPoints", "()I"⟩
abbrev cX0_allStocks : ByteArray := prog_2_method_23_code
def yX0_allStocks : MethodName := ⟨RX0, "allStocks", "()I"⟩
abbrev cX0_given : ByteArray := prog_2_method_24_code
def yX0_given : MethodName := ⟨RX0, "given", "(I)I"⟩
abbrev cX0_fairestRule : ByteArray := prog_2_method_25_code
def yX0_fairestRule : MethodName := ⟨RX0, "fairestRule", "()I"⟩
abbrev cX0_shopWith : ByteArray := prog_2_method_26_code
def yX0_shopWith : MethodName := ⟨RX0, "shopWith", "(II)I"⟩
abbrev cX0_nextByPrice : ByteArray := prog_2_method_27_code
def yX0_nextByPrice : MethodName := ⟨RX0, "nextByPrice", "(I)I"⟩
abbrev cX0_isBehind : ByteArray := prog_2_method_28_code
def yX0_isBehind : MethodName := ⟨RX0, "isBehind", "(II)Z"⟩
def RX1 : String := "TicketScales$Customer"
def TX1 : u_T := fun k => match k with
  | 0 => ("TicketScales$Customer", "points", "I", false)
  | 1 => ("TicketScales$Customer", "kept", "Z", false)
  | 2 => ("TicketScales$Customer", "kind", "I", false)
  | 3 => ("TicketScales$Customer", "count", "I", false)
  | 4 => ("TicketScales$Customer", "reading", "I", false)
  | _ => ("TicketScales$Customer", "guess", "I", false)
def tyX1 : Nat → FieldType := fun k => match k with
  | 0 => .int
  | 1 => .boolean
  | 2 => .int
  | 3 => .int
  | 4 => .int
  | _ => .int
abbrev wsX10 : List Cond := u_ws RX1 TX1 6
theorem nmX1 : ∀ a, a < 6 → ∀ b, b < 6 → a ≠ b → (TX1 a).2.1 ≠ (TX1 b).2.1 := by decide +kernel
theorem tyX1_ok : ∀ k, k < 6 → parseFieldDescriptor (TX1 k).2.2.1 = some (tyX1 k) := by decide +kernel
abbrev cX1_init : ByteArray := prog_3_method_1_code
def yX1_init : MethodName := ⟨RX1, "<init>", "()V"⟩
abbrev cX1_copyFrom : ByteArray := prog_3_method_2_code
def yX1_copyFrom : MethodName := ⟨RX1, "copyFrom", "(LTicketScales$Customer;)V"⟩
abbrev cX1_begin : ByteArray := prog_3_method_3_code
def yX1_begin : MethodName := ⟨RX1, "begin", "(I)V"⟩
abbrev cX1_keep : ByteArray := prog_3_method_4_code
def yX1_keep : MethodName := ⟨RX1, "keep", "(IIII)V"⟩
abbrev cX1_isNearer : ByteArray := prog_3_method_5_code
def yX1_isNearer : MethodName := ⟨RX1, "isNearer", "(I)Z"⟩
abbrev cX1_gain : ByteArray := prog_3_method_6_code
def yX1_gain : MethodName := ⟨RX1, "gain", "(I)V"⟩
abbrev cX1_part : ByteArray := prog_3_method_7_code
def yX1_part : MethodName := ⟨RX1, "part", "(I)I"⟩
def RX2 : String := "TicketScales$Failure"
def TX2 : u_T := fun k => match k with
  | 0 => ("TicketScales$Failure", "kind", "I", false)
  | 1 => ("TicketScales$Failure", "place", "I", false)
  | 2 => ("TicketScales$Failure", "code", "I", false)
  | _ => ("TicketScales$Failure", "commands", "I", false)
def tyX2 : Nat → FieldType := fun k => match k with
  | 0 => .int
  | 1 => .int
  | 2 => .int
  | _ => .int
abbrev wsX20 : List Cond := u_ws RX2 TX2 4
theorem nmX2 : ∀ a, a < 4 → ∀ b, b < 4 → a ≠ b → (TX2 a).2.1 ≠ (TX2 b).2.1 := by decide +kernel
theorem tyX2_ok : ∀ k, k < 4 → parseFieldDescriptor (TX2 k).2.2.1 = some (tyX2 k) := by decide +kernel
abbrev cX2_init : ByteArray := prog_4_method_1_code
def yX2_init : MethodName := ⟨RX2, "<init>", "()V"⟩
def RX3 : String := "TicketScales$History"
def TX3 : u_T := fun k => match k with
  | 0 => ("TicketScales$History", "earlier", "[LTicketScales$State;", true)
  | 1 => ("TicketScales$History", "now", "LTicketScales$State;", false)
  | 2 => ("TicketScales$History", "spare", "LTicketScales$State;", false)
  | _ => ("TicketScales$History", "size", "I", false)
def tyX3 : Nat → FieldType := fun k => match k with
  | 0 => .array (.object "TicketScales$State")
  | 1 => .object "TicketScales$State"
  | 2 => .object "TicketScales$State"
  | _ => .int
abbrev wsX30 : List Cond := u_ws RX3 TX3 4
theorem nmX3 : ∀ a, a < 4 → ∀ b, b < 4 → a ≠ b → (TX3 a).2.1 ≠ (TX3 b).2.1 := by decide +kernel
theorem tyX3_ok : ∀ k, k < 4 → parseFieldDescriptor (TX3 k).2.2.1 = some (tyX3 k) := by decide +kernel
abbrev cX3_init : ByteArray := prog_5_method_1_code
def yX3_init : MethodName := ⟨RX3, "<init>", "()V"⟩
abbrev cX3_prepare : ByteArray := prog_5_method_2_code
def yX3_prepare : MethodName := ⟨RX3, "prepare", "()V"⟩
abbrev cX3_settle : ByteArray := prog_5_method_3_code
def yX3_settle : MethodName := ⟨RX3, "settle", "(I)I"⟩
abbrev cX3_recordSpare : ByteArray := prog_5_method_4_code
def yX3_recordSpare : MethodName := ⟨RX3, "recordSpare", "()V"⟩
abbrev cX3_dropOldest : ByteArray := prog_5_method_5_code
def yX3_dropOldest : MethodName := ⟨RX3, "dropOldest", "()V"⟩
abbrev cX3_stepBack : ByteArray := prog_5_method_7_code
def yX3_stepBack : MethodName := ⟨RX3, "stepBack", "()I"⟩
def RX4 : String := "TicketScales$Kind"
def TX4 : u_T := fun k => match k with
  | 0 => ("TicketScales$Kind", "weight", "I", false)
  | _ => ("TicketScales$Kind", "spread", "I", false)
def tyX4 : Nat → FieldType := fun k => match k with
  | 0 => .int
  | _ => .int
abbrev wsX40 : List Cond := u_ws RX4 TX4 2
theorem nmX4 : ∀ a, a < 2 → ∀ b, b < 2 → a ≠ b → (TX4 a).2.1 ≠ (TX4 b).2.1 := by decide +kernel
theorem tyX4_ok : ∀ k, k < 2 → parseFieldDescriptor (TX4 k).2.2.1 = some (tyX4 k) := by decide +kernel
abbrev cX4_init : ByteArray := prog_6_method_1_code
def yX4_init : MethodName := ⟨RX4, "<init>", "()V"⟩
abbrev cX4_copyFrom : ByteArray := prog_6_method_2_code
def yX4_copyFrom : MethodName := ⟨RX4, "copyFrom", "(LTicketScales$Kind;)V"⟩
abbrev cX4_lightest : ByteArray := prog_6_method_3_code
def yX4_lightest : MethodName := ⟨RX4, "lightest", "()I"⟩
abbrev cX4_heaviest : ByteArray := prog_6_method_4_code
def yX4_heaviest : MethodName := ⟨RX4, "heaviest", "()I"⟩
def RX5 : String := "TicketScales$Prize"
def TX5 : u_T := fun k => match k with
  | 0 => ("TicketScales$Prize", "price", "I", false)
  | 1 => ("TicketScales$Prize", "weight", "I", false)
  | 2 => ("TicketScales$Prize", "stock", "I", false)
  | 3 => ("TicketScales$Prize", "mark", "I", false)
  | 4 => ("TicketScales$Prize", "box", "I", false)
  | 5 => ("TicketScales$Prize", "sold", "I", false)
  | _ => ("TicketScales$Prize", "boxes", "I", false)
def tyX5 : Nat → FieldType := fun k => match k with
  | 0 => .int
  | 1 => .int
  | 2 => .int
  | 3 => .int
  | 4 => .int
  | 5 => .int
  | _ => .int
abbrev wsX50 : List Cond := u_ws RX5 TX5 7
theorem nmX5 : ∀ a, a < 7 → ∀ b, b < 7 → a ≠ b → (TX5 a).2.1 ≠ (TX5 b).2.1 := by decide +kernel
theorem tyX5_ok : ∀ k, k < 7 → parseFieldDescriptor (TX5 k).2.2.1 = some (tyX5 k) := by decide +kernel
abbrev cX5_init : ByteArray := prog_7_method_1_code
def yX5_init : MethodName := ⟨RX5, "<init>", "()V"⟩
abbrev cX5_copyFrom : ByteArray := prog_7_method_2_code
def yX5_copyFrom : MethodName := ⟨RX5, "copyFrom", "(LTicketScales$Prize;)V"⟩
abbrev cX5_begin : ByteArray := prog_7_method_3_code
def yX5_begin : MethodName := ⟨RX5, "begin", "(IIIII)V"⟩
abbrev cX5_sell : ByteArray := prog_7_method_4_code
def yX5_sell : MethodName := ⟨RX5, "sell", "(I)V"⟩
abbrev cX5_sellOut : ByteArray := prog_7_method_5_code
def yX5_sellOut : MethodName := ⟨RX5, "sellOut", "()I"⟩
abbrev cX5_part : ByteArray := prog_7_method_6_code
def yX5_part : MethodName := ⟨RX5, "part", "(I)I"⟩
def RX6 : String := "TicketScales$Program"
def TX6 : u_T := fun k => match k with
  | 0 => ("TicketScales$Program", "signs", "[C", true)
  | 1 => ("TicketScales$Program", "numbers", "[I", true)
  | 2 => ("TicketScales$Program", "failure", "LTicketScales$Failure;", true)
  | 3 => ("TicketScales$Program", "length", "I", false)
  | 4 => ("TicketScales$Program", "start", "I", false)
  | _ => ("TicketScales$Program", "at", "I", false)
def tyX6 : Nat → FieldType := fun k => match k with
  | 0 => .array .char
  | 1 => .array .int
  | 2 => .object "TicketScales$Failure"
  | 3 => .int
  | 4 => .int
  | _ => .int
abbrev wsX60 : List Cond := u_ws RX6 TX6 6
theorem nmX6 : ∀ a, a < 6 → ∀ b, b < 6 → a ≠ b → (TX6 a).2.1 ≠ (TX6 b).2.1 := by decide +kernel
theorem tyX6_ok : ∀ k, k < 6 → parseFieldDescriptor (TX6 k).2.2.1 = some (tyX6 k) := by decide +kernel
abbrev cX6_init : ByteArray := prog_8_method_1_code
def yX6_init : MethodName := ⟨RX6, "<init>", "()V"⟩
def RX7 : String := "TicketScales$Scale"
def TX7 : u_T := fun k => match k with
  | 0 => ("TicketScales$Scale", "step", "I", false)
  | 1 => ("TicketScales$Scale", "limit", "I", false)
  | _ => ("TicketScales$Scale", "bias", "I", false)
def tyX7 : Nat → FieldType := fun k => match k with
  | 0 => .int
  | 1 => .int
  | _ => .int
abbrev wsX70 : List Cond := u_ws RX7 TX7 3
theorem nmX7 : ∀ a, a < 3 → ∀ b, b < 3 → a ≠ b → (TX7 a).2.1 ≠ (TX7 b).2.1 := by decide +kernel
theorem tyX7_ok : ∀ k, k < 3 → parseFieldDescriptor (TX7 k).2.2.1 = some (tyX7 k) := by decide +kernel
abbrev cX7_init : ByteArray := prog_9_method_1_code
def yX7_init : MethodName := ⟨RX7, "<init>", "()V"⟩
abbrev cX7_copyFrom : ByteArray := prog_9_method_2_code
def yX7_copyFrom : MethodName := ⟨RX7, "copyFrom", "(LTicketScales$Scale;)V"⟩
abbrev cX7_shows : ByteArray := prog_9_method_3_code
def yX7_shows : MethodName := ⟨RX7, "shows", "(I)Z"⟩
abbrev cX7_loadFrom : ByteArray := prog_9_method_4_code
def yX7_loadFrom : MethodName := ⟨RX7, "loadFrom", "(I)I"⟩
abbrev cX7_loadTo : ByteArray := prog_9_method_5_code
def yX7_loadTo : MethodName := ⟨RX7, "loadTo", "(I)I"⟩
abbrev cX7_leastCount : ByteArray := prog_9_method_6_code
def yX7_leastCount : MethodName := ⟨RX7, "leastCount", "(ILTicketScales$Kind;)I"⟩
abbrev cX7_greatestCount : ByteArray := prog_9_method_7_code
def yX7_greatestCount : MethodName := ⟨RX7, "greatestCount", "(ILTicketScales$Kind;)I"⟩
abbrev cX7_guessFrom : ByteArray := prog_9_method_8_code
def yX7_guessFrom : MethodName := ⟨RX7, "guessFrom", "(ILTicketScales$Kind;I)I"⟩
abbrev cX7_nearestCount : ByteArray := prog_9_method_9_code
def yX7_nearestCount : MethodName := ⟨RX7, "nearestCount", "(II)I"⟩
abbrev cX7_apartFromNext : ByteArray := prog_9_method_10_code
def yX7_apartFromNext : MethodName := ⟨RX7, "apartFromNext", "(ILTicketScales$Kind;I)Z"⟩
abbrev cX7_lastApart : ByteArray := prog_9_method_11_code
def yX7_lastApart : MethodName := ⟨RX7, "lastApart", "(LTicketScales$Kind;)I"⟩
abbrev cX7_greatestStep : ByteArray := prog_9_method_12_code
def yX7_greatestStep : MethodName := ⟨RX7, "greatestStep", "(LTicketScales$Kind;I)I"⟩
abbrev cX7_allApart : ByteArray := prog_9_method_13_code
def yX7_allApart : MethodName := ⟨RX7, "allApart", "(ILTicketScales$Kind;I)Z"⟩
abbrev cX7_mixedPairs : ByteArray := prog_9_method_14_code
def yX7_mixedPairs : MethodName := ⟨RX7, "mixedPairs", "(LTicketScales$Kind;LTicketScales$Kind;II)I"⟩
abbrev cX7_pairsOf : ByteArray := prog_9_method_15_code
def yX7_pairsOf : MethodName := ⟨RX7, "pairsOf", "(ILTicketScales$Kind;LTicketScales$Kind;I)I"⟩
def RX8 : String := "TicketScales$State"
def TX8 : u_T := fun k => match k with
  | 0 => ("TicketScales$State", "counter", "LTicketScales$Counter;", true)
  | 1 => ("TicketScales$State", "slots", "[LTicketScales$Counter;", true)
  | _ => ("TicketScales$State", "filled", "[Z", true)
def tyX8 : Nat → FieldType := fun k => match k with
  | 0 => .object "TicketScales$Counter"
  | 1 => .array (.object "TicketScales$Counter")
  | _ => .array .boolean
abbrev wsX80 : List Cond := u_ws RX8 TX8 3
theorem nmX8 : ∀ a, a < 3 → ∀ b, b < 3 → a ≠ b → (TX8 a).2.1 ≠ (TX8 b).2.1 := by decide +kernel
theorem tyX8_ok : ∀ k, k < 3 → parseFieldDescriptor (TX8 k).2.2.1 = some (tyX8 k) := by decide +kernel
abbrev cX8_init : ByteArray := prog_10_method_1_code
def yX8_init : MethodName := ⟨RX8, "<init>", "()V"⟩
abbrev cX8_copyFrom : ByteArray := prog_10_method_2_code
def yX8_copyFrom : MethodName := ⟨RX8, "copyFrom", "(LTicketScales$State;)V"⟩
abbrev cX8_slotsInUse : ByteArray := prog_10_method_5_code
def yX8_slotsInUse : MethodName := ⟨RX8, "slotsInUse", "()I"⟩
def RX9 : String := "TicketScales"
def TX9 : u_T := fun k => match k with
  | 0 => ("TicketScales", "history", "LTicketScales$History;", true)
  | 1 => ("TicketScales", "program", "LTicketScales$Program;", true)
  | _ => ("TicketScales", "trial", "LTicketScales$Prize;", true)
def tyX9 : Nat → FieldType := fun k => match k with
  | 0 => .object "TicketScales$History"
  | 1 => .object "TicketScales$Program"
  | _ => .object "TicketScales$Prize"
abbrev wsX90 : List Cond := u_ws RX9 TX9 3
theorem nmX9 : ∀ a, a < 3 → ∀ b, b < 3 → a ≠ b → (TX9 a).2.1 ≠ (TX9 b).2.1 := by decide +kernel
theorem tyX9_ok : ∀ k, k < 3 → parseFieldDescriptor (TX9 k).2.2.1 = some (tyX9 k) := by decide +kernel
abbrev cX9_init : ByteArray := prog_1_method_1_code
def yX9_init : MethodName := ⟨RX9, "<init>", "()V"⟩
abbrev cX9_setKind : ByteArray := prog_1_method_2_code
def yX9_setKind : MethodName := ⟨RX9, "setKind", "(III)I"⟩
abbrev cX9_setScale : ByteArray := prog_1_method_3_code
def yX9_setScale : MethodName := ⟨RX9, "setScale", "(II)I"⟩
abbrev cX9_setBias : ByteArray := prog_1_method_4_code
def yX9_setBias : MethodName := ⟨RX9, "setBias", "(I)I"⟩
abbrev cX9_setRule : ByteArray := prog_1_method_5_code
def yX9_setRule : MethodName := ⟨RX9, "setRule", "(I)I"⟩
abbrev cX9_come : ByteArray := prog_1_method_7_code
def yX9_come : MethodName := ⟨RX9, "come", "(I)I"⟩
abbrev cX9_leave : ByteArray := prog_1_method_8_code
def yX9_leave : MethodName := ⟨RX9, "leave", "(I)I"⟩
abbrev cX9_weigh : ByteArray := prog_1_method_9_code
def yX9_weigh : MethodName := ⟨RX9, "weigh", "(IIII)I"⟩
abbrev cX9_claim : ByteArray := prog_1_method_10_code
def yX9_claim : MethodName := ⟨RX9, "claim", "(II)I"⟩
abbrev cX9_addPrize : ByteArray := prog_1_method_11_code
def yX9_addPrize : MethodName := ⟨RX9, "addPrize", "(IIIII)I"⟩
abbrev cX9_buy : ByteArray := prog_1_method_14_code
def yX9_buy : MethodName := ⟨RX9, "buy", "(III)I"⟩
abbrev cX9_undo : ByteArray := prog_1_method_17_code
def yX9_undo : MethodName := ⟨RX9, "undo", "()I"⟩
abbrev cX9_count : ByteArray := prog_1_method_22_code
def yX9_count : MethodName := ⟨RX9, "count", "(I)I"⟩
abbrev cX9_kind : ByteArray := prog_1_method_23_code
def yX9_kind : MethodName := ⟨RX9, "kind", "(II)I"⟩
abbrev cX9_customer : ByteArray := prog_1_method_24_code
def yX9_customer : MethodName := ⟨RX9, "customer", "(II)I"⟩
abbrev cX9_prize : ByteArray := prog_1_method_25_code
def yX9_prize : MethodName := ⟨RX9, "prize", "(II)I"⟩
abbrev cX9_read : ByteArray := prog_1_method_26_code
def yX9_read : MethodName := ⟨RX9, "read", "(I)I"⟩
abbrev cX9_allowed : ByteArray := prog_1_method_27_code
def yX9_allowed : MethodName := ⟨RX9, "allowed", "(III)I"⟩
abbrev cX9_guess : ByteArray := prog_1_method_28_code
def yX9_guess : MethodName := ⟨RX9, "guess", "(III)I"⟩
abbrev cX9_apartUpTo : ByteArray := prog_1_method_29_code
def yX9_apartUpTo : MethodName := ⟨RX9, "apartUpTo", "(I)I"⟩
abbrev cX9_bestStep : ByteArray := prog_1_method_30_code
def yX9_bestStep : MethodName := ⟨RX9, "bestStep", "(II)I"⟩
abbrev cX9_mixed : ByteArray := prog_1_method_31_code
def yX9_mixed : MethodName := ⟨RX9, "mixed", "(IIII)I"⟩
abbrev cX9_would : ByteArray := prog_1_method_32_code
def yX9_would : MethodName := ⟨RX9, "would", "(I)I"⟩
abbrev cX9_fairest : ByteArray := prog_1_method_33_code
def yX9_fairest : MethodName := ⟨RX9, "fairest", "()I"⟩
abbrev cX9_soldOut : ByteArray := prog_1_method_34_code
def yX9_soldOut : MethodName := ⟨RX9, "soldOut", "(I)I"⟩
abbrev cX9_shop : ByteArray := prog_1_method_35_code
def yX9_shop : MethodName := ⟨RX9, "shop", "(II)I"⟩
abbrev cX9_counter : ByteArray := prog_1_method_36_code
def yX9_counter : MethodName := ⟨RX9, "counter", "()LTicketScales$Counter;"⟩
abbrev cX9_within : ByteArray := prog_1_method_37_code
def yX9_within : MethodName := ⟨RX9, "within", "(III)Z"⟩
abbrev cX9_isError : ByteArray := prog_1_method_38_code
def yX9_isError : MethodName := ⟨RX9, "isError", "(I)Z"⟩
abbrev cX9_quotient : ByteArray := prog_1_method_39_code
def yX9_quotient : MethodName := ⟨RX9, "quotient", "(II)I"⟩
abbrev cX9_readingAt : ByteArray := prog_1_method_40_code
def yX9_readingAt : MethodName := ⟨RX9, "readingAt", "(II)I"⟩
def RX10 : String := "TicketScalesModel"
def TX10 : u_T := fun k => match k with
  | _ => ("", "", "", false)
def tyX10 : Nat → FieldType := fun k => match k with
  | _ => .int
abbrev wsX100 : List Cond := u_ws RX10 TX10 0
theorem nmX10 : ∀ a, a < 0 → ∀ b, b < 0 → a ≠ b → (TX10 a).2.1 ≠ (TX10 b).2.1 := by decide +kernel
theorem tyX10_ok : ∀ k, k < 0 → parseFieldDescriptor (TX10 k).2.2.1 = some (tyX10 k) := by decide +kernel
def RJ9 : String := "java/lang/Math"
def TJ9 : u_T := fun k => match k with
  | _ => ("", "", "", false)
def tyJ9 : Nat → FieldType := fun k => match k with
  | _ => .int
abbrev wsJ90 : List Cond := u_ws RJ9 TJ9 0
theorem nmJ9 : ∀ a, a < 0 → ∀ b, b < 0 → a ≠ b → (TJ9 a).2.1 ≠ (TJ9 b).2.1 := by decide +kernel
theorem tyJ9_ok : ∀ k, k < 0 → parseFieldDescriptor (TJ9 k).2.2.1 = some (tyJ9 k) := by decide +kernel
abbrev cJ9_floorDiv_7cf53 : ByteArray := prog_13_method_47_code
def yJ9_floorDiv_7cf53 : MethodName := ⟨RJ9, "floorDiv", "(II)I"⟩
abbrev cJ9_abs_0f7a4 : ByteArray := prog_13_method_59_code
def yJ9_abs_0f7a4 : MethodName := ⟨RJ9, "abs", "(I)I"⟩
abbrev cJ9_max_7cf53 : ByteArray := prog_13_method_65_code
def yJ9_max_7cf53 : MethodName := ⟨RJ9, "max", "(II)I"⟩
abbrev cJ9_min_7cf53 : ByteArray := prog_13_method_69_code
def yJ9_min_7cf53 : MethodName := ⟨RJ9, "min", "(II)I"⟩
def RL : String := "TicketScalesLaw"
abbrev cL_cell : ByteArray := method_2_code
def yL_cell : MethodName := ⟨RL, "cell", "([II)I"⟩
abbrev cL_reading : ByteArray := method_3_code
def yL_reading : MethodName := ⟨RL, "reading", "(LTicketScales;II)Z"⟩
abbrev cL_holds : ByteArray := method_4_code
def yL_holds : MethodName := ⟨RL, "holds", "(LTicketScales;)Z"⟩
abbrev cL_apart : ByteArray := method_5_code
def yL_apart : MethodName := ⟨RL, "apart", "(LTicketScales;II)Z"⟩
abbrev cL_weighs : ByteArray := method_6_code
def yL_weighs : MethodName := ⟨RL, "weighs", "(LTicketScales;II)Z"⟩
abbrev cL_claims : ByteArray := method_7_code
def yL_claims : MethodName := ⟨RL, "claims", "(LTicketScales;II)Z"⟩
abbrev cL_law : ByteArray := code
def yL_law : MethodName := ⟨RL, "law", "([I)Z"⟩
def wsX7_init : List Cond := .code yX7_init cX7_init 1 none :: ([.methodLink RX7 3 objectInit, .instanceMethod objectInit, .code objectInit ⟨#[0xb1]⟩ 1 none, .fieldLink RX7 9 "TicketScales$Scale" "step" "I", .fieldLink RX7 15 "TicketScales$Scale" "limit" "I"] ++ wsX70)
def wsX4_init : List Cond := .code yX4_init cX4_init 1 none :: ([.methodLink RX4 1 objectInit, .instanceMethod objectInit, .code objectInit ⟨#[0xb1]⟩ 1 none, .fieldLink RX4 7 "TicketScales$Kind" "weight" "I", .fieldLink RX4 13 "TicketScales$Kind" "spread" "I"] ++ wsX40)
def wsX1_init : List Cond := .code yX1_init cX1_init 1 none :: ([.methodLink RX1 3 objectInit, .instanceMethod objectInit, .code objectInit ⟨#[0xb1]⟩ 1 none])
def wsX5_init : List Cond := .code yX5_init cX5_init 1 none :: ([.methodLink RX5 3 objectInit, .instanceMethod objectInit, .code objectInit ⟨#[0xb1]⟩ 1 none])
def wsX0_init_r1 : List Cond := [Cond.methodLink RX0 3 objectInit, Cond.instanceMethod objectInit, Cond.code objectInit ⟨#[0xb1]⟩ 1 none, Cond.classLink RX0 9 RX4, Cond.fieldLink RX0 11 "TicketScales$Counter" "kinds" "[LTicketScales$Kind;", Cond.classLink RX0 17 RX7, Cond.instantiable RX7 3, Cond.initialized RX7, Cond.fieldLink RX0 20 "TicketScales$Counter" "scale" "LTicketScales$Scale;", Cond.classLink RX0 24 RX1, Cond.fieldLink RX0 26 "TicketScales$Counter" "customers" "[LTicketScales$Customer;", Cond.classLink RX0 30 RX5, Cond.fieldLink RX0 32 "TicketScales$Counter" "prizes" "[LTicketScales$Prize;", Cond.fieldLink RX0 36 "TicketScales$Counter" "fee" "I", Cond.instantiable RX4 2, Cond.initialized RX4, Cond.instantiable RX1 6, Cond.initialized RX1, Cond.instantiable RX5 7, Cond.initialized RX5, Cond.instanceMethod yX7_init, Cond.code yX7_init cX7_init 1 none, Cond.methodLink RX7 3 objectInit, Cond.fieldLink RX7 9 "TicketScales$Scale" "step" "I"]
def wsX0_init_r2 : List Cond := [Cond.fieldLink RX7 15 "TicketScales$Scale" "limit" "I", Cond.instanceMethod yX4_init, Cond.code yX4_init cX4_init 1 none, Cond.methodLink RX4 1 objectInit, Cond.fieldLink RX4 7 "TicketScales$Kind" "weight" "I", Cond.fieldLink RX4 13 "TicketScales$Kind" "spread" "I", Cond.instanceMethod yX1_init, Cond.code yX1_init cX1_init 1 none, Cond.methodLink RX1 3 objectInit, Cond.instanceMethod yX5_init, Cond.code yX5_init cX5_init 1 none, Cond.methodLink RX5 3 objectInit]
def wsX0_init : List Cond := .code yX0_init cX0_init 2 none :: ((wsX0_init_r1 ++ wsX0_init_r2) ++ wsX00 ++ wsX70 ++ wsX40 ++ wsX10 ++ wsX50)
def wsX4_copyFrom : List Cond := .code yX4_copyFrom cX4_copyFrom 2 none :: ([.fieldLink RX4 7 "TicketScales$Kind" "weight" "I", .fieldLink RX4 13 "TicketScales$Kind" "spread" "I"] ++ wsX40)
def wsX1_copyFrom : List Cond := .code yX1_copyFrom cX1_copyFrom 2 none :: ([.fieldLink RX1 9 "TicketScales$Customer" "points" "I", .fieldLink RX1 15 "TicketScales$Customer" "kept" "Z", .fieldLink RX1 19 "TicketScales$Customer" "kind" "I", .fieldLink RX1 22 "TicketScales$Customer" "count" "I", .fieldLink RX1 25 "TicketScales$Customer" "reading" "I", .fieldLink RX1 28 "TicketScales$Customer" "guess" "I"] ++ wsX10)
def wsX5_copyFrom : List Cond := .code yX5_copyFrom cX5_copyFrom 2 none :: ([.fieldLink RX5 9 "TicketScales$Prize" "price" "I", .fieldLink RX5 15 "TicketScales$Prize" "weight" "I", .fieldLink RX5 18 "TicketScales$Prize" "stock" "I", .fieldLink RX5 21 "TicketScales$Prize" "mark" "I", .fieldLink RX5 24 "TicketScales$Prize" "box" "I", .fieldLink RX5 27 "TicketScales$Prize" "sold" "I", .fieldLink RX5 30 "TicketScales$Prize" "boxes" "I"] ++ wsX50)
def wsX7_copyFrom : List Cond := .code yX7_copyFrom cX7_copyFrom 2 none :: ([.fieldLink RX7 9 "TicketScales$Scale" "step" "I", .fieldLink RX7 15 "TicketScales$Scale" "limit" "I", .fieldLink RX7 18 "TicketScales$Scale" "bias" "I"] ++ wsX70)
def wsX0_copyFrom_r1 : List Cond := [Cond.fieldLink RX0 11 "TicketScales$Counter" "kinds" "[LTicketScales$Kind;", Cond.fieldLink RX0 26 "TicketScales$Counter" "customers" "[LTicketScales$Customer;", Cond.fieldLink RX0 32 "TicketScales$Counter" "prizes" "[LTicketScales$Prize;", Cond.fieldLink RX0 20 "TicketScales$Counter" "scale" "LTicketScales$Scale;", Cond.fieldLink RX0 56 "TicketScales$Counter" "customerCount" "I", Cond.fieldLink RX0 59 "TicketScales$Counter" "prizeCount" "I", Cond.fieldLink RX0 62 "TicketScales$Counter" "rule" "I", Cond.fieldLink RX0 36 "TicketScales$Counter" "fee" "I", Cond.fieldLink RX0 65 "TicketScales$Counter" "gift" "I", Cond.methodLink RX0 43 yX4_copyFrom, Cond.instanceMethod yX4_copyFrom, Cond.selects RX4 yX4_copyFrom yX4_copyFrom, Cond.initialized RX4, Cond.code yX4_copyFrom cX4_copyFrom 2 none, Cond.fieldLink RX4 7 "TicketScales$Kind" "weight" "I", Cond.fieldLink RX4 13 "TicketScales$Kind" "spread" "I", Cond.methodLink RX0 47 yX1_copyFrom, Cond.instanceMethod yX1_copyFrom, Cond.selects RX1 yX1_copyFrom yX1_copyFrom, Cond.initialized RX1, Cond.code yX1_copyFrom cX1_copyFrom 2 none, Cond.fieldLink RX1 9 "TicketScales$Customer" "points" "I", Cond.fieldLink RX1 15 "TicketScales$Customer" "kept" "Z", Cond.fieldLink RX1 19 "TicketScales$Customer" "kind" "I"]
def wsX0_copyFrom_r2 : List Cond := [Cond.fieldLink RX1 22 "TicketScales$Customer" "count" "I", Cond.fieldLink RX1 25 "TicketScales$Customer" "reading" "I", Cond.fieldLink RX1 28 "TicketScales$Customer" "guess" "I", Cond.methodLink RX0 50 yX5_copyFrom, Cond.instanceMethod yX5_copyFrom, Cond.selects RX5 yX5_copyFrom yX5_copyFrom, Cond.initialized RX5, Cond.code yX5_copyFrom cX5_copyFrom 2 none, Cond.fieldLink RX5 9 "TicketScales$Prize" "price" "I", Cond.fieldLink RX5 15 "TicketScales$Prize" "weight" "I", Cond.fieldLink RX5 18 "TicketScales$Prize" "stock" "I", Cond.fieldLink RX5 21 "TicketScales$Prize" "mark" "I", Cond.fieldLink RX5 24 "TicketScales$Prize" "box" "I", Cond.fieldLink RX5 27 "TicketScales$Prize" "sold" "I", Cond.fieldLink RX5 30 "TicketScales$Prize" "boxes" "I", Cond.methodLink RX0 53 yX7_copyFrom, Cond.instanceMethod yX7_copyFrom, Cond.selects RX7 yX7_copyFrom yX7_copyFrom, Cond.initialized RX7, Cond.code yX7_copyFrom cX7_copyFrom 2 none, Cond.fieldLink RX7 9 "TicketScales$Scale" "step" "I", Cond.fieldLink RX7 15 "TicketScales$Scale" "limit" "I", Cond.fieldLink RX7 18 "TicketScales$Scale" "bias" "I"]
def wsX0_copyFrom : List Cond := .code yX0_copyFrom cX0_copyFrom 3 none :: ((wsX0_copyFrom_r1 ++ wsX0_copyFrom_r2) ++ wsX00 ++ wsX40 ++ wsX10 ++ wsX50 ++ wsX70)
def wsX9_within : List Cond := .code yX9_within cX9_within 3 (some .boolean) :: ([])
def wsX0_kindAt : List Cond := .code yX0_kindAt cX0_kindAt 2 (some (.object "TicketScales$Kind")) :: ([.fieldLink RX0 11 "TicketScales$Counter" "kinds" "[LTicketScales$Kind;", .static yX9_within, .initialized RX9, .code yX9_within cX9_within 3 (some .boolean)] ++ wsX00)
def wsX0_customerAt : List Cond := .code yX0_customerAt cX0_customerAt 3 (some (.object "TicketScales$Customer")) :: ([.fieldLink RX0 56 "TicketScales$Counter" "customerCount" "I", .fieldLink RX0 26 "TicketScales$Counter" "customers" "[LTicketScales$Customer;", .static yX9_within, .initialized RX9, .code yX9_within cX9_within 3 (some .boolean)] ++ wsX00)
def wsX0_prizeAt : List Cond := .code yX0_prizeAt cX0_prizeAt 3 (some (.object "TicketScales$Prize")) :: ([.fieldLink RX0 59 "TicketScales$Counter" "prizeCount" "I", .fieldLink RX0 32 "TicketScales$Counter" "prizes" "[LTicketScales$Prize;", .static yX9_within, .initialized RX9, .code yX9_within cX9_within 3 (some .boolean)] ++ wsX00)
def wsX0_changeKind : List Cond := .code yX0_changeKind cX0_changeKind 6 (some .int) :: ([.constant RX0 76 (-100001), .fieldLink RX0 77 "TicketScales$Kind" "weight" "I", .fieldLink RX0 80 "TicketScales$Kind" "spread" "I", .methodLink RX0 72 yX0_kindAt, .instanceMethod yX0_kindAt, .selects RX0 yX0_kindAt yX0_kindAt, .initialized RX0, .code yX0_kindAt cX0_kindAt 2 (some (.object "TicketScales$Kind")), .fieldLink RX0 11 "TicketScales$Counter" "kinds" "[LTicketScales$Kind;", .static yX9_within, .initialized RX9, .code yX9_within cX9_within 3 (some .boolean)] ++ wsX40 ++ wsX00)
def wsX0_changeScale : List Cond := .code yX0_changeScale cX0_changeScale 3 (some .int) :: ([.constant RX0 76 (-100001), .fieldLink RX0 20 "TicketScales$Counter" "scale" "LTicketScales$Scale;", .fieldLink RX0 83 "TicketScales$Scale" "step" "I", .fieldLink RX0 86 "TicketScales$Scale" "limit" "I", .fieldLink RX0 89 "TicketScales$Scale" "bias" "I", .methodLink RX0 92 Lib.Math.min.name, .static Lib.Math.min.name, .initialized "java/lang/Math", .code Lib.Math.min.name Lib.Math.min.code 2 (some .int), .methodLink RX0 98 Lib.Math.max.name, .static Lib.Math.max.name, .code Lib.Math.max.name Lib.Math.max.code 2 (some .int), .static yX9_within, .initialized RX9, .code yX9_within cX9_within 3 (some .boolean)] ++ wsX00 ++ wsX70)
def wsX0_changeBias : List Cond := .code yX0_changeBias cX0_changeBias 3 (some .int) :: ([.fieldLink RX0 20 "TicketScales$Counter" "scale" "LTicketScales$Scale;", .fieldLink RX0 86 "TicketScales$Scale" "limit" "I", .constant RX0 76 (-100001), .fieldLink RX0 89 "TicketScales$Scale" "bias" "I", .static yX9_within, .initialized RX9, .code yX9_within cX9_within 3 (some .boolean)] ++ wsX00 ++ wsX70)
def wsX0_changeRule : List Cond := .code yX0_changeRule cX0_changeRule 3 (some .int) :: ([.constant RX0 76 (-100001), .fieldLink RX0 62 "TicketScales$Counter" "rule" "I", .static yX9_within, .initialized RX9, .code yX9_within cX9_within 3 (some .boolean)] ++ wsX00)
def wsX1_begin : List Cond := .code yX1_begin cX1_begin 2 none :: ([.fieldLink RX1 9 "TicketScales$Customer" "points" "I", .fieldLink RX1 15 "TicketScales$Customer" "kept" "Z"] ++ wsX10)
def wsX0_addCustomer : List Cond := .code yX0_addCustomer cX0_addCustomer 2 (some .int) :: ([.constant RX0 76 (-100001), .fieldLink RX0 56 "TicketScales$Counter" "customerCount" "I", .constant RX0 101 (-100003), .fieldLink RX0 26 "TicketScales$Counter" "customers" "[LTicketScales$Customer;", .static yX9_within, .initialized RX9, .code yX9_within cX9_within 3 (some .boolean), .methodLink RX0 102 yX1_begin, .instanceMethod yX1_begin, .selects RX1 yX1_begin yX1_begin, .initialized RX1, .code yX1_begin cX1_begin 2 none, .fieldLink RX1 9 "TicketScales$Customer" "points" "I", .fieldLink RX1 15 "TicketScales$Customer" "kept" "Z"] ++ wsX00 ++ wsX10)
def wsX0_dropCustomer : List Cond := .code yX0_dropCustomer cX0_dropCustomer 5 (some .int) :: ([.constant RX0 76 (-100001), .fieldLink RX0 110 "TicketScales$Customer" "points" "I", .fieldLink RX0 26 "TicketScales$Counter" "customers" "[LTicketScales$Customer;", .fieldLink RX0 56 "TicketScales$Counter" "customerCount" "I", .methodLink RX0 106 yX0_customerAt, .instanceMethod yX0_customerAt, .selects RX0 yX0_customerAt yX0_customerAt, .initialized RX0, .code yX0_customerAt cX0_customerAt 3 (some (.object "TicketScales$Customer")), .static yX9_within, .initialized RX9, .code yX9_within cX9_within 3 (some .boolean), .methodLink RX0 102 yX1_begin, .instanceMethod yX1_begin, .selects RX1 yX1_begin yX1_begin, .initialized RX1, .code yX1_begin cX1_begin 2 none, .fieldLink RX1 9 "TicketScales$Customer" "points" "I", .fieldLink RX1 15 "TicketScales$Customer" "kept" "Z"] ++ wsX10 ++ wsX00)
def wsJ9_floorDiv_7cf53 : List Cond := .code yJ9_floorDiv_7cf53 cJ9_floorDiv_7cf53 3 (some .int) :: ([])
def wsX9_quotient : List Cond := .code yX9_quotient cX9_quotient 2 (some .int) :: ([.methodLink RX9 227 yJ9_floorDiv_7cf53, .static yJ9_floorDiv_7cf53, .initialized RJ9, .code yJ9_floorDiv_7cf53 cJ9_floorDiv_7cf53 3 (some .int)])
def wsX9_readingAt : List Cond := .code yX9_readingAt cX9_readingAt 2 (some .int) :: ([.methodLink RX9 235 Lib.Math.max.name, .static Lib.Math.max.name, .initialized "java/lang/Math", .code Lib.Math.max.name Lib.Math.max.code 2 (some .int), .methodLink RX9 232 yX9_quotient, .static yX9_quotient, .initialized RX9, .code yX9_quotient cX9_quotient 2 (some .int), .methodLink RX9 227 yJ9_floorDiv_7cf53, .static yJ9_floorDiv_7cf53, .initialized RJ9, .code yJ9_floorDiv_7cf53 cJ9_floorDiv_7cf53 3 (some .int)])
def wsX4_heaviest : List Cond := .code yX4_heaviest cX4_heaviest 1 (some .int) :: ([.fieldLink RX4 7 "TicketScales$Kind" "weight" "I", .fieldLink RX4 13 "TicketScales$Kind" "spread" "I"] ++ wsX40)
def wsX7_loadFrom : List Cond := .code yX7_loadFrom cX7_loadFrom 2 (some .int) :: ([.fieldLink RX7 9 "TicketScales$Scale" "step" "I"] ++ wsX70)
def wsX7_leastCount_r1 : List Cond := [Cond.fieldLink RX7 15 "TicketScales$Scale" "limit" "I", Cond.methodLink RX7 35 Lib.Math.max.name, Cond.static Lib.Math.max.name, Cond.initialized "java/lang/Math", Cond.code Lib.Math.max.name Lib.Math.max.code 2 (some .int), Cond.methodLink RX7 21 yX4_heaviest, Cond.instanceMethod yX4_heaviest, Cond.selects RX4 yX4_heaviest yX4_heaviest, Cond.initialized RX4, Cond.code yX4_heaviest cX4_heaviest 1 (some .int), Cond.fieldLink RX4 7 "TicketScales$Kind" "weight" "I", Cond.fieldLink RX4 13 "TicketScales$Kind" "spread" "I", Cond.methodLink RX7 27 yX7_loadFrom, Cond.instanceMethod yX7_loadFrom, Cond.selects RX7 yX7_loadFrom yX7_loadFrom, Cond.initialized RX7, Cond.code yX7_loadFrom cX7_loadFrom 2 (some .int), Cond.fieldLink RX7 9 "TicketScales$Scale" "step" "I", Cond.static yX9_quotient, Cond.initialized RX9, Cond.code yX9_quotient cX9_quotient 2 (some .int), Cond.methodLink RX9 227 yJ9_floorDiv_7cf53, Cond.static yJ9_floorDiv_7cf53, Cond.initialized RJ9]
def wsX7_leastCount_r2 : List Cond := [Cond.code yJ9_floorDiv_7cf53 cJ9_floorDiv_7cf53 3 (some .int)]
def wsX7_leastCount : List Cond := .code yX7_leastCount cX7_leastCount 5 (some .int) :: ((wsX7_leastCount_r1 ++ wsX7_leastCount_r2) ++ wsX70 ++ wsX40)
def wsX7_shows : List Cond := .code yX7_shows cX7_shows 2 (some .boolean) :: ([.fieldLink RX7 9 "TicketScales$Scale" "step" "I"] ++ wsX70)
def wsX7_loadTo : List Cond := .code yX7_loadTo cX7_loadTo 2 (some .int) :: ([.fieldLink RX7 9 "TicketScales$Scale" "step" "I"] ++ wsX70)
def wsX4_lightest : List Cond := .code yX4_lightest cX4_lightest 1 (some .int) :: ([.fieldLink RX4 7 "TicketScales$Kind" "weight" "I", .fieldLink RX4 13 "TicketScales$Kind" "spread" "I"] ++ wsX40)
def wsX7_greatestCount_r1 : List Cond := [Cond.fieldLink RX7 15 "TicketScales$Scale" "limit" "I", Cond.methodLink RX7 40 yX7_shows, Cond.instanceMethod yX7_shows, Cond.selects RX7 yX7_shows yX7_shows, Cond.initialized RX7, Cond.code yX7_shows cX7_shows 2 (some .boolean), Cond.fieldLink RX7 9 "TicketScales$Scale" "step" "I", Cond.methodLink RX7 44 yX7_loadTo, Cond.instanceMethod yX7_loadTo, Cond.selects RX7 yX7_loadTo yX7_loadTo, Cond.code yX7_loadTo cX7_loadTo 2 (some .int), Cond.methodLink RX7 47 yX4_lightest, Cond.instanceMethod yX4_lightest, Cond.selects RX4 yX4_lightest yX4_lightest, Cond.initialized RX4, Cond.code yX4_lightest cX4_lightest 1 (some .int), Cond.fieldLink RX4 7 "TicketScales$Kind" "weight" "I", Cond.fieldLink RX4 13 "TicketScales$Kind" "spread" "I", Cond.static yX9_quotient, Cond.initialized RX9, Cond.code yX9_quotient cX9_quotient 2 (some .int), Cond.methodLink RX9 227 yJ9_floorDiv_7cf53, Cond.static yJ9_floorDiv_7cf53, Cond.initialized RJ9]
def wsX7_greatestCount_r2 : List Cond := [Cond.code yJ9_floorDiv_7cf53 cJ9_floorDiv_7cf53 3 (some .int)]
def wsX7_greatestCount : List Cond := .code yX7_greatestCount cX7_greatestCount 3 (some .int) :: ((wsX7_greatestCount_r1 ++ wsX7_greatestCount_r2) ++ wsX70 ++ wsX40)
def wsX7_nearestCount : List Cond := .code yX7_nearestCount cX7_nearestCount 5 (some .int) :: ([.static yX9_quotient, .initialized RX9, .code yX9_quotient cX9_quotient 2 (some .int), .methodLink RX9 227 yJ9_floorDiv_7cf53, .static yJ9_floorDiv_7cf53, .initialized RJ9, .code yJ9_floorDiv_7cf53 cJ9_floorDiv_7cf53 3 (some .int)])
def wsX7_guessFrom_r1 : List Cond := [Cond.constant RX7 57 (-100009), Cond.fieldLink RX7 58 "TicketScales$Kind" "weight" "I", Cond.methodLink RX7 64 Lib.Math.min.name, Cond.static Lib.Math.min.name, Cond.initialized "java/lang/Math", Cond.code Lib.Math.min.name Lib.Math.min.code 2 (some .int), Cond.methodLink RX7 35 Lib.Math.max.name, Cond.static Lib.Math.max.name, Cond.code Lib.Math.max.name Lib.Math.max.code 2 (some .int), Cond.methodLink RX7 50 yX7_leastCount, Cond.instanceMethod yX7_leastCount, Cond.selects RX7 yX7_leastCount yX7_leastCount, Cond.initialized RX7, Cond.code yX7_leastCount cX7_leastCount 5 (some .int), Cond.fieldLink RX7 15 "TicketScales$Scale" "limit" "I", Cond.methodLink RX7 21 yX4_heaviest, Cond.instanceMethod yX4_heaviest, Cond.selects RX4 yX4_heaviest yX4_heaviest, Cond.initialized RX4, Cond.code yX4_heaviest cX4_heaviest 1 (some .int), Cond.fieldLink RX4 7 "TicketScales$Kind" "weight" "I", Cond.fieldLink RX4 13 "TicketScales$Kind" "spread" "I", Cond.methodLink RX7 27 yX7_loadFrom, Cond.instanceMethod yX7_loadFrom]
def wsX7_guessFrom_r2 : List Cond := [Cond.selects RX7 yX7_loadFrom yX7_loadFrom, Cond.code yX7_loadFrom cX7_loadFrom 2 (some .int), Cond.fieldLink RX7 9 "TicketScales$Scale" "step" "I", Cond.static yX9_quotient, Cond.initialized RX9, Cond.code yX9_quotient cX9_quotient 2 (some .int), Cond.methodLink RX9 227 yJ9_floorDiv_7cf53, Cond.static yJ9_floorDiv_7cf53, Cond.initialized RJ9, Cond.code yJ9_floorDiv_7cf53 cJ9_floorDiv_7cf53 3 (some .int), Cond.methodLink RX7 54 yX7_greatestCount, Cond.instanceMethod yX7_greatestCount, Cond.selects RX7 yX7_greatestCount yX7_greatestCount, Cond.code yX7_greatestCount cX7_greatestCount 3 (some .int), Cond.methodLink RX7 40 yX7_shows, Cond.instanceMethod yX7_shows, Cond.selects RX7 yX7_shows yX7_shows, Cond.code yX7_shows cX7_shows 2 (some .boolean), Cond.methodLink RX7 44 yX7_loadTo, Cond.instanceMethod yX7_loadTo, Cond.selects RX7 yX7_loadTo yX7_loadTo, Cond.code yX7_loadTo cX7_loadTo 2 (some .int), Cond.methodLink RX7 47 yX4_lightest, Cond.instanceMethod yX4_lightest]
def wsX7_guessFrom_r3 : List Cond := [Cond.selects RX4 yX4_lightest yX4_lightest, Cond.code yX4_lightest cX4_lightest 1 (some .int), Cond.methodLink RX7 61 yX7_nearestCount, Cond.instanceMethod yX7_nearestCount, Cond.selects RX7 yX7_nearestCount yX7_nearestCount, Cond.code yX7_nearestCount cX7_nearestCount 5 (some .int)]
def wsX7_guessFrom : List Cond := .code yX7_guessFrom cX7_guessFrom 6 (some .int) :: ((wsX7_guessFrom_r1 ++ (wsX7_guessFrom_r2 ++ wsX7_guessFrom_r3)) ++ wsX40 ++ wsX70)
def wsX1_gain : List Cond := .code yX1_gain cX1_gain 2 none :: ([.fieldLink RX1 9 "TicketScales$Customer" "points" "I", .methodLink RX1 37 Lib.Math.max.name, .static Lib.Math.max.name, .initialized "java/lang/Math", .code Lib.Math.max.name Lib.Math.max.code 2 (some .int)] ++ wsX10)
def wsX1_keep : List Cond := .code yX1_keep cX1_keep 5 none :: ([.fieldLink RX1 15 "TicketScales$Customer" "kept" "Z", .fieldLink RX1 19 "TicketScales$Customer" "kind" "I", .fieldLink RX1 22 "TicketScales$Customer" "count" "I", .fieldLink RX1 25 "TicketScales$Customer" "reading" "I", .fieldLink RX1 28 "TicketScales$Customer" "guess" "I"] ++ wsX10)
def wsX0_weighBundle_r1 : List Cond := [Cond.constant RX0 76 (-100001), Cond.fieldLink RX0 80 "TicketScales$Kind" "spread" "I", Cond.fieldLink RX0 20 "TicketScales$Counter" "scale" "LTicketScales$Scale;", Cond.fieldLink RX0 83 "TicketScales$Scale" "step" "I", Cond.fieldLink RX0 77 "TicketScales$Kind" "weight" "I", Cond.fieldLink RX0 89 "TicketScales$Scale" "bias" "I", Cond.fieldLink RX0 62 "TicketScales$Counter" "rule" "I", Cond.fieldLink RX0 65 "TicketScales$Counter" "gift" "I", Cond.methodLink RX0 106 yX0_customerAt, Cond.instanceMethod yX0_customerAt, Cond.selects RX0 yX0_customerAt yX0_customerAt, Cond.initialized RX0, Cond.code yX0_customerAt cX0_customerAt 3 (some (.object "TicketScales$Customer")), Cond.fieldLink RX0 56 "TicketScales$Counter" "customerCount" "I", Cond.fieldLink RX0 26 "TicketScales$Counter" "customers" "[LTicketScales$Customer;", Cond.static yX9_within, Cond.initialized RX9, Cond.code yX9_within cX9_within 3 (some .boolean), Cond.methodLink RX0 72 yX0_kindAt, Cond.instanceMethod yX0_kindAt, Cond.selects RX0 yX0_kindAt yX0_kindAt, Cond.code yX0_kindAt cX0_kindAt 2 (some (.object "TicketScales$Kind")), Cond.fieldLink RX0 11 "TicketScales$Counter" "kinds" "[LTicketScales$Kind;", Cond.static yX9_readingAt]
def wsX0_weighBundle_r2 : List Cond := [Cond.code yX9_readingAt cX9_readingAt 2 (some .int), Cond.methodLink RX9 235 Lib.Math.max.name, Cond.static Lib.Math.max.name, Cond.initialized "java/lang/Math", Cond.code Lib.Math.max.name Lib.Math.max.code 2 (some .int), Cond.methodLink RX9 232 yX9_quotient, Cond.static yX9_quotient, Cond.code yX9_quotient cX9_quotient 2 (some .int), Cond.methodLink RX9 227 yJ9_floorDiv_7cf53, Cond.static yJ9_floorDiv_7cf53, Cond.initialized RJ9, Cond.code yJ9_floorDiv_7cf53 cJ9_floorDiv_7cf53 3 (some .int), Cond.methodLink RX0 116 yX7_guessFrom, Cond.instanceMethod yX7_guessFrom, Cond.selects RX7 yX7_guessFrom yX7_guessFrom, Cond.initialized RX7, Cond.code yX7_guessFrom cX7_guessFrom 6 (some .int), Cond.constant RX7 57 (-100009), Cond.fieldLink RX7 58 "TicketScales$Kind" "weight" "I", Cond.methodLink RX7 64 Lib.Math.min.name, Cond.static Lib.Math.min.name, Cond.code Lib.Math.min.name Lib.Math.min.code 2 (some .int), Cond.methodLink RX7 35 Lib.Math.max.name, Cond.methodLink RX7 50 yX7_leastCount]
def wsX0_weighBundle_r3 : List Cond := [Cond.instanceMethod yX7_leastCount, Cond.selects RX7 yX7_leastCount yX7_leastCount, Cond.code yX7_leastCount cX7_leastCount 5 (some .int), Cond.fieldLink RX7 15 "TicketScales$Scale" "limit" "I", Cond.methodLink RX7 21 yX4_heaviest, Cond.instanceMethod yX4_heaviest, Cond.selects RX4 yX4_heaviest yX4_heaviest, Cond.initialized RX4, Cond.code yX4_heaviest cX4_heaviest 1 (some .int), Cond.fieldLink RX4 7 "TicketScales$Kind" "weight" "I", Cond.fieldLink RX4 13 "TicketScales$Kind" "spread" "I", Cond.methodLink RX7 27 yX7_loadFrom, Cond.instanceMethod yX7_loadFrom, Cond.selects RX7 yX7_loadFrom yX7_loadFrom, Cond.code yX7_loadFrom cX7_loadFrom 2 (some .int), Cond.fieldLink RX7 9 "TicketScales$Scale" "step" "I", Cond.methodLink RX7 54 yX7_greatestCount, Cond.instanceMethod yX7_greatestCount, Cond.selects RX7 yX7_greatestCount yX7_greatestCount, Cond.code yX7_greatestCount cX7_greatestCount 3 (some .int), Cond.methodLink RX7 40 yX7_shows, Cond.instanceMethod yX7_shows, Cond.selects RX7 yX7_shows yX7_shows, Cond.code yX7_shows cX7_shows 2 (some .boolean)]
def wsX0_weighBundle_r4 : List Cond := [Cond.methodLink RX7 44 yX7_loadTo, Cond.instanceMethod yX7_loadTo, Cond.selects RX7 yX7_loadTo yX7_loadTo, Cond.code yX7_loadTo cX7_loadTo 2 (some .int), Cond.methodLink RX7 47 yX4_lightest, Cond.instanceMethod yX4_lightest, Cond.selects RX4 yX4_lightest yX4_lightest, Cond.code yX4_lightest cX4_lightest 1 (some .int), Cond.methodLink RX7 61 yX7_nearestCount, Cond.instanceMethod yX7_nearestCount, Cond.selects RX7 yX7_nearestCount yX7_nearestCount, Cond.code yX7_nearestCount cX7_nearestCount 5 (some .int), Cond.methodLink RX0 120 yX1_gain, Cond.instanceMethod yX1_gain, Cond.selects RX1 yX1_gain yX1_gain, Cond.initialized RX1, Cond.code yX1_gain cX1_gain 2 none, Cond.fieldLink RX1 9 "TicketScales$Customer" "points" "I", Cond.methodLink RX1 37 Lib.Math.max.name, Cond.methodLink RX0 123 yX1_keep, Cond.instanceMethod yX1_keep, Cond.selects RX1 yX1_keep yX1_keep, Cond.code yX1_keep cX1_keep 5 none, Cond.fieldLink RX1 15 "TicketScales$Customer" "kept" "Z"]
def wsX0_weighBundle_r5 : List Cond := [Cond.fieldLink RX1 19 "TicketScales$Customer" "kind" "I", Cond.fieldLink RX1 22 "TicketScales$Customer" "count" "I", Cond.fieldLink RX1 25 "TicketScales$Customer" "reading" "I", Cond.fieldLink RX1 28 "TicketScales$Customer" "guess" "I"]
def wsX0_weighBundle : List Cond := .code yX0_weighBundle cX0_weighBundle 10 (some .int) :: ((wsX0_weighBundle_r1 ++ (wsX0_weighBundle_r2 ++ (wsX0_weighBundle_r3 ++ (wsX0_weighBundle_r4 ++ wsX0_weighBundle_r5)))) ++ wsX40 ++ wsX00 ++ wsX70 ++ wsX10)
def wsX0_allows_r1 : List Cond := [Cond.fieldLink RX0 20 "TicketScales$Counter" "scale" "LTicketScales$Scale;", Cond.methodLink RX0 152 yX7_leastCount, Cond.instanceMethod yX7_leastCount, Cond.selects RX7 yX7_leastCount yX7_leastCount, Cond.initialized RX7, Cond.code yX7_leastCount cX7_leastCount 5 (some .int), Cond.fieldLink RX7 15 "TicketScales$Scale" "limit" "I", Cond.methodLink RX7 35 Lib.Math.max.name, Cond.static Lib.Math.max.name, Cond.initialized "java/lang/Math", Cond.code Lib.Math.max.name Lib.Math.max.code 2 (some .int), Cond.methodLink RX7 21 yX4_heaviest, Cond.instanceMethod yX4_heaviest, Cond.selects RX4 yX4_heaviest yX4_heaviest, Cond.initialized RX4, Cond.code yX4_heaviest cX4_heaviest 1 (some .int), Cond.fieldLink RX4 7 "TicketScales$Kind" "weight" "I", Cond.fieldLink RX4 13 "TicketScales$Kind" "spread" "I", Cond.methodLink RX7 27 yX7_loadFrom, Cond.instanceMethod yX7_loadFrom, Cond.selects RX7 yX7_loadFrom yX7_loadFrom, Cond.code yX7_loadFrom cX7_loadFrom 2 (some .int), Cond.fieldLink RX7 9 "TicketScales$Scale" "step" "I", Cond.static yX9_quotient]
def wsX0_allows_r2 : List Cond := [Cond.initialized RX9, Cond.code yX9_quotient cX9_quotient 2 (some .int), Cond.methodLink RX9 227 yJ9_floorDiv_7cf53, Cond.static yJ9_floorDiv_7cf53, Cond.initialized RJ9, Cond.code yJ9_floorDiv_7cf53 cJ9_floorDiv_7cf53 3 (some .int), Cond.methodLink RX0 156 yX7_greatestCount, Cond.instanceMethod yX7_greatestCount, Cond.selects RX7 yX7_greatestCount yX7_greatestCount, Cond.code yX7_greatestCount cX7_greatestCount 3 (some .int), Cond.methodLink RX7 40 yX7_shows, Cond.instanceMethod yX7_shows, Cond.selects RX7 yX7_shows yX7_shows, Cond.code yX7_shows cX7_shows 2 (some .boolean), Cond.methodLink RX7 44 yX7_loadTo, Cond.instanceMethod yX7_loadTo, Cond.selects RX7 yX7_loadTo yX7_loadTo, Cond.code yX7_loadTo cX7_loadTo 2 (some .int), Cond.methodLink RX7 47 yX4_lightest, Cond.instanceMethod yX4_lightest, Cond.selects RX4 yX4_lightest yX4_lightest, Cond.code yX4_lightest cX4_lightest 1 (some .int), Cond.static yX9_within, Cond.code yX9_within cX9_within 3 (some .boolean)]
def wsX0_allows : List Cond := .code yX0_allows cX0_allows 4 (some .boolean) :: ((wsX0_allows_r1 ++ wsX0_allows_r2) ++ wsX00 ++ wsX70 ++ wsX40)
def wsX1_isNearer : List Cond := .code yX1_isNearer cX1_isNearer 2 (some .boolean) :: ([.fieldLink RX1 22 "TicketScales$Customer" "count" "I", .methodLink RX1 31 Lib.Math.abs.name, .static Lib.Math.abs.name, .initialized "java/lang/Math", .code Lib.Math.abs.name Lib.Math.abs.code 1 (some .int), .fieldLink RX1 28 "TicketScales$Customer" "guess" "I"] ++ wsX10)
def wsX0_settleClaim_r1 : List Cond := [Cond.constant RX0 76 (-100001), Cond.fieldLink RX0 127 "TicketScales$Customer" "kept" "Z", Cond.fieldLink RX0 131 "TicketScales$Customer" "guess" "I", Cond.constant RX0 134 (-100002), Cond.fieldLink RX0 135 "TicketScales$Customer" "kind" "I", Cond.fieldLink RX0 138 "TicketScales$Customer" "reading" "I", Cond.fieldLink RX0 145 "TicketScales$Customer" "count" "I", Cond.fieldLink RX0 65 "TicketScales$Counter" "gift" "I", Cond.fieldLink RX0 36 "TicketScales$Counter" "fee" "I", Cond.methodLink RX0 106 yX0_customerAt, Cond.instanceMethod yX0_customerAt, Cond.selects RX0 yX0_customerAt yX0_customerAt, Cond.initialized RX0, Cond.code yX0_customerAt cX0_customerAt 3 (some (.object "TicketScales$Customer")), Cond.fieldLink RX0 56 "TicketScales$Counter" "customerCount" "I", Cond.fieldLink RX0 26 "TicketScales$Counter" "customers" "[LTicketScales$Customer;", Cond.static yX9_within, Cond.initialized RX9, Cond.code yX9_within cX9_within 3 (some .boolean), Cond.methodLink RX0 72 yX0_kindAt, Cond.instanceMethod yX0_kindAt, Cond.selects RX0 yX0_kindAt yX0_kindAt, Cond.code yX0_kindAt cX0_kindAt 2 (some (.object "TicketScales$Kind")), Cond.fieldLink RX0 11 "TicketScales$Counter" "kinds" "[LTicketScales$Kind;"]
def wsX0_settleClaim_r2 : List Cond := [Cond.methodLink RX0 141 yX0_allows, Cond.instanceMethod yX0_allows, Cond.selects RX0 yX0_allows yX0_allows, Cond.code yX0_allows cX0_allows 4 (some .boolean), Cond.fieldLink RX0 20 "TicketScales$Counter" "scale" "LTicketScales$Scale;", Cond.methodLink RX0 152 yX7_leastCount, Cond.instanceMethod yX7_leastCount, Cond.selects RX7 yX7_leastCount yX7_leastCount, Cond.initialized RX7, Cond.code yX7_leastCount cX7_leastCount 5 (some .int), Cond.fieldLink RX7 15 "TicketScales$Scale" "limit" "I", Cond.methodLink RX7 35 Lib.Math.max.name, Cond.static Lib.Math.max.name, Cond.initialized "java/lang/Math", Cond.code Lib.Math.max.name Lib.Math.max.code 2 (some .int), Cond.methodLink RX7 21 yX4_heaviest, Cond.instanceMethod yX4_heaviest, Cond.selects RX4 yX4_heaviest yX4_heaviest, Cond.initialized RX4, Cond.code yX4_heaviest cX4_heaviest 1 (some .int), Cond.fieldLink RX4 7 "TicketScales$Kind" "weight" "I", Cond.fieldLink RX4 13 "TicketScales$Kind" "spread" "I", Cond.methodLink RX7 27 yX7_loadFrom, Cond.instanceMethod yX7_loadFrom]
def wsX0_settleClaim_r3 : List Cond := [Cond.selects RX7 yX7_loadFrom yX7_loadFrom, Cond.code yX7_loadFrom cX7_loadFrom 2 (some .int), Cond.fieldLink RX7 9 "TicketScales$Scale" "step" "I", Cond.static yX9_quotient, Cond.code yX9_quotient cX9_quotient 2 (some .int), Cond.methodLink RX9 227 yJ9_floorDiv_7cf53, Cond.static yJ9_floorDiv_7cf53, Cond.initialized RJ9, Cond.code yJ9_floorDiv_7cf53 cJ9_floorDiv_7cf53 3 (some .int), Cond.methodLink RX0 156 yX7_greatestCount, Cond.instanceMethod yX7_greatestCount, Cond.selects RX7 yX7_greatestCount yX7_greatestCount, Cond.code yX7_greatestCount cX7_greatestCount 3 (some .int), Cond.methodLink RX7 40 yX7_shows, Cond.instanceMethod yX7_shows, Cond.selects RX7 yX7_shows yX7_shows, Cond.code yX7_shows cX7_shows 2 (some .boolean), Cond.methodLink RX7 44 yX7_loadTo, Cond.instanceMethod yX7_loadTo, Cond.selects RX7 yX7_loadTo yX7_loadTo, Cond.code yX7_loadTo cX7_loadTo 2 (some .int), Cond.methodLink RX7 47 yX4_lightest, Cond.instanceMethod yX4_lightest, Cond.selects RX4 yX4_lightest yX4_lightest]
def wsX0_settleClaim_r4 : List Cond := [Cond.code yX4_lightest cX4_lightest 1 (some .int), Cond.methodLink RX0 120 yX1_gain, Cond.instanceMethod yX1_gain, Cond.selects RX1 yX1_gain yX1_gain, Cond.initialized RX1, Cond.code yX1_gain cX1_gain 2 none, Cond.fieldLink RX1 9 "TicketScales$Customer" "points" "I", Cond.methodLink RX1 37 Lib.Math.max.name, Cond.methodLink RX0 148 yX1_isNearer, Cond.instanceMethod yX1_isNearer, Cond.selects RX1 yX1_isNearer yX1_isNearer, Cond.code yX1_isNearer cX1_isNearer 2 (some .boolean), Cond.fieldLink RX1 22 "TicketScales$Customer" "count" "I", Cond.methodLink RX1 31 Lib.Math.abs.name, Cond.static Lib.Math.abs.name, Cond.code Lib.Math.abs.name Lib.Math.abs.code 1 (some .int), Cond.fieldLink RX1 28 "TicketScales$Customer" "guess" "I"]
def wsX0_settleClaim : List Cond := .code yX0_settleClaim cX0_settleClaim 5 (some .int) :: ((wsX0_settleClaim_r1 ++ (wsX0_settleClaim_r2 ++ (wsX0_settleClaim_r3 ++ wsX0_settleClaim_r4))) ++ wsX10 ++ wsX00 ++ wsX70 ++ wsX40)
def wsX5_begin : List Cond := .code yX5_begin cX5_begin 6 none :: ([.fieldLink RX5 9 "TicketScales$Prize" "price" "I", .fieldLink RX5 15 "TicketScales$Prize" "weight" "I", .fieldLink RX5 18 "TicketScales$Prize" "stock" "I", .fieldLink RX5 21 "TicketScales$Prize" "mark" "I", .fieldLink RX5 24 "TicketScales$Prize" "box" "I", .fieldLink RX5 27 "TicketScales$Prize" "sold" "I", .fieldLink RX5 30 "TicketScales$Prize" "boxes" "I"] ++ wsX50)
def wsX0_placePrize : List Cond := .code yX0_placePrize cX0_placePrize 6 (some .int) :: ([.constant RX0 76 (-100001), .constant RX0 159 (100000), .fieldLink RX0 59 "TicketScales$Counter" "prizeCount" "I", .constant RX0 101 (-100003), .fieldLink RX0 32 "TicketScales$Counter" "prizes" "[LTicketScales$Prize;", .static yX9_within, .initialized RX9, .code yX9_within cX9_within 3 (some .boolean), .methodLink RX0 160 yX5_begin, .instanceMethod yX5_begin, .selects RX5 yX5_begin yX5_begin, .initialized RX5, .code yX5_begin cX5_begin 6 none, .fieldLink RX5 9 "TicketScales$Prize" "price" "I", .fieldLink RX5 15 "TicketScales$Prize" "weight" "I", .fieldLink RX5 18 "TicketScales$Prize" "stock" "I", .fieldLink RX5 21 "TicketScales$Prize" "mark" "I", .fieldLink RX5 24 "TicketScales$Prize" "box" "I", .fieldLink RX5 27 "TicketScales$Prize" "sold" "I", .fieldLink RX5 30 "TicketScales$Prize" "boxes" "I"] ++ wsX00 ++ wsX50)
def wsX5_sell : List Cond := .code yX5_sell cX5_sell 3 none :: ([.fieldLink RX5 18 "TicketScales$Prize" "stock" "I", .fieldLink RX5 27 "TicketScales$Prize" "sold" "I", .fieldLink RX5 15 "TicketScales$Prize" "weight" "I", .fieldLink RX5 21 "TicketScales$Prize" "mark" "I", .fieldLink RX5 30 "TicketScales$Prize" "boxes" "I", .fieldLink RX5 24 "TicketScales$Prize" "box" "I", .methodLink RX5 37 Lib.Math.min.name, .static Lib.Math.min.name, .initialized "java/lang/Math", .code Lib.Math.min.name Lib.Math.min.code 2 (some .int), .static yX9_quotient, .initialized RX9, .code yX9_quotient cX9_quotient 2 (some .int), .methodLink RX9 227 yJ9_floorDiv_7cf53, .static yJ9_floorDiv_7cf53, .initialized RJ9, .code yJ9_floorDiv_7cf53 cJ9_floorDiv_7cf53 3 (some .int)] ++ wsX50)
def wsX0_sellPrize_r1 : List Cond := [Cond.constant RX0 76 (-100001), Cond.fieldLink RX0 110 "TicketScales$Customer" "points" "I", Cond.fieldLink RX0 170 "TicketScales$Prize" "price" "I", Cond.constant RX0 134 (-100002), Cond.fieldLink RX0 167 "TicketScales$Prize" "stock" "I", Cond.constant RX0 101 (-100003), Cond.methodLink RX0 106 yX0_customerAt, Cond.instanceMethod yX0_customerAt, Cond.selects RX0 yX0_customerAt yX0_customerAt, Cond.initialized RX0, Cond.code yX0_customerAt cX0_customerAt 3 (some (.object "TicketScales$Customer")), Cond.fieldLink RX0 56 "TicketScales$Counter" "customerCount" "I", Cond.fieldLink RX0 26 "TicketScales$Counter" "customers" "[LTicketScales$Customer;", Cond.static yX9_within, Cond.initialized RX9, Cond.code yX9_within cX9_within 3 (some .boolean), Cond.methodLink RX0 163 yX0_prizeAt, Cond.instanceMethod yX0_prizeAt, Cond.selects RX0 yX0_prizeAt yX0_prizeAt, Cond.code yX0_prizeAt cX0_prizeAt 3 (some (.object "TicketScales$Prize")), Cond.fieldLink RX0 59 "TicketScales$Counter" "prizeCount" "I", Cond.fieldLink RX0 32 "TicketScales$Counter" "prizes" "[LTicketScales$Prize;", Cond.methodLink RX0 173 yX5_sell, Cond.instanceMethod yX5_sell]
def wsX0_sellPrize_r2 : List Cond := [Cond.selects RX5 yX5_sell yX5_sell, Cond.initialized RX5, Cond.code yX5_sell cX5_sell 3 none, Cond.fieldLink RX5 18 "TicketScales$Prize" "stock" "I", Cond.fieldLink RX5 27 "TicketScales$Prize" "sold" "I", Cond.fieldLink RX5 15 "TicketScales$Prize" "weight" "I", Cond.fieldLink RX5 21 "TicketScales$Prize" "mark" "I", Cond.fieldLink RX5 30 "TicketScales$Prize" "boxes" "I", Cond.fieldLink RX5 24 "TicketScales$Prize" "box" "I", Cond.methodLink RX5 37 Lib.Math.min.name, Cond.static Lib.Math.min.name, Cond.initialized "java/lang/Math", Cond.code Lib.Math.min.name Lib.Math.min.code 2 (some .int), Cond.static yX9_quotient, Cond.code yX9_quotient cX9_quotient 2 (some .int), Cond.methodLink RX9 227 yJ9_floorDiv_7cf53, Cond.static yJ9_floorDiv_7cf53, Cond.initialized RJ9, Cond.code yJ9_floorDiv_7cf53 cJ9_floorDiv_7cf53 3 (some .int)]
def wsX0_sellPrize : List Cond := .code yX0_sellPrize cX0_sellPrize 6 (some .int) :: ((wsX0_sellPrize_r1 ++ wsX0_sellPrize_r2) ++ wsX10 ++ wsX50 ++ wsX00)
def wsX0_keptWeighings : List Cond := .code yX0_keptWeighings cX0_keptWeighings 6 (some .int) :: ([.fieldLink RX0 26 "TicketScales$Counter" "customers" "[LTicketScales$Customer;", .fieldLink RX0 127 "TicketScales$Customer" "kept" "Z"] ++ wsX00 ++ wsX10)
def wsX0_allPoints : List Cond := .code yX0_allPoints cX0_allPoints 6 (some .int) :: ([.fieldLink RX0 26 "TicketScales$Counter" "customers" "[LTicketScales$Customer;", .fieldLink RX0 110 "TicketScales$Customer" "points" "I"] ++ wsX00 ++ wsX10)
def wsX0_allStocks : List Cond := .code yX0_allStocks cX0_allStocks 6 (some .int) :: ([.fieldLink RX0 32 "TicketScales$Counter" "prizes" "[LTicketScales$Prize;", .fieldLink RX0 167 "TicketScales$Prize" "stock" "I"] ++ wsX00 ++ wsX50)
def wsX0_number_r1 : List Cond := [Cond.fieldLink RX0 20 "TicketScales$Counter" "scale" "LTicketScales$Scale;", Cond.fieldLink RX0 83 "TicketScales$Scale" "step" "I", Cond.fieldLink RX0 86 "TicketScales$Scale" "limit" "I", Cond.fieldLink RX0 89 "TicketScales$Scale" "bias" "I", Cond.fieldLink RX0 62 "TicketScales$Counter" "rule" "I", Cond.fieldLink RX0 36 "TicketScales$Counter" "fee" "I", Cond.fieldLink RX0 56 "TicketScales$Counter" "customerCount" "I", Cond.fieldLink RX0 59 "TicketScales$Counter" "prizeCount" "I", Cond.fieldLink RX0 65 "TicketScales$Counter" "gift" "I", Cond.constant RX0 76 (-100001), Cond.methodLink RX0 176 yX0_keptWeighings, Cond.instanceMethod yX0_keptWeighings, Cond.selects RX0 yX0_keptWeighings yX0_keptWeighings, Cond.initialized RX0, Cond.code yX0_keptWeighings cX0_keptWeighings 6 (some .int), Cond.fieldLink RX0 26 "TicketScales$Counter" "customers" "[LTicketScales$Customer;", Cond.fieldLink RX0 127 "TicketScales$Customer" "kept" "Z", Cond.methodLink RX0 180 yX0_allPoints, Cond.instanceMethod yX0_allPoints, Cond.selects RX0 yX0_allPoints yX0_allPoints, Cond.code yX0_allPoints cX0_allPoints 6 (some .int), Cond.fieldLink RX0 110 "TicketScales$Customer" "points" "I", Cond.methodLink RX0 183 yX0_allStocks, Cond.instanceMethod yX0_allStocks]
def wsX0_number_r2 : List Cond := [Cond.selects RX0 yX0_allStocks yX0_allStocks, Cond.code yX0_allStocks cX0_allStocks 6 (some .int), Cond.fieldLink RX0 32 "TicketScales$Counter" "prizes" "[LTicketScales$Prize;", Cond.fieldLink RX0 167 "TicketScales$Prize" "stock" "I"]
def wsX0_number : List Cond := .code yX0_number cX0_number 2 (some .int) :: ((wsX0_number_r1 ++ wsX0_number_r2) ++ wsX00 ++ wsX70 ++ wsX10 ++ wsX50)
def wsX0_given_r1 : List Cond := [Cond.constant RX0 159 (100000), Cond.fieldLink RX0 26 "TicketScales$Counter" "customers" "[LTicketScales$Customer;", Cond.fieldLink RX0 127 "TicketScales$Customer" "kept" "Z", Cond.fieldLink RX0 135 "TicketScales$Customer" "kind" "I", Cond.constant RX0 186 (-100009), Cond.fieldLink RX0 20 "TicketScales$Counter" "scale" "LTicketScales$Scale;", Cond.fieldLink RX0 138 "TicketScales$Customer" "reading" "I", Cond.fieldLink RX0 145 "TicketScales$Customer" "count" "I", Cond.methodLink RX0 72 yX0_kindAt, Cond.instanceMethod yX0_kindAt, Cond.selects RX0 yX0_kindAt yX0_kindAt, Cond.initialized RX0, Cond.code yX0_kindAt cX0_kindAt 2 (some (.object "TicketScales$Kind")), Cond.fieldLink RX0 11 "TicketScales$Counter" "kinds" "[LTicketScales$Kind;", Cond.static yX9_within, Cond.initialized RX9, Cond.code yX9_within cX9_within 3 (some .boolean), Cond.methodLink RX0 116 yX7_guessFrom, Cond.instanceMethod yX7_guessFrom, Cond.selects RX7 yX7_guessFrom yX7_guessFrom, Cond.initialized RX7, Cond.code yX7_guessFrom cX7_guessFrom 6 (some .int), Cond.constant RX7 57 (-100009), Cond.fieldLink RX7 58 "TicketScales$Kind" "weight" "I"]
def wsX0_given_r2 : List Cond := [Cond.methodLink RX7 64 Lib.Math.min.name, Cond.static Lib.Math.min.name, Cond.initialized "java/lang/Math", Cond.code Lib.Math.min.name Lib.Math.min.code 2 (some .int), Cond.methodLink RX7 35 Lib.Math.max.name, Cond.static Lib.Math.max.name, Cond.code Lib.Math.max.name Lib.Math.max.code 2 (some .int), Cond.methodLink RX7 50 yX7_leastCount, Cond.instanceMethod yX7_leastCount, Cond.selects RX7 yX7_leastCount yX7_leastCount, Cond.code yX7_leastCount cX7_leastCount 5 (some .int), Cond.fieldLink RX7 15 "TicketScales$Scale" "limit" "I", Cond.methodLink RX7 21 yX4_heaviest, Cond.instanceMethod yX4_heaviest, Cond.selects RX4 yX4_heaviest yX4_heaviest, Cond.initialized RX4, Cond.code yX4_heaviest cX4_heaviest 1 (some .int), Cond.fieldLink RX4 7 "TicketScales$Kind" "weight" "I", Cond.fieldLink RX4 13 "TicketScales$Kind" "spread" "I", Cond.methodLink RX7 27 yX7_loadFrom, Cond.instanceMethod yX7_loadFrom, Cond.selects RX7 yX7_loadFrom yX7_loadFrom, Cond.code yX7_loadFrom cX7_loadFrom 2 (some .int), Cond.fieldLink RX7 9 "TicketScales$Scale" "step" "I"]
def wsX0_given_r3 : List Cond := [Cond.static yX9_quotient, Cond.code yX9_quotient cX9_quotient 2 (some .int), Cond.methodLink RX9 227 yJ9_floorDiv_7cf53, Cond.static yJ9_floorDiv_7cf53, Cond.initialized RJ9, Cond.code yJ9_floorDiv_7cf53 cJ9_floorDiv_7cf53 3 (some .int), Cond.methodLink RX7 54 yX7_greatestCount, Cond.instanceMethod yX7_greatestCount, Cond.selects RX7 yX7_greatestCount yX7_greatestCount, Cond.code yX7_greatestCount cX7_greatestCount 3 (some .int), Cond.methodLink RX7 40 yX7_shows, Cond.instanceMethod yX7_shows, Cond.selects RX7 yX7_shows yX7_shows, Cond.code yX7_shows cX7_shows 2 (some .boolean), Cond.methodLink RX7 44 yX7_loadTo, Cond.instanceMethod yX7_loadTo, Cond.selects RX7 yX7_loadTo yX7_loadTo, Cond.code yX7_loadTo cX7_loadTo 2 (some .int), Cond.methodLink RX7 47 yX4_lightest, Cond.instanceMethod yX4_lightest, Cond.selects RX4 yX4_lightest yX4_lightest, Cond.code yX4_lightest cX4_lightest 1 (some .int), Cond.methodLink RX7 61 yX7_nearestCount, Cond.instanceMethod yX7_nearestCount]
def wsX0_given_r4 : List Cond := [Cond.selects RX7 yX7_nearestCount yX7_nearestCount, Cond.code yX7_nearestCount cX7_nearestCount 5 (some .int)]
def wsX0_given : List Cond := .code yX0_given cX0_given 9 (some .int) :: ((wsX0_given_r1 ++ (wsX0_given_r2 ++ (wsX0_given_r3 ++ wsX0_given_r4))) ++ wsX00 ++ wsX10 ++ wsX40 ++ wsX70)
def wsX0_fairestRule_r1 : List Cond := [Cond.constant RX0 186 (-100009), Cond.constant RX0 159 (100000), Cond.methodLink RX0 191 Lib.Math.abs.name, Cond.static Lib.Math.abs.name, Cond.initialized "java/lang/Math", Cond.code Lib.Math.abs.name Lib.Math.abs.code 1 (some .int), Cond.methodLink RX0 187 yX0_given, Cond.instanceMethod yX0_given, Cond.selects RX0 yX0_given yX0_given, Cond.initialized RX0, Cond.code yX0_given cX0_given 9 (some .int), Cond.fieldLink RX0 26 "TicketScales$Counter" "customers" "[LTicketScales$Customer;", Cond.fieldLink RX0 127 "TicketScales$Customer" "kept" "Z", Cond.fieldLink RX0 135 "TicketScales$Customer" "kind" "I", Cond.fieldLink RX0 20 "TicketScales$Counter" "scale" "LTicketScales$Scale;", Cond.fieldLink RX0 138 "TicketScales$Customer" "reading" "I", Cond.fieldLink RX0 145 "TicketScales$Customer" "count" "I", Cond.methodLink RX0 72 yX0_kindAt, Cond.instanceMethod yX0_kindAt, Cond.selects RX0 yX0_kindAt yX0_kindAt, Cond.code yX0_kindAt cX0_kindAt 2 (some (.object "TicketScales$Kind")), Cond.fieldLink RX0 11 "TicketScales$Counter" "kinds" "[LTicketScales$Kind;", Cond.static yX9_within, Cond.initialized RX9]
def wsX0_fairestRule_r2 : List Cond := [Cond.code yX9_within cX9_within 3 (some .boolean), Cond.methodLink RX0 116 yX7_guessFrom, Cond.instanceMethod yX7_guessFrom, Cond.selects RX7 yX7_guessFrom yX7_guessFrom, Cond.initialized RX7, Cond.code yX7_guessFrom cX7_guessFrom 6 (some .int), Cond.constant RX7 57 (-100009), Cond.fieldLink RX7 58 "TicketScales$Kind" "weight" "I", Cond.methodLink RX7 64 Lib.Math.min.name, Cond.static Lib.Math.min.name, Cond.code Lib.Math.min.name Lib.Math.min.code 2 (some .int), Cond.methodLink RX7 35 Lib.Math.max.name, Cond.static Lib.Math.max.name, Cond.code Lib.Math.max.name Lib.Math.max.code 2 (some .int), Cond.methodLink RX7 50 yX7_leastCount, Cond.instanceMethod yX7_leastCount, Cond.selects RX7 yX7_leastCount yX7_leastCount, Cond.code yX7_leastCount cX7_leastCount 5 (some .int), Cond.fieldLink RX7 15 "TicketScales$Scale" "limit" "I", Cond.methodLink RX7 21 yX4_heaviest, Cond.instanceMethod yX4_heaviest, Cond.selects RX4 yX4_heaviest yX4_heaviest, Cond.initialized RX4, Cond.code yX4_heaviest cX4_heaviest 1 (some .int)]
def wsX0_fairestRule_r3 : List Cond := [Cond.fieldLink RX4 7 "TicketScales$Kind" "weight" "I", Cond.fieldLink RX4 13 "TicketScales$Kind" "spread" "I", Cond.methodLink RX7 27 yX7_loadFrom, Cond.instanceMethod yX7_loadFrom, Cond.selects RX7 yX7_loadFrom yX7_loadFrom, Cond.code yX7_loadFrom cX7_loadFrom 2 (some .int), Cond.fieldLink RX7 9 "TicketScales$Scale" "step" "I", Cond.static yX9_quotient, Cond.code yX9_quotient cX9_quotient 2 (some .int), Cond.methodLink RX9 227 yJ9_floorDiv_7cf53, Cond.static yJ9_floorDiv_7cf53, Cond.initialized RJ9, Cond.code yJ9_floorDiv_7cf53 cJ9_floorDiv_7cf53 3 (some .int), Cond.methodLink RX7 54 yX7_greatestCount, Cond.instanceMethod yX7_greatestCount, Cond.selects RX7 yX7_greatestCount yX7_greatestCount, Cond.code yX7_greatestCount cX7_greatestCount 3 (some .int), Cond.methodLink RX7 40 yX7_shows, Cond.instanceMethod yX7_shows, Cond.selects RX7 yX7_shows yX7_shows, Cond.code yX7_shows cX7_shows 2 (some .boolean), Cond.methodLink RX7 44 yX7_loadTo, Cond.instanceMethod yX7_loadTo, Cond.selects RX7 yX7_loadTo yX7_loadTo]
def wsX0_fairestRule_r4 : List Cond := [Cond.code yX7_loadTo cX7_loadTo 2 (some .int), Cond.methodLink RX7 47 yX4_lightest, Cond.instanceMethod yX4_lightest, Cond.selects RX4 yX4_lightest yX4_lightest, Cond.code yX4_lightest cX4_lightest 1 (some .int), Cond.methodLink RX7 61 yX7_nearestCount, Cond.instanceMethod yX7_nearestCount, Cond.selects RX7 yX7_nearestCount yX7_nearestCount, Cond.code yX7_nearestCount cX7_nearestCount 5 (some .int)]
def wsX0_fairestRule : List Cond := .code yX0_fairestRule cX0_fairestRule 6 (some .int) :: ((wsX0_fairestRule_r1 ++ (wsX0_fairestRule_r2 ++ (wsX0_fairestRule_r3 ++ wsX0_fairestRule_r4))) ++ wsX00 ++ wsX10 ++ wsX40 ++ wsX70)
def wsX0_isBehind : List Cond := .code yX0_isBehind cX0_isBehind 5 (some .boolean) :: ([.fieldLink RX0 170 "TicketScales$Prize" "price" "I", .methodLink RX0 163 yX0_prizeAt, .instanceMethod yX0_prizeAt, .selects RX0 yX0_prizeAt yX0_prizeAt, .initialized RX0, .code yX0_prizeAt cX0_prizeAt 3 (some (.object "TicketScales$Prize")), .fieldLink RX0 59 "TicketScales$Counter" "prizeCount" "I", .fieldLink RX0 32 "TicketScales$Counter" "prizes" "[LTicketScales$Prize;", .static yX9_within, .initialized RX9, .code yX9_within cX9_within 3 (some .boolean)] ++ wsX50 ++ wsX00)
def wsX0_nextByPrice : List Cond := .code yX0_nextByPrice cX0_nextByPrice 4 (some .int) :: ([.fieldLink RX0 59 "TicketScales$Counter" "prizeCount" "I", .methodLink RX0 201 yX0_isBehind, .instanceMethod yX0_isBehind, .selects RX0 yX0_isBehind yX0_isBehind, .initialized RX0, .code yX0_isBehind cX0_isBehind 5 (some .boolean), .fieldLink RX0 170 "TicketScales$Prize" "price" "I", .methodLink RX0 163 yX0_prizeAt, .instanceMethod yX0_prizeAt, .selects RX0 yX0_prizeAt yX0_prizeAt, .code yX0_prizeAt cX0_prizeAt 3 (some (.object "TicketScales$Prize")), .fieldLink RX0 32 "TicketScales$Counter" "prizes" "[LTicketScales$Prize;", .static yX9_within, .initialized RX9, .code yX9_within cX9_within 3 (some .boolean)] ++ wsX00 ++ wsX50)
def wsX0_shopWith_r1 : List Cond := [Cond.fieldLink RX0 167 "TicketScales$Prize" "stock" "I", Cond.fieldLink RX0 170 "TicketScales$Prize" "price" "I", Cond.methodLink RX0 92 Lib.Math.min.name, Cond.static Lib.Math.min.name, Cond.initialized "java/lang/Math", Cond.code Lib.Math.min.name Lib.Math.min.code 2 (some .int), Cond.fieldLink RX0 200 "TicketScales$Prize" "weight" "I", Cond.methodLink RX0 194 yX0_nextByPrice, Cond.instanceMethod yX0_nextByPrice, Cond.selects RX0 yX0_nextByPrice yX0_nextByPrice, Cond.initialized RX0, Cond.code yX0_nextByPrice cX0_nextByPrice 4 (some .int), Cond.fieldLink RX0 59 "TicketScales$Counter" "prizeCount" "I", Cond.methodLink RX0 201 yX0_isBehind, Cond.instanceMethod yX0_isBehind, Cond.selects RX0 yX0_isBehind yX0_isBehind, Cond.code yX0_isBehind cX0_isBehind 5 (some .boolean), Cond.methodLink RX0 163 yX0_prizeAt, Cond.instanceMethod yX0_prizeAt, Cond.selects RX0 yX0_prizeAt yX0_prizeAt, Cond.code yX0_prizeAt cX0_prizeAt 3 (some (.object "TicketScales$Prize")), Cond.fieldLink RX0 32 "TicketScales$Counter" "prizes" "[LTicketScales$Prize;", Cond.static yX9_within, Cond.initialized RX9]
def wsX0_shopWith_r2 : List Cond := [Cond.code yX9_within cX9_within 3 (some .boolean), Cond.static yX9_quotient, Cond.code yX9_quotient cX9_quotient 2 (some .int), Cond.methodLink RX9 227 yJ9_floorDiv_7cf53, Cond.static yJ9_floorDiv_7cf53, Cond.initialized RJ9, Cond.code yJ9_floorDiv_7cf53 cJ9_floorDiv_7cf53 3 (some .int)]
def wsX0_shopWith : List Cond := .code yX0_shopWith cX0_shopWith 10 (some .int) :: ((wsX0_shopWith_r1 ++ wsX0_shopWith_r2) ++ wsX50 ++ wsX00)
def wsX1_part : List Cond := .code yX1_part cX1_part 2 (some .int) :: ([.constant RX1 45 (-100001), .fieldLink RX1 9 "TicketScales$Customer" "points" "I", .fieldLink RX1 15 "TicketScales$Customer" "kept" "Z", .constant RX1 46 (-100009), .fieldLink RX1 19 "TicketScales$Customer" "kind" "I", .fieldLink RX1 22 "TicketScales$Customer" "count" "I", .fieldLink RX1 25 "TicketScales$Customer" "reading" "I", .fieldLink RX1 28 "TicketScales$Customer" "guess" "I", .static yX9_within, .initialized RX9, .code yX9_within cX9_within 3 (some .boolean)] ++ wsX10)
def wsX2_init : List Cond := .code yX2_init cX2_init 1 none :: ([.methodLink RX2 3 objectInit, .instanceMethod objectInit, .code objectInit ⟨#[0xb1]⟩ 1 none])
def wsX8_init_r1 : List Cond := [Cond.methodLink RX8 3 objectInit, Cond.instanceMethod objectInit, Cond.code objectInit ⟨#[0xb1]⟩ 1 none, Cond.classLink RX8 9 RX0, Cond.instantiable RX0 9, Cond.initialized RX0, Cond.fieldLink RX8 12 "TicketScales$State" "counter" "LTicketScales$Counter;", Cond.fieldLink RX8 18 "TicketScales$State" "slots" "[LTicketScales$Counter;", Cond.arrayClass .boolean, Cond.fieldLink RX8 22 "TicketScales$State" "filled" "[Z", Cond.methodLink RX8 11 yX0_init, Cond.instanceMethod yX0_init, Cond.code yX0_init cX0_init 2 none, Cond.methodLink RX0 3 objectInit, Cond.classLink RX0 9 RX4, Cond.fieldLink RX0 11 "TicketScales$Counter" "kinds" "[LTicketScales$Kind;", Cond.classLink RX0 17 RX7, Cond.instantiable RX7 3, Cond.initialized RX7, Cond.fieldLink RX0 20 "TicketScales$Counter" "scale" "LTicketScales$Scale;", Cond.classLink RX0 24 RX1, Cond.fieldLink RX0 26 "TicketScales$Counter" "customers" "[LTicketScales$Customer;", Cond.classLink RX0 30 RX5, Cond.fieldLink RX0 32 "TicketScales$Counter" "prizes" "[LTicketScales$Prize;"]
def wsX8_init_r2 : List Cond := [Cond.fieldLink RX0 36 "TicketScales$Counter" "fee" "I", Cond.instantiable RX4 2, Cond.initialized RX4, Cond.instantiable RX1 6, Cond.initialized RX1, Cond.instantiable RX5 7, Cond.initialized RX5, Cond.instanceMethod yX7_init, Cond.code yX7_init cX7_init 1 none, Cond.methodLink RX7 3 objectInit, Cond.fieldLink RX7 9 "TicketScales$Scale" "step" "I", Cond.fieldLink RX7 15 "TicketScales$Scale" "limit" "I", Cond.instanceMethod yX4_init, Cond.code yX4_init cX4_init 1 none, Cond.methodLink RX4 1 objectInit, Cond.fieldLink RX4 7 "TicketScales$Kind" "weight" "I", Cond.fieldLink RX4 13 "TicketScales$Kind" "spread" "I", Cond.instanceMethod yX1_init, Cond.code yX1_init cX1_init 1 none, Cond.methodLink RX1 3 objectInit, Cond.instanceMethod yX5_init, Cond.code yX5_init cX5_init 1 none, Cond.methodLink RX5 3 objectInit]
def wsX8_init : List Cond := .code yX8_init cX8_init 2 none :: ((wsX8_init_r1 ++ wsX8_init_r2) ++ wsX00 ++ wsX80 ++ wsX70 ++ wsX40 ++ wsX10 ++ wsX50)
def wsX3_init_r1 : List Cond := [Cond.methodLink RX3 3 objectInit, Cond.instanceMethod objectInit, Cond.code objectInit ⟨#[0xb1]⟩ 1 none, Cond.classLink RX3 9 RX8, Cond.fieldLink RX3 11 "TicketScales$History" "earlier" "[LTicketScales$State;", Cond.instantiable RX8 3, Cond.initialized RX8, Cond.fieldLink RX3 18 "TicketScales$History" "now" "LTicketScales$State;", Cond.fieldLink RX3 22 "TicketScales$History" "spare" "LTicketScales$State;", Cond.methodLink RX3 17 yX8_init, Cond.instanceMethod yX8_init, Cond.code yX8_init cX8_init 2 none, Cond.methodLink RX8 3 objectInit, Cond.classLink RX8 9 RX0, Cond.instantiable RX0 9, Cond.initialized RX0, Cond.fieldLink RX8 12 "TicketScales$State" "counter" "LTicketScales$Counter;", Cond.fieldLink RX8 18 "TicketScales$State" "slots" "[LTicketScales$Counter;", Cond.arrayClass .boolean, Cond.fieldLink RX8 22 "TicketScales$State" "filled" "[Z", Cond.methodLink RX8 11 yX0_init, Cond.instanceMethod yX0_init, Cond.code yX0_init cX0_init 2 none, Cond.methodLink RX0 3 objectInit]
def wsX3_init_r2 : List Cond := [Cond.classLink RX0 9 RX4, Cond.fieldLink RX0 11 "TicketScales$Counter" "kinds" "[LTicketScales$Kind;", Cond.classLink RX0 17 RX7, Cond.instantiable RX7 3, Cond.initialized RX7, Cond.fieldLink RX0 20 "TicketScales$Counter" "scale" "LTicketScales$Scale;", Cond.classLink RX0 24 RX1, Cond.fieldLink RX0 26 "TicketScales$Counter" "customers" "[LTicketScales$Customer;", Cond.classLink RX0 30 RX5, Cond.fieldLink RX0 32 "TicketScales$Counter" "prizes" "[LTicketScales$Prize;", Cond.fieldLink RX0 36 "TicketScales$Counter" "fee" "I", Cond.instantiable RX4 2, Cond.initialized RX4, Cond.instantiable RX1 6, Cond.initialized RX1, Cond.instantiable RX5 7, Cond.initialized RX5, Cond.instanceMethod yX7_init, Cond.code yX7_init cX7_init 1 none, Cond.methodLink RX7 3 objectInit, Cond.fieldLink RX7 9 "TicketScales$Scale" "step" "I", Cond.fieldLink RX7 15 "TicketScales$Scale" "limit" "I", Cond.instanceMethod yX4_init, Cond.code yX4_init cX4_init 1 none]
def wsX3_init_r3 : List Cond := [Cond.methodLink RX4 1 objectInit, Cond.fieldLink RX4 7 "TicketScales$Kind" "weight" "I", Cond.fieldLink RX4 13 "TicketScales$Kind" "spread" "I", Cond.instanceMethod yX1_init, Cond.code yX1_init cX1_init 1 none, Cond.methodLink RX1 3 objectInit, Cond.instanceMethod yX5_init, Cond.code yX5_init cX5_init 1 none, Cond.methodLink RX5 3 objectInit]
def wsX3_init : List Cond := .code yX3_init cX3_init 2 none :: ((wsX3_init_r1 ++ (wsX3_init_r2 ++ wsX3_init_r3)) ++ wsX30 ++ wsX80 ++ wsX00 ++ wsX70 ++ wsX40 ++ wsX10 ++ wsX50)
def wsX8_copyFrom_r1 : List Cond := [Cond.fieldLink RX8 12 "TicketScales$State" "counter" "LTicketScales$Counter;", Cond.fieldLink RX8 22 "TicketScales$State" "filled" "[Z", Cond.fieldLink RX8 18 "TicketScales$State" "slots" "[LTicketScales$Counter;", Cond.methodLink RX8 26 yX0_copyFrom, Cond.instanceMethod yX0_copyFrom, Cond.selects RX0 yX0_copyFrom yX0_copyFrom, Cond.initialized RX0, Cond.code yX0_copyFrom cX0_copyFrom 3 none, Cond.fieldLink RX0 11 "TicketScales$Counter" "kinds" "[LTicketScales$Kind;", Cond.fieldLink RX0 26 "TicketScales$Counter" "customers" "[LTicketScales$Customer;", Cond.fieldLink RX0 32 "TicketScales$Counter" "prizes" "[LTicketScales$Prize;", Cond.fieldLink RX0 20 "TicketScales$Counter" "scale" "LTicketScales$Scale;", Cond.fieldLink RX0 56 "TicketScales$Counter" "customerCount" "I", Cond.fieldLink RX0 59 "TicketScales$Counter" "prizeCount" "I", Cond.fieldLink RX0 62 "TicketScales$Counter" "rule" "I", Cond.fieldLink RX0 36 "TicketScales$Counter" "fee" "I", Cond.fieldLink RX0 65 "TicketScales$Counter" "gift" "I", Cond.methodLink RX0 43 yX4_copyFrom, Cond.instanceMethod yX4_copyFrom, Cond.selects RX4 yX4_copyFrom yX4_copyFrom, Cond.initialized RX4, Cond.code yX4_copyFrom cX4_copyFrom 2 none, Cond.fieldLink RX4 7 "TicketScales$Kind" "weight" "I", Cond.fieldLink RX4 13 "TicketScales$Kind" "spread" "I"]
def wsX8_copyFrom_r2 : List Cond := [Cond.methodLink RX0 47 yX1_copyFrom, Cond.instanceMethod yX1_copyFrom, Cond.selects RX1 yX1_copyFrom yX1_copyFrom, Cond.initialized RX1, Cond.code yX1_copyFrom cX1_copyFrom 2 none, Cond.fieldLink RX1 9 "TicketScales$Customer" "points" "I", Cond.fieldLink RX1 15 "TicketScales$Customer" "kept" "Z", Cond.fieldLink RX1 19 "TicketScales$Customer" "kind" "I", Cond.fieldLink RX1 22 "TicketScales$Customer" "count" "I", Cond.fieldLink RX1 25 "TicketScales$Customer" "reading" "I", Cond.fieldLink RX1 28 "TicketScales$Customer" "guess" "I", Cond.methodLink RX0 50 yX5_copyFrom, Cond.instanceMethod yX5_copyFrom, Cond.selects RX5 yX5_copyFrom yX5_copyFrom, Cond.initialized RX5, Cond.code yX5_copyFrom cX5_copyFrom 2 none, Cond.fieldLink RX5 9 "TicketScales$Prize" "price" "I", Cond.fieldLink RX5 15 "TicketScales$Prize" "weight" "I", Cond.fieldLink RX5 18 "TicketScales$Prize" "stock" "I", Cond.fieldLink RX5 21 "TicketScales$Prize" "mark" "I", Cond.fieldLink RX5 24 "TicketScales$Prize" "box" "I", Cond.fieldLink RX5 27 "TicketScales$Prize" "sold" "I", Cond.fieldLink RX5 30 "TicketScales$Prize" "boxes" "I", Cond.methodLink RX0 53 yX7_copyFrom]
def wsX8_copyFrom_r3 : List Cond := [Cond.instanceMethod yX7_copyFrom, Cond.selects RX7 yX7_copyFrom yX7_copyFrom, Cond.initialized RX7, Cond.code yX7_copyFrom cX7_copyFrom 2 none, Cond.fieldLink RX7 9 "TicketScales$Scale" "step" "I", Cond.fieldLink RX7 15 "TicketScales$Scale" "limit" "I", Cond.fieldLink RX7 18 "TicketScales$Scale" "bias" "I"]
def wsX8_copyFrom : List Cond := .code yX8_copyFrom cX8_copyFrom 3 none :: ((wsX8_copyFrom_r1 ++ (wsX8_copyFrom_r2 ++ wsX8_copyFrom_r3)) ++ wsX80 ++ wsX00 ++ wsX40 ++ wsX10 ++ wsX50 ++ wsX70)
def wsX3_prepare_r1 : List Cond := [Cond.fieldLink RX3 22 "TicketScales$History" "spare" "LTicketScales$State;", Cond.fieldLink RX3 18 "TicketScales$History" "now" "LTicketScales$State;", Cond.methodLink RX3 25 yX8_copyFrom, Cond.instanceMethod yX8_copyFrom, Cond.selects RX8 yX8_copyFrom yX8_copyFrom, Cond.initialized RX8, Cond.code yX8_copyFrom cX8_copyFrom 3 none, Cond.fieldLink RX8 12 "TicketScales$State" "counter" "LTicketScales$Counter;", Cond.fieldLink RX8 22 "TicketScales$State" "filled" "[Z", Cond.fieldLink RX8 18 "TicketScales$State" "slots" "[LTicketScales$Counter;", Cond.methodLink RX8 26 yX0_copyFrom, Cond.instanceMethod yX0_copyFrom, Cond.selects RX0 yX0_copyFrom yX0_copyFrom, Cond.initialized RX0, Cond.code yX0_copyFrom cX0_copyFrom 3 none, Cond.fieldLink RX0 11 "TicketScales$Counter" "kinds" "[LTicketScales$Kind;", Cond.fieldLink RX0 26 "TicketScales$Counter" "customers" "[LTicketScales$Customer;", Cond.fieldLink RX0 32 "TicketScales$Counter" "prizes" "[LTicketScales$Prize;", Cond.fieldLink RX0 20 "TicketScales$Counter" "scale" "LTicketScales$Scale;", Cond.fieldLink RX0 56 "TicketScales$Counter" "customerCount" "I", Cond.fieldLink RX0 59 "TicketScales$Counter" "prizeCount" "I", Cond.fieldLink RX0 62 "TicketScales$Counter" "rule" "I", Cond.fieldLink RX0 36 "TicketScales$Counter" "fee" "I", Cond.fieldLink RX0 65 "TicketScales$Counter" "gift" "I"]
def wsX3_prepare_r2 : List Cond := [Cond.methodLink RX0 43 yX4_copyFrom, Cond.instanceMethod yX4_copyFrom, Cond.selects RX4 yX4_copyFrom yX4_copyFrom, Cond.initialized RX4, Cond.code yX4_copyFrom cX4_copyFrom 2 none, Cond.fieldLink RX4 7 "TicketScales$Kind" "weight" "I", Cond.fieldLink RX4 13 "TicketScales$Kind" "spread" "I", Cond.methodLink RX0 47 yX1_copyFrom, Cond.instanceMethod yX1_copyFrom, Cond.selects RX1 yX1_copyFrom yX1_copyFrom, Cond.initialized RX1, Cond.code yX1_copyFrom cX1_copyFrom 2 none, Cond.fieldLink RX1 9 "TicketScales$Customer" "points" "I", Cond.fieldLink RX1 15 "TicketScales$Customer" "kept" "Z", Cond.fieldLink RX1 19 "TicketScales$Customer" "kind" "I", Cond.fieldLink RX1 22 "TicketScales$Customer" "count" "I", Cond.fieldLink RX1 25 "TicketScales$Customer" "reading" "I", Cond.fieldLink RX1 28 "TicketScales$Customer" "guess" "I", Cond.methodLink RX0 50 yX5_copyFrom, Cond.instanceMethod yX5_copyFrom, Cond.selects RX5 yX5_copyFrom yX5_copyFrom, Cond.initialized RX5, Cond.code yX5_copyFrom cX5_copyFrom 2 none, Cond.fieldLink RX5 9 "TicketScales$Prize" "price" "I"]
def wsX3_prepare_r3 : List Cond := [Cond.fieldLink RX5 15 "TicketScales$Prize" "weight" "I", Cond.fieldLink RX5 18 "TicketScales$Prize" "stock" "I", Cond.fieldLink RX5 21 "TicketScales$Prize" "mark" "I", Cond.fieldLink RX5 24 "TicketScales$Prize" "box" "I", Cond.fieldLink RX5 27 "TicketScales$Prize" "sold" "I", Cond.fieldLink RX5 30 "TicketScales$Prize" "boxes" "I", Cond.methodLink RX0 53 yX7_copyFrom, Cond.instanceMethod yX7_copyFrom, Cond.selects RX7 yX7_copyFrom yX7_copyFrom, Cond.initialized RX7, Cond.code yX7_copyFrom cX7_copyFrom 2 none, Cond.fieldLink RX7 9 "TicketScales$Scale" "step" "I", Cond.fieldLink RX7 15 "TicketScales$Scale" "limit" "I", Cond.fieldLink RX7 18 "TicketScales$Scale" "bias" "I"]
def wsX3_prepare : List Cond := .code yX3_prepare cX3_prepare 1 none :: ((wsX3_prepare_r1 ++ (wsX3_prepare_r2 ++ wsX3_prepare_r3)) ++ wsX30 ++ wsX80 ++ wsX00 ++ wsX40 ++ wsX10 ++ wsX50 ++ wsX70)
def wsX9_isError : List Cond := .code yX9_isError cX9_isError 1 (some .boolean) :: ([.constant RX9 145 (-100001), .constant RX9 225 (-100002), .constant RX9 226 (-100003)])
def wsX3_dropOldest : List Cond := .code yX3_dropOldest cX3_dropOldest 3 none :: ([.fieldLink RX3 11 "TicketScales$History" "earlier" "[LTicketScales$State;", .fieldLink RX3 36 "TicketScales$History" "size" "I"] ++ wsX30)
def wsX3_recordSpare : List Cond := .code yX3_recordSpare cX3_recordSpare 2 none :: ([.fieldLink RX3 36 "TicketScales$History" "size" "I", .fieldLink RX3 11 "TicketScales$History" "earlier" "[LTicketScales$State;", .fieldLink RX3 22 "TicketScales$History" "spare" "LTicketScales$State;", .methodLink RX3 40 yX3_dropOldest, .instanceMethod yX3_dropOldest, .selects RX3 yX3_dropOldest yX3_dropOldest, .initialized RX3, .code yX3_dropOldest cX3_dropOldest 3 none, .static yX9_within, .initialized RX9, .code yX9_within cX9_within 3 (some .boolean)] ++ wsX30)
def wsX3_settle : List Cond := .code yX3_settle cX3_settle 2 (some .int) :: ([.static yX9_isError, .initialized RX9, .code yX9_isError cX9_isError 1 (some .boolean), .constant RX9 145 (-100001), .constant RX9 225 (-100002), .constant RX9 226 (-100003), .methodLink RX3 33 yX3_recordSpare, .instanceMethod yX3_recordSpare, .selects RX3 yX3_recordSpare yX3_recordSpare, .initialized RX3, .code yX3_recordSpare cX3_recordSpare 2 none, .fieldLink RX3 36 "TicketScales$History" "size" "I", .fieldLink RX3 11 "TicketScales$History" "earlier" "[LTicketScales$State;", .fieldLink RX3 22 "TicketScales$History" "spare" "LTicketScales$State;", .methodLink RX3 40 yX3_dropOldest, .instanceMethod yX3_dropOldest, .selects RX3 yX3_dropOldest yX3_dropOldest, .code yX3_dropOldest cX3_dropOldest 3 none, .static yX9_within, .code yX9_within cX9_within 3 (some .boolean)] ++ wsX30)
def wsX3_stepBack : List Cond := .code yX3_stepBack cX3_stepBack 3 (some .int) :: ([.fieldLink RX3 36 "TicketScales$History" "size" "I", .constant RX3 47 (-100002), .fieldLink RX3 18 "TicketScales$History" "now" "LTicketScales$State;", .fieldLink RX3 11 "TicketScales$History" "earlier" "[LTicketScales$State;", .static yX9_within, .initialized RX9, .code yX9_within cX9_within 3 (some .boolean)] ++ wsX30)
def wsX5_sellOut : List Cond := .code yX5_sellOut cX5_sellOut 2 (some .int) :: ([.fieldLink RX5 18 "TicketScales$Prize" "stock" "I", .constant RX5 46 (-100009), .methodLink RX5 42 yX5_sell, .instanceMethod yX5_sell, .selects RX5 yX5_sell yX5_sell, .initialized RX5, .code yX5_sell cX5_sell 3 none, .fieldLink RX5 27 "TicketScales$Prize" "sold" "I", .fieldLink RX5 15 "TicketScales$Prize" "weight" "I", .fieldLink RX5 21 "TicketScales$Prize" "mark" "I", .fieldLink RX5 30 "TicketScales$Prize" "boxes" "I", .fieldLink RX5 24 "TicketScales$Prize" "box" "I", .methodLink RX5 37 Lib.Math.min.name, .static Lib.Math.min.name, .initialized "java/lang/Math", .code Lib.Math.min.name Lib.Math.min.code 2 (some .int), .static yX9_quotient, .initialized RX9, .code yX9_quotient cX9_quotient 2 (some .int), .methodLink RX9 227 yJ9_floorDiv_7cf53, .static yJ9_floorDiv_7cf53, .initialized RJ9, .code yJ9_floorDiv_7cf53 cJ9_floorDiv_7cf53 3 (some .int)] ++ wsX50)
def wsX5_part : List Cond := .code yX5_part cX5_part 2 (some .int) :: ([.fieldLink RX5 9 "TicketScales$Prize" "price" "I", .fieldLink RX5 15 "TicketScales$Prize" "weight" "I", .fieldLink RX5 18 "TicketScales$Prize" "stock" "I", .fieldLink RX5 21 "TicketScales$Prize" "mark" "I", .fieldLink RX5 24 "TicketScales$Prize" "box" "I", .fieldLink RX5 27 "TicketScales$Prize" "sold" "I", .fieldLink RX5 30 "TicketScales$Prize" "boxes" "I", .constant RX5 47 (-100001)] ++ wsX50)
def wsX6_init : List Cond := .code yX6_init cX6_init 1 none :: ([.methodLink RX6 3 objectInit, .instanceMethod objectInit, .code objectInit ⟨#[0xb1]⟩ 1 none, .arrayClass .char, .fieldLink RX6 9 "TicketScales$Program" "signs" "[C", .arrayClass .int, .fieldLink RX6 15 "TicketScales$Program" "numbers" "[I", .classLink RX6 19 RX2, .instantiable RX2 4, .initialized RX2, .fieldLink RX6 22 "TicketScales$Program" "failure" "LTicketScales$Failure;", .instanceMethod yX2_init, .code yX2_init cX2_init 1 none, .methodLink RX2 3 objectInit] ++ wsX60 ++ wsX20)
def wsX7_apartFromNext_r1 : List Cond := [Cond.fieldLink RX7 15 "TicketScales$Scale" "limit" "I", Cond.methodLink RX7 21 yX4_heaviest, Cond.instanceMethod yX4_heaviest, Cond.selects RX4 yX4_heaviest yX4_heaviest, Cond.initialized RX4, Cond.code yX4_heaviest cX4_heaviest 1 (some .int), Cond.fieldLink RX4 7 "TicketScales$Kind" "weight" "I", Cond.fieldLink RX4 13 "TicketScales$Kind" "spread" "I", Cond.static yX9_readingAt, Cond.initialized RX9, Cond.code yX9_readingAt cX9_readingAt 2 (some .int), Cond.methodLink RX9 235 Lib.Math.max.name, Cond.static Lib.Math.max.name, Cond.initialized "java/lang/Math", Cond.code Lib.Math.max.name Lib.Math.max.code 2 (some .int), Cond.methodLink RX9 232 yX9_quotient, Cond.static yX9_quotient, Cond.code yX9_quotient cX9_quotient 2 (some .int), Cond.methodLink RX9 227 yJ9_floorDiv_7cf53, Cond.static yJ9_floorDiv_7cf53, Cond.initialized RJ9, Cond.code yJ9_floorDiv_7cf53 cJ9_floorDiv_7cf53 3 (some .int), Cond.methodLink RX7 47 yX4_lightest, Cond.instanceMethod yX4_lightest]
def wsX7_apartFromNext_r2 : List Cond := [Cond.selects RX4 yX4_lightest yX4_lightest, Cond.code yX4_lightest cX4_lightest 1 (some .int)]
def wsX7_apartFromNext : List Cond := .code yX7_apartFromNext cX7_apartFromNext 6 (some .boolean) :: ((wsX7_apartFromNext_r1 ++ wsX7_apartFromNext_r2) ++ wsX70 ++ wsX40)
def wsX7_lastApart_r1 : List Cond := [Cond.fieldLink RX7 9 "TicketScales$Scale" "step" "I", Cond.methodLink RX7 70 yX7_apartFromNext, Cond.instanceMethod yX7_apartFromNext, Cond.selects RX7 yX7_apartFromNext yX7_apartFromNext, Cond.initialized RX7, Cond.code yX7_apartFromNext cX7_apartFromNext 6 (some .boolean), Cond.fieldLink RX7 15 "TicketScales$Scale" "limit" "I", Cond.methodLink RX7 21 yX4_heaviest, Cond.instanceMethod yX4_heaviest, Cond.selects RX4 yX4_heaviest yX4_heaviest, Cond.initialized RX4, Cond.code yX4_heaviest cX4_heaviest 1 (some .int), Cond.fieldLink RX4 7 "TicketScales$Kind" "weight" "I", Cond.fieldLink RX4 13 "TicketScales$Kind" "spread" "I", Cond.static yX9_readingAt, Cond.initialized RX9, Cond.code yX9_readingAt cX9_readingAt 2 (some .int), Cond.methodLink RX9 235 Lib.Math.max.name, Cond.static Lib.Math.max.name, Cond.initialized "java/lang/Math", Cond.code Lib.Math.max.name Lib.Math.max.code 2 (some .int), Cond.methodLink RX9 232 yX9_quotient, Cond.static yX9_quotient, Cond.code yX9_quotient cX9_quotient 2 (some .int)]
def wsX7_lastApart_r2 : List Cond := [Cond.methodLink RX9 227 yJ9_floorDiv_7cf53, Cond.static yJ9_floorDiv_7cf53, Cond.initialized RJ9, Cond.code yJ9_floorDiv_7cf53 cJ9_floorDiv_7cf53 3 (some .int), Cond.methodLink RX7 47 yX4_lightest, Cond.instanceMethod yX4_lightest, Cond.selects RX4 yX4_lightest yX4_lightest, Cond.code yX4_lightest cX4_lightest 1 (some .int)]
def wsX7_lastApart : List Cond := .code yX7_lastApart cX7_lastApart 3 (some .int) :: ((wsX7_lastApart_r1 ++ wsX7_lastApart_r2) ++ wsX70 ++ wsX40)
def wsX7_allApart_r1 : List Cond := [Cond.methodLink RX7 70 yX7_apartFromNext, Cond.instanceMethod yX7_apartFromNext, Cond.selects RX7 yX7_apartFromNext yX7_apartFromNext, Cond.initialized RX7, Cond.code yX7_apartFromNext cX7_apartFromNext 6 (some .boolean), Cond.fieldLink RX7 15 "TicketScales$Scale" "limit" "I", Cond.methodLink RX7 21 yX4_heaviest, Cond.instanceMethod yX4_heaviest, Cond.selects RX4 yX4_heaviest yX4_heaviest, Cond.initialized RX4, Cond.code yX4_heaviest cX4_heaviest 1 (some .int), Cond.fieldLink RX4 7 "TicketScales$Kind" "weight" "I", Cond.fieldLink RX4 13 "TicketScales$Kind" "spread" "I", Cond.static yX9_readingAt, Cond.initialized RX9, Cond.code yX9_readingAt cX9_readingAt 2 (some .int), Cond.methodLink RX9 235 Lib.Math.max.name, Cond.static Lib.Math.max.name, Cond.initialized "java/lang/Math", Cond.code Lib.Math.max.name Lib.Math.max.code 2 (some .int), Cond.methodLink RX9 232 yX9_quotient, Cond.static yX9_quotient, Cond.code yX9_quotient cX9_quotient 2 (some .int), Cond.methodLink RX9 227 yJ9_floorDiv_7cf53]
def wsX7_allApart_r2 : List Cond := [Cond.static yJ9_floorDiv_7cf53, Cond.initialized RJ9, Cond.code yJ9_floorDiv_7cf53 cJ9_floorDiv_7cf53 3 (some .int), Cond.methodLink RX7 47 yX4_lightest, Cond.instanceMethod yX4_lightest, Cond.selects RX4 yX4_lightest yX4_lightest, Cond.code yX4_lightest cX4_lightest 1 (some .int)]
def wsX7_allApart : List Cond := .code yX7_allApart cX7_allApart 5 (some .boolean) :: ((wsX7_allApart_r1 ++ wsX7_allApart_r2) ++ wsX70 ++ wsX40)
def wsX7_greatestStep_r1 : List Cond := [Cond.constant RX7 57 (-100009), Cond.methodLink RX7 74 yX7_allApart, Cond.instanceMethod yX7_allApart, Cond.selects RX7 yX7_allApart yX7_allApart, Cond.initialized RX7, Cond.code yX7_allApart cX7_allApart 5 (some .boolean), Cond.methodLink RX7 70 yX7_apartFromNext, Cond.instanceMethod yX7_apartFromNext, Cond.selects RX7 yX7_apartFromNext yX7_apartFromNext, Cond.code yX7_apartFromNext cX7_apartFromNext 6 (some .boolean), Cond.fieldLink RX7 15 "TicketScales$Scale" "limit" "I", Cond.methodLink RX7 21 yX4_heaviest, Cond.instanceMethod yX4_heaviest, Cond.selects RX4 yX4_heaviest yX4_heaviest, Cond.initialized RX4, Cond.code yX4_heaviest cX4_heaviest 1 (some .int), Cond.fieldLink RX4 7 "TicketScales$Kind" "weight" "I", Cond.fieldLink RX4 13 "TicketScales$Kind" "spread" "I", Cond.static yX9_readingAt, Cond.initialized RX9, Cond.code yX9_readingAt cX9_readingAt 2 (some .int), Cond.methodLink RX9 235 Lib.Math.max.name, Cond.static Lib.Math.max.name, Cond.initialized "java/lang/Math"]
def wsX7_greatestStep_r2 : List Cond := [Cond.code Lib.Math.max.name Lib.Math.max.code 2 (some .int), Cond.methodLink RX9 232 yX9_quotient, Cond.static yX9_quotient, Cond.code yX9_quotient cX9_quotient 2 (some .int), Cond.methodLink RX9 227 yJ9_floorDiv_7cf53, Cond.static yJ9_floorDiv_7cf53, Cond.initialized RJ9, Cond.code yJ9_floorDiv_7cf53 cJ9_floorDiv_7cf53 3 (some .int), Cond.methodLink RX7 47 yX4_lightest, Cond.instanceMethod yX4_lightest, Cond.selects RX4 yX4_lightest yX4_lightest, Cond.code yX4_lightest cX4_lightest 1 (some .int)]
def wsX7_greatestStep : List Cond := .code yX7_greatestStep cX7_greatestStep 4 (some .int) :: ((wsX7_greatestStep_r1 ++ wsX7_greatestStep_r2) ++ wsX70 ++ wsX40)
def wsX7_pairsOf_r1 : List Cond := [Cond.fieldLink RX7 15 "TicketScales$Scale" "limit" "I", Cond.methodLink RX7 40 yX7_shows, Cond.instanceMethod yX7_shows, Cond.selects RX7 yX7_shows yX7_shows, Cond.initialized RX7, Cond.code yX7_shows cX7_shows 2 (some .boolean), Cond.fieldLink RX7 9 "TicketScales$Scale" "step" "I", Cond.methodLink RX7 47 yX4_lightest, Cond.instanceMethod yX4_lightest, Cond.selects RX4 yX4_lightest yX4_lightest, Cond.initialized RX4, Cond.code yX4_lightest cX4_lightest 1 (some .int), Cond.fieldLink RX4 7 "TicketScales$Kind" "weight" "I", Cond.fieldLink RX4 13 "TicketScales$Kind" "spread" "I", Cond.methodLink RX7 21 yX4_heaviest, Cond.instanceMethod yX4_heaviest, Cond.selects RX4 yX4_heaviest yX4_heaviest, Cond.code yX4_heaviest cX4_heaviest 1 (some .int), Cond.methodLink RX7 44 yX7_loadTo, Cond.instanceMethod yX7_loadTo, Cond.selects RX7 yX7_loadTo yX7_loadTo, Cond.code yX7_loadTo cX7_loadTo 2 (some .int), Cond.methodLink RX7 27 yX7_loadFrom, Cond.instanceMethod yX7_loadFrom]
def wsX7_pairsOf_r2 : List Cond := [Cond.selects RX7 yX7_loadFrom yX7_loadFrom, Cond.code yX7_loadFrom cX7_loadFrom 2 (some .int)]
def wsX7_pairsOf : List Cond := .code yX7_pairsOf cX7_pairsOf 10 (some .int) :: ((wsX7_pairsOf_r1 ++ wsX7_pairsOf_r2) ++ wsX70 ++ wsX40)
def wsX7_mixedPairs_r1 : List Cond := [Cond.constant RX7 57 (-100009), Cond.methodLink RX7 77 yX7_pairsOf, Cond.instanceMethod yX7_pairsOf, Cond.selects RX7 yX7_pairsOf yX7_pairsOf, Cond.initialized RX7, Cond.code yX7_pairsOf cX7_pairsOf 10 (some .int), Cond.fieldLink RX7 15 "TicketScales$Scale" "limit" "I", Cond.methodLink RX7 40 yX7_shows, Cond.instanceMethod yX7_shows, Cond.selects RX7 yX7_shows yX7_shows, Cond.code yX7_shows cX7_shows 2 (some .boolean), Cond.fieldLink RX7 9 "TicketScales$Scale" "step" "I", Cond.methodLink RX7 47 yX4_lightest, Cond.instanceMethod yX4_lightest, Cond.selects RX4 yX4_lightest yX4_lightest, Cond.initialized RX4, Cond.code yX4_lightest cX4_lightest 1 (some .int), Cond.fieldLink RX4 7 "TicketScales$Kind" "weight" "I", Cond.fieldLink RX4 13 "TicketScales$Kind" "spread" "I", Cond.methodLink RX7 21 yX4_heaviest, Cond.instanceMethod yX4_heaviest, Cond.selects RX4 yX4_heaviest yX4_heaviest, Cond.code yX4_heaviest cX4_heaviest 1 (some .int), Cond.methodLink RX7 44 yX7_loadTo]
def wsX7_mixedPairs_r2 : List Cond := [Cond.instanceMethod yX7_loadTo, Cond.selects RX7 yX7_loadTo yX7_loadTo, Cond.code yX7_loadTo cX7_loadTo 2 (some .int), Cond.methodLink RX7 27 yX7_loadFrom, Cond.instanceMethod yX7_loadFrom, Cond.selects RX7 yX7_loadFrom yX7_loadFrom, Cond.code yX7_loadFrom cX7_loadFrom 2 (some .int)]
def wsX7_mixedPairs : List Cond := .code yX7_mixedPairs cX7_mixedPairs 10 (some .int) :: ((wsX7_mixedPairs_r1 ++ wsX7_mixedPairs_r2) ++ wsX70 ++ wsX40)
def wsX8_slotsInUse : List Cond := .code yX8_slotsInUse cX8_slotsInUse 6 (some .int) :: ([.fieldLink RX8 22 "TicketScales$State" "filled" "[Z"] ++ wsX80)
def wsX9_init_r1 : List Cond := [Cond.methodLink RX9 1 objectInit, Cond.instanceMethod objectInit, Cond.code objectInit ⟨#[0xb1]⟩ 1 none, Cond.classLink RX9 7 RX3, Cond.instantiable RX3 4, Cond.initialized RX3, Cond.fieldLink RX9 10 "TicketScales" "history" "LTicketScales$History;", Cond.classLink RX9 16 RX6, Cond.instantiable RX6 6, Cond.initialized RX6, Cond.fieldLink RX9 19 "TicketScales" "program" "LTicketScales$Program;", Cond.classLink RX9 23 RX5, Cond.instantiable RX5 7, Cond.initialized RX5, Cond.fieldLink RX9 26 "TicketScales" "trial" "LTicketScales$Prize;", Cond.methodLink RX9 9 yX3_init, Cond.instanceMethod yX3_init, Cond.code yX3_init cX3_init 2 none, Cond.methodLink RX3 3 objectInit, Cond.classLink RX3 9 RX8, Cond.fieldLink RX3 11 "TicketScales$History" "earlier" "[LTicketScales$State;", Cond.instantiable RX8 3, Cond.initialized RX8, Cond.fieldLink RX3 18 "TicketScales$History" "now" "LTicketScales$State;"]
def wsX9_init_r2 : List Cond := [Cond.fieldLink RX3 22 "TicketScales$History" "spare" "LTicketScales$State;", Cond.methodLink RX3 17 yX8_init, Cond.instanceMethod yX8_init, Cond.code yX8_init cX8_init 2 none, Cond.methodLink RX8 3 objectInit, Cond.classLink RX8 9 RX0, Cond.instantiable RX0 9, Cond.initialized RX0, Cond.fieldLink RX8 12 "TicketScales$State" "counter" "LTicketScales$Counter;", Cond.fieldLink RX8 18 "TicketScales$State" "slots" "[LTicketScales$Counter;", Cond.arrayClass .boolean, Cond.fieldLink RX8 22 "TicketScales$State" "filled" "[Z", Cond.methodLink RX8 11 yX0_init, Cond.instanceMethod yX0_init, Cond.code yX0_init cX0_init 2 none, Cond.methodLink RX0 3 objectInit, Cond.classLink RX0 9 RX4, Cond.fieldLink RX0 11 "TicketScales$Counter" "kinds" "[LTicketScales$Kind;", Cond.classLink RX0 17 RX7, Cond.instantiable RX7 3, Cond.initialized RX7, Cond.fieldLink RX0 20 "TicketScales$Counter" "scale" "LTicketScales$Scale;", Cond.classLink RX0 24 RX1, Cond.fieldLink RX0 26 "TicketScales$Counter" "customers" "[LTicketScales$Customer;"]
def wsX9_init_r3 : List Cond := [Cond.classLink RX0 30 RX5, Cond.fieldLink RX0 32 "TicketScales$Counter" "prizes" "[LTicketScales$Prize;", Cond.fieldLink RX0 36 "TicketScales$Counter" "fee" "I", Cond.instantiable RX4 2, Cond.initialized RX4, Cond.instantiable RX1 6, Cond.initialized RX1, Cond.instanceMethod yX7_init, Cond.code yX7_init cX7_init 1 none, Cond.methodLink RX7 3 objectInit, Cond.fieldLink RX7 9 "TicketScales$Scale" "step" "I", Cond.fieldLink RX7 15 "TicketScales$Scale" "limit" "I", Cond.instanceMethod yX4_init, Cond.code yX4_init cX4_init 1 none, Cond.methodLink RX4 1 objectInit, Cond.fieldLink RX4 7 "TicketScales$Kind" "weight" "I", Cond.fieldLink RX4 13 "TicketScales$Kind" "spread" "I", Cond.instanceMethod yX1_init, Cond.code yX1_init cX1_init 1 none, Cond.methodLink RX1 3 objectInit, Cond.instanceMethod yX5_init, Cond.code yX5_init cX5_init 1 none, Cond.methodLink RX5 3 objectInit, Cond.instanceMethod yX6_init]
def wsX9_init_r4 : List Cond := [Cond.code yX6_init cX6_init 1 none, Cond.methodLink RX6 3 objectInit, Cond.arrayClass .char, Cond.fieldLink RX6 9 "TicketScales$Program" "signs" "[C", Cond.arrayClass .int, Cond.fieldLink RX6 15 "TicketScales$Program" "numbers" "[I", Cond.classLink RX6 19 RX2, Cond.instantiable RX2 4, Cond.initialized RX2, Cond.fieldLink RX6 22 "TicketScales$Program" "failure" "LTicketScales$Failure;", Cond.instanceMethod yX2_init, Cond.code yX2_init cX2_init 1 none, Cond.methodLink RX2 3 objectInit]
def wsX9_init : List Cond := .code yX9_init cX9_init 1 none :: ((wsX9_init_r1 ++ (wsX9_init_r2 ++ (wsX9_init_r3 ++ wsX9_init_r4))) ++ wsX30 ++ wsX90 ++ wsX60 ++ wsX50 ++ wsX80 ++ wsX00 ++ wsX70 ++ wsX40 ++ wsX10 ++ wsX20)
def wsX9_counter : List Cond := .code yX9_counter cX9_counter 1 (some (.object "TicketScales$Counter")) :: ([.fieldLink RX9 10 "TicketScales" "history" "LTicketScales$History;", .fieldLink RX9 86 "TicketScales$History" "now" "LTicketScales$State;", .fieldLink RX9 222 "TicketScales$State" "counter" "LTicketScales$Counter;"] ++ wsX90 ++ wsX30 ++ wsX80)
def wsX9_setKind_r1 : List Cond := [Cond.fieldLink RX9 10 "TicketScales" "history" "LTicketScales$History;", Cond.methodLink RX9 30 yX3_prepare, Cond.instanceMethod yX3_prepare, Cond.selects RX3 yX3_prepare yX3_prepare, Cond.initialized RX3, Cond.code yX3_prepare cX3_prepare 1 none, Cond.fieldLink RX3 22 "TicketScales$History" "spare" "LTicketScales$State;", Cond.fieldLink RX3 18 "TicketScales$History" "now" "LTicketScales$State;", Cond.methodLink RX3 25 yX8_copyFrom, Cond.instanceMethod yX8_copyFrom, Cond.selects RX8 yX8_copyFrom yX8_copyFrom, Cond.initialized RX8, Cond.code yX8_copyFrom cX8_copyFrom 3 none, Cond.fieldLink RX8 12 "TicketScales$State" "counter" "LTicketScales$Counter;", Cond.fieldLink RX8 22 "TicketScales$State" "filled" "[Z", Cond.fieldLink RX8 18 "TicketScales$State" "slots" "[LTicketScales$Counter;", Cond.methodLink RX8 26 yX0_copyFrom, Cond.instanceMethod yX0_copyFrom, Cond.selects RX0 yX0_copyFrom yX0_copyFrom, Cond.initialized RX0, Cond.code yX0_copyFrom cX0_copyFrom 3 none, Cond.fieldLink RX0 11 "TicketScales$Counter" "kinds" "[LTicketScales$Kind;", Cond.fieldLink RX0 26 "TicketScales$Counter" "customers" "[LTicketScales$Customer;", Cond.fieldLink RX0 32 "TicketScales$Counter" "prizes" "[LTicketScales$Prize;"]
def wsX9_setKind_r2 : List Cond := [Cond.fieldLink RX0 20 "TicketScales$Counter" "scale" "LTicketScales$Scale;", Cond.fieldLink RX0 56 "TicketScales$Counter" "customerCount" "I", Cond.fieldLink RX0 59 "TicketScales$Counter" "prizeCount" "I", Cond.fieldLink RX0 62 "TicketScales$Counter" "rule" "I", Cond.fieldLink RX0 36 "TicketScales$Counter" "fee" "I", Cond.fieldLink RX0 65 "TicketScales$Counter" "gift" "I", Cond.methodLink RX0 43 yX4_copyFrom, Cond.instanceMethod yX4_copyFrom, Cond.selects RX4 yX4_copyFrom yX4_copyFrom, Cond.initialized RX4, Cond.code yX4_copyFrom cX4_copyFrom 2 none, Cond.fieldLink RX4 7 "TicketScales$Kind" "weight" "I", Cond.fieldLink RX4 13 "TicketScales$Kind" "spread" "I", Cond.methodLink RX0 47 yX1_copyFrom, Cond.instanceMethod yX1_copyFrom, Cond.selects RX1 yX1_copyFrom yX1_copyFrom, Cond.initialized RX1, Cond.code yX1_copyFrom cX1_copyFrom 2 none, Cond.fieldLink RX1 9 "TicketScales$Customer" "points" "I", Cond.fieldLink RX1 15 "TicketScales$Customer" "kept" "Z", Cond.fieldLink RX1 19 "TicketScales$Customer" "kind" "I", Cond.fieldLink RX1 22 "TicketScales$Customer" "count" "I", Cond.fieldLink RX1 25 "TicketScales$Customer" "reading" "I", Cond.fieldLink RX1 28 "TicketScales$Customer" "guess" "I"]
def wsX9_setKind_r3 : List Cond := [Cond.methodLink RX0 50 yX5_copyFrom, Cond.instanceMethod yX5_copyFrom, Cond.selects RX5 yX5_copyFrom yX5_copyFrom, Cond.initialized RX5, Cond.code yX5_copyFrom cX5_copyFrom 2 none, Cond.fieldLink RX5 9 "TicketScales$Prize" "price" "I", Cond.fieldLink RX5 15 "TicketScales$Prize" "weight" "I", Cond.fieldLink RX5 18 "TicketScales$Prize" "stock" "I", Cond.fieldLink RX5 21 "TicketScales$Prize" "mark" "I", Cond.fieldLink RX5 24 "TicketScales$Prize" "box" "I", Cond.fieldLink RX5 27 "TicketScales$Prize" "sold" "I", Cond.fieldLink RX5 30 "TicketScales$Prize" "boxes" "I", Cond.methodLink RX0 53 yX7_copyFrom, Cond.instanceMethod yX7_copyFrom, Cond.selects RX7 yX7_copyFrom yX7_copyFrom, Cond.initialized RX7, Cond.code yX7_copyFrom cX7_copyFrom 2 none, Cond.fieldLink RX7 9 "TicketScales$Scale" "step" "I", Cond.fieldLink RX7 15 "TicketScales$Scale" "limit" "I", Cond.fieldLink RX7 18 "TicketScales$Scale" "bias" "I", Cond.methodLink RX9 33 yX9_counter, Cond.instanceMethod yX9_counter, Cond.selects RX9 yX9_counter yX9_counter, Cond.initialized RX9]
def wsX9_setKind_r4 : List Cond := [Cond.code yX9_counter cX9_counter 1 (some (.object "TicketScales$Counter")), Cond.fieldLink RX9 86 "TicketScales$History" "now" "LTicketScales$State;", Cond.fieldLink RX9 222 "TicketScales$State" "counter" "LTicketScales$Counter;", Cond.methodLink RX9 37 yX0_changeKind, Cond.instanceMethod yX0_changeKind, Cond.selects RX0 yX0_changeKind yX0_changeKind, Cond.code yX0_changeKind cX0_changeKind 6 (some .int), Cond.constant RX0 76 (-100001), Cond.fieldLink RX0 77 "TicketScales$Kind" "weight" "I", Cond.fieldLink RX0 80 "TicketScales$Kind" "spread" "I", Cond.methodLink RX0 72 yX0_kindAt, Cond.instanceMethod yX0_kindAt, Cond.selects RX0 yX0_kindAt yX0_kindAt, Cond.code yX0_kindAt cX0_kindAt 2 (some (.object "TicketScales$Kind")), Cond.static yX9_within, Cond.code yX9_within cX9_within 3 (some .boolean), Cond.methodLink RX9 43 yX3_settle, Cond.instanceMethod yX3_settle, Cond.selects RX3 yX3_settle yX3_settle, Cond.code yX3_settle cX3_settle 2 (some .int), Cond.static yX9_isError, Cond.code yX9_isError cX9_isError 1 (some .boolean), Cond.constant RX9 145 (-100001), Cond.constant RX9 225 (-100002)]
def wsX9_setKind_r5 : List Cond := [Cond.constant RX9 226 (-100003), Cond.methodLink RX3 33 yX3_recordSpare, Cond.instanceMethod yX3_recordSpare, Cond.selects RX3 yX3_recordSpare yX3_recordSpare, Cond.code yX3_recordSpare cX3_recordSpare 2 none, Cond.fieldLink RX3 36 "TicketScales$History" "size" "I", Cond.fieldLink RX3 11 "TicketScales$History" "earlier" "[LTicketScales$State;", Cond.methodLink RX3 40 yX3_dropOldest, Cond.instanceMethod yX3_dropOldest, Cond.selects RX3 yX3_dropOldest yX3_dropOldest, Cond.code yX3_dropOldest cX3_dropOldest 3 none]
def wsX9_setKind : List Cond := .code yX9_setKind cX9_setKind 4 (some .int) :: ((wsX9_setKind_r1 ++ (wsX9_setKind_r2 ++ (wsX9_setKind_r3 ++ (wsX9_setKind_r4 ++ wsX9_setKind_r5)))) ++ wsX90 ++ wsX30 ++ wsX80 ++ wsX00 ++ wsX40 ++ wsX10 ++ wsX50 ++ wsX70)
def wsX9_setScale_r1 : List Cond := [Cond.fieldLink RX9 10 "TicketScales" "history" "LTicketScales$History;", Cond.methodLink RX9 30 yX3_prepare, Cond.instanceMethod yX3_prepare, Cond.selects RX3 yX3_prepare yX3_prepare, Cond.initialized RX3, Cond.code yX3_prepare cX3_prepare 1 none, Cond.fieldLink RX3 22 "TicketScales$History" "spare" "LTicketScales$State;", Cond.fieldLink RX3 18 "TicketScales$History" "now" "LTicketScales$State;", Cond.methodLink RX3 25 yX8_copyFrom, Cond.instanceMethod yX8_copyFrom, Cond.selects RX8 yX8_copyFrom yX8_copyFrom, Cond.initialized RX8, Cond.code yX8_copyFrom cX8_copyFrom 3 none, Cond.fieldLink RX8 12 "TicketScales$State" "counter" "LTicketScales$Counter;", Cond.fieldLink RX8 22 "TicketScales$State" "filled" "[Z", Cond.fieldLink RX8 18 "TicketScales$State" "slots" "[LTicketScales$Counter;", Cond.methodLink RX8 26 yX0_copyFrom, Cond.instanceMethod yX0_copyFrom, Cond.selects RX0 yX0_copyFrom yX0_copyFrom, Cond.initialized RX0, Cond.code yX0_copyFrom cX0_copyFrom 3 none, Cond.fieldLink RX0 11 "TicketScales$Counter" "kinds" "[LTicketScales$Kind;", Cond.fieldLink RX0 26 "TicketScales$Counter" "customers" "[LTicketScales$Customer;", Cond.fieldLink RX0 32 "TicketScales$Counter" "prizes" "[LTicketScales$Prize;"]
def wsX9_setScale_r2 : List Cond := [Cond.fieldLink RX0 20 "TicketScales$Counter" "scale" "LTicketScales$Scale;", Cond.fieldLink RX0 56 "TicketScales$Counter" "customerCount" "I", Cond.fieldLink RX0 59 "TicketScales$Counter" "prizeCount" "I", Cond.fieldLink RX0 62 "TicketScales$Counter" "rule" "I", Cond.fieldLink RX0 36 "TicketScales$Counter" "fee" "I", Cond.fieldLink RX0 65 "TicketScales$Counter" "gift" "I", Cond.methodLink RX0 43 yX4_copyFrom, Cond.instanceMethod yX4_copyFrom, Cond.selects RX4 yX4_copyFrom yX4_copyFrom, Cond.initialized RX4, Cond.code yX4_copyFrom cX4_copyFrom 2 none, Cond.fieldLink RX4 7 "TicketScales$Kind" "weight" "I", Cond.fieldLink RX4 13 "TicketScales$Kind" "spread" "I", Cond.methodLink RX0 47 yX1_copyFrom, Cond.instanceMethod yX1_copyFrom, Cond.selects RX1 yX1_copyFrom yX1_copyFrom, Cond.initialized RX1, Cond.code yX1_copyFrom cX1_copyFrom 2 none, Cond.fieldLink RX1 9 "TicketScales$Customer" "points" "I", Cond.fieldLink RX1 15 "TicketScales$Customer" "kept" "Z", Cond.fieldLink RX1 19 "TicketScales$Customer" "kind" "I", Cond.fieldLink RX1 22 "TicketScales$Customer" "count" "I", Cond.fieldLink RX1 25 "TicketScales$Customer" "reading" "I", Cond.fieldLink RX1 28 "TicketScales$Customer" "guess" "I"]
def wsX9_setScale_r3 : List Cond := [Cond.methodLink RX0 50 yX5_copyFrom, Cond.instanceMethod yX5_copyFrom, Cond.selects RX5 yX5_copyFrom yX5_copyFrom, Cond.initialized RX5, Cond.code yX5_copyFrom cX5_copyFrom 2 none, Cond.fieldLink RX5 9 "TicketScales$Prize" "price" "I", Cond.fieldLink RX5 15 "TicketScales$Prize" "weight" "I", Cond.fieldLink RX5 18 "TicketScales$Prize" "stock" "I", Cond.fieldLink RX5 21 "TicketScales$Prize" "mark" "I", Cond.fieldLink RX5 24 "TicketScales$Prize" "box" "I", Cond.fieldLink RX5 27 "TicketScales$Prize" "sold" "I", Cond.fieldLink RX5 30 "TicketScales$Prize" "boxes" "I", Cond.methodLink RX0 53 yX7_copyFrom, Cond.instanceMethod yX7_copyFrom, Cond.selects RX7 yX7_copyFrom yX7_copyFrom, Cond.initialized RX7, Cond.code yX7_copyFrom cX7_copyFrom 2 none, Cond.fieldLink RX7 9 "TicketScales$Scale" "step" "I", Cond.fieldLink RX7 15 "TicketScales$Scale" "limit" "I", Cond.fieldLink RX7 18 "TicketScales$Scale" "bias" "I", Cond.methodLink RX9 33 yX9_counter, Cond.instanceMethod yX9_counter, Cond.selects RX9 yX9_counter yX9_counter, Cond.initialized RX9]
def wsX9_setScale_r4 : List Cond := [Cond.code yX9_counter cX9_counter 1 (some (.object "TicketScales$Counter")), Cond.fieldLink RX9 86 "TicketScales$History" "now" "LTicketScales$State;", Cond.fieldLink RX9 222 "TicketScales$State" "counter" "LTicketScales$Counter;", Cond.methodLink RX9 47 yX0_changeScale, Cond.instanceMethod yX0_changeScale, Cond.selects RX0 yX0_changeScale yX0_changeScale, Cond.code yX0_changeScale cX0_changeScale 3 (some .int), Cond.constant RX0 76 (-100001), Cond.fieldLink RX0 83 "TicketScales$Scale" "step" "I", Cond.fieldLink RX0 86 "TicketScales$Scale" "limit" "I", Cond.fieldLink RX0 89 "TicketScales$Scale" "bias" "I", Cond.methodLink RX0 92 Lib.Math.min.name, Cond.static Lib.Math.min.name, Cond.initialized "java/lang/Math", Cond.code Lib.Math.min.name Lib.Math.min.code 2 (some .int), Cond.methodLink RX0 98 Lib.Math.max.name, Cond.static Lib.Math.max.name, Cond.code Lib.Math.max.name Lib.Math.max.code 2 (some .int), Cond.static yX9_within, Cond.code yX9_within cX9_within 3 (some .boolean), Cond.methodLink RX9 43 yX3_settle, Cond.instanceMethod yX3_settle, Cond.selects RX3 yX3_settle yX3_settle, Cond.code yX3_settle cX3_settle 2 (some .int)]
def wsX9_setScale_r5 : List Cond := [Cond.static yX9_isError, Cond.code yX9_isError cX9_isError 1 (some .boolean), Cond.constant RX9 145 (-100001), Cond.constant RX9 225 (-100002), Cond.constant RX9 226 (-100003), Cond.methodLink RX3 33 yX3_recordSpare, Cond.instanceMethod yX3_recordSpare, Cond.selects RX3 yX3_recordSpare yX3_recordSpare, Cond.code yX3_recordSpare cX3_recordSpare 2 none, Cond.fieldLink RX3 36 "TicketScales$History" "size" "I", Cond.fieldLink RX3 11 "TicketScales$History" "earlier" "[LTicketScales$State;", Cond.methodLink RX3 40 yX3_dropOldest, Cond.instanceMethod yX3_dropOldest, Cond.selects RX3 yX3_dropOldest yX3_dropOldest, Cond.code yX3_dropOldest cX3_dropOldest 3 none]
def wsX9_setScale : List Cond := .code yX9_setScale cX9_setScale 3 (some .int) :: ((wsX9_setScale_r1 ++ (wsX9_setScale_r2 ++ (wsX9_setScale_r3 ++ (wsX9_setScale_r4 ++ wsX9_setScale_r5)))) ++ wsX90 ++ wsX30 ++ wsX80 ++ wsX00 ++ wsX40 ++ wsX10 ++ wsX50 ++ wsX70)
def wsX9_setBias_r1 : List Cond := [Cond.fieldLink RX9 10 "TicketScales" "history" "LTicketScales$History;", Cond.methodLink RX9 30 yX3_prepare, Cond.instanceMethod yX3_prepare, Cond.selects RX3 yX3_prepare yX3_prepare, Cond.initialized RX3, Cond.code yX3_prepare cX3_prepare 1 none, Cond.fieldLink RX3 22 "TicketScales$History" "spare" "LTicketScales$State;", Cond.fieldLink RX3 18 "TicketScales$History" "now" "LTicketScales$State;", Cond.methodLink RX3 25 yX8_copyFrom, Cond.instanceMethod yX8_copyFrom, Cond.selects RX8 yX8_copyFrom yX8_copyFrom, Cond.initialized RX8, Cond.code yX8_copyFrom cX8_copyFrom 3 none, Cond.fieldLink RX8 12 "TicketScales$State" "counter" "LTicketScales$Counter;", Cond.fieldLink RX8 22 "TicketScales$State" "filled" "[Z", Cond.fieldLink RX8 18 "TicketScales$State" "slots" "[LTicketScales$Counter;", Cond.methodLink RX8 26 yX0_copyFrom, Cond.instanceMethod yX0_copyFrom, Cond.selects RX0 yX0_copyFrom yX0_copyFrom, Cond.initialized RX0, Cond.code yX0_copyFrom cX0_copyFrom 3 none, Cond.fieldLink RX0 11 "TicketScales$Counter" "kinds" "[LTicketScales$Kind;", Cond.fieldLink RX0 26 "TicketScales$Counter" "customers" "[LTicketScales$Customer;", Cond.fieldLink RX0 32 "TicketScales$Counter" "prizes" "[LTicketScales$Prize;"]
def wsX9_setBias_r2 : List Cond := [Cond.fieldLink RX0 20 "TicketScales$Counter" "scale" "LTicketScales$Scale;", Cond.fieldLink RX0 56 "TicketScales$Counter" "customerCount" "I", Cond.fieldLink RX0 59 "TicketScales$Counter" "prizeCount" "I", Cond.fieldLink RX0 62 "TicketScales$Counter" "rule" "I", Cond.fieldLink RX0 36 "TicketScales$Counter" "fee" "I", Cond.fieldLink RX0 65 "TicketScales$Counter" "gift" "I", Cond.methodLink RX0 43 yX4_copyFrom, Cond.instanceMethod yX4_copyFrom, Cond.selects RX4 yX4_copyFrom yX4_copyFrom, Cond.initialized RX4, Cond.code yX4_copyFrom cX4_copyFrom 2 none, Cond.fieldLink RX4 7 "TicketScales$Kind" "weight" "I", Cond.fieldLink RX4 13 "TicketScales$Kind" "spread" "I", Cond.methodLink RX0 47 yX1_copyFrom, Cond.instanceMethod yX1_copyFrom, Cond.selects RX1 yX1_copyFrom yX1_copyFrom, Cond.initialized RX1, Cond.code yX1_copyFrom cX1_copyFrom 2 none, Cond.fieldLink RX1 9 "TicketScales$Customer" "points" "I", Cond.fieldLink RX1 15 "TicketScales$Customer" "kept" "Z", Cond.fieldLink RX1 19 "TicketScales$Customer" "kind" "I", Cond.fieldLink RX1 22 "TicketScales$Customer" "count" "I", Cond.fieldLink RX1 25 "TicketScales$Customer" "reading" "I", Cond.fieldLink RX1 28 "TicketScales$Customer" "guess" "I"]
def wsX9_setBias_r3 : List Cond := [Cond.methodLink RX0 50 yX5_copyFrom, Cond.instanceMethod yX5_copyFrom, Cond.selects RX5 yX5_copyFrom yX5_copyFrom, Cond.initialized RX5, Cond.code yX5_copyFrom cX5_copyFrom 2 none, Cond.fieldLink RX5 9 "TicketScales$Prize" "price" "I", Cond.fieldLink RX5 15 "TicketScales$Prize" "weight" "I", Cond.fieldLink RX5 18 "TicketScales$Prize" "stock" "I", Cond.fieldLink RX5 21 "TicketScales$Prize" "mark" "I", Cond.fieldLink RX5 24 "TicketScales$Prize" "box" "I", Cond.fieldLink RX5 27 "TicketScales$Prize" "sold" "I", Cond.fieldLink RX5 30 "TicketScales$Prize" "boxes" "I", Cond.methodLink RX0 53 yX7_copyFrom, Cond.instanceMethod yX7_copyFrom, Cond.selects RX7 yX7_copyFrom yX7_copyFrom, Cond.initialized RX7, Cond.code yX7_copyFrom cX7_copyFrom 2 none, Cond.fieldLink RX7 9 "TicketScales$Scale" "step" "I", Cond.fieldLink RX7 15 "TicketScales$Scale" "limit" "I", Cond.fieldLink RX7 18 "TicketScales$Scale" "bias" "I", Cond.methodLink RX9 33 yX9_counter, Cond.instanceMethod yX9_counter, Cond.selects RX9 yX9_counter yX9_counter, Cond.initialized RX9]
def wsX9_setBias_r4 : List Cond := [Cond.code yX9_counter cX9_counter 1 (some (.object "TicketScales$Counter")), Cond.fieldLink RX9 86 "TicketScales$History" "now" "LTicketScales$State;", Cond.fieldLink RX9 222 "TicketScales$State" "counter" "LTicketScales$Counter;", Cond.methodLink RX9 51 yX0_changeBias, Cond.instanceMethod yX0_changeBias, Cond.selects RX0 yX0_changeBias yX0_changeBias, Cond.code yX0_changeBias cX0_changeBias 3 (some .int), Cond.fieldLink RX0 86 "TicketScales$Scale" "limit" "I", Cond.constant RX0 76 (-100001), Cond.fieldLink RX0 89 "TicketScales$Scale" "bias" "I", Cond.static yX9_within, Cond.code yX9_within cX9_within 3 (some .boolean), Cond.methodLink RX9 43 yX3_settle, Cond.instanceMethod yX3_settle, Cond.selects RX3 yX3_settle yX3_settle, Cond.code yX3_settle cX3_settle 2 (some .int), Cond.static yX9_isError, Cond.code yX9_isError cX9_isError 1 (some .boolean), Cond.constant RX9 145 (-100001), Cond.constant RX9 225 (-100002), Cond.constant RX9 226 (-100003), Cond.methodLink RX3 33 yX3_recordSpare, Cond.instanceMethod yX3_recordSpare, Cond.selects RX3 yX3_recordSpare yX3_recordSpare]
def wsX9_setBias_r5 : List Cond := [Cond.code yX3_recordSpare cX3_recordSpare 2 none, Cond.fieldLink RX3 36 "TicketScales$History" "size" "I", Cond.fieldLink RX3 11 "TicketScales$History" "earlier" "[LTicketScales$State;", Cond.methodLink RX3 40 yX3_dropOldest, Cond.instanceMethod yX3_dropOldest, Cond.selects RX3 yX3_dropOldest yX3_dropOldest, Cond.code yX3_dropOldest cX3_dropOldest 3 none]
def wsX9_setBias : List Cond := .code yX9_setBias cX9_setBias 2 (some .int) :: ((wsX9_setBias_r1 ++ (wsX9_setBias_r2 ++ (wsX9_setBias_r3 ++ (wsX9_setBias_r4 ++ wsX9_setBias_r5)))) ++ wsX90 ++ wsX30 ++ wsX80 ++ wsX00 ++ wsX40 ++ wsX10 ++ wsX50 ++ wsX70)
def wsX9_setRule_r1 : List Cond := [Cond.fieldLink RX9 10 "TicketScales" "history" "LTicketScales$History;", Cond.methodLink RX9 30 yX3_prepare, Cond.instanceMethod yX3_prepare, Cond.selects RX3 yX3_prepare yX3_prepare, Cond.initialized RX3, Cond.code yX3_prepare cX3_prepare 1 none, Cond.fieldLink RX3 22 "TicketScales$History" "spare" "LTicketScales$State;", Cond.fieldLink RX3 18 "TicketScales$History" "now" "LTicketScales$State;", Cond.methodLink RX3 25 yX8_copyFrom, Cond.instanceMethod yX8_copyFrom, Cond.selects RX8 yX8_copyFrom yX8_copyFrom, Cond.initialized RX8, Cond.code yX8_copyFrom cX8_copyFrom 3 none, Cond.fieldLink RX8 12 "TicketScales$State" "counter" "LTicketScales$Counter;", Cond.fieldLink RX8 22 "TicketScales$State" "filled" "[Z", Cond.fieldLink RX8 18 "TicketScales$State" "slots" "[LTicketScales$Counter;", Cond.methodLink RX8 26 yX0_copyFrom, Cond.instanceMethod yX0_copyFrom, Cond.selects RX0 yX0_copyFrom yX0_copyFrom, Cond.initialized RX0, Cond.code yX0_copyFrom cX0_copyFrom 3 none, Cond.fieldLink RX0 11 "TicketScales$Counter" "kinds" "[LTicketScales$Kind;", Cond.fieldLink RX0 26 "TicketScales$Counter" "customers" "[LTicketScales$Customer;", Cond.fieldLink RX0 32 "TicketScales$Counter" "prizes" "[LTicketScales$Prize;"]
def wsX9_setRule_r2 : List Cond := [Cond.fieldLink RX0 20 "TicketScales$Counter" "scale" "LTicketScales$Scale;", Cond.fieldLink RX0 56 "TicketScales$Counter" "customerCount" "I", Cond.fieldLink RX0 59 "TicketScales$Counter" "prizeCount" "I", Cond.fieldLink RX0 62 "TicketScales$Counter" "rule" "I", Cond.fieldLink RX0 36 "TicketScales$Counter" "fee" "I", Cond.fieldLink RX0 65 "TicketScales$Counter" "gift" "I", Cond.methodLink RX0 43 yX4_copyFrom, Cond.instanceMethod yX4_copyFrom, Cond.selects RX4 yX4_copyFrom yX4_copyFrom, Cond.initialized RX4, Cond.code yX4_copyFrom cX4_copyFrom 2 none, Cond.fieldLink RX4 7 "TicketScales$Kind" "weight" "I", Cond.fieldLink RX4 13 "TicketScales$Kind" "spread" "I", Cond.methodLink RX0 47 yX1_copyFrom, Cond.instanceMethod yX1_copyFrom, Cond.selects RX1 yX1_copyFrom yX1_copyFrom, Cond.initialized RX1, Cond.code yX1_copyFrom cX1_copyFrom 2 none, Cond.fieldLink RX1 9 "TicketScales$Customer" "points" "I", Cond.fieldLink RX1 15 "TicketScales$Customer" "kept" "Z", Cond.fieldLink RX1 19 "TicketScales$Customer" "kind" "I", Cond.fieldLink RX1 22 "TicketScales$Customer" "count" "I", Cond.fieldLink RX1 25 "TicketScales$Customer" "reading" "I", Cond.fieldLink RX1 28 "TicketScales$Customer" "guess" "I"]
def wsX9_setRule_r3 : List Cond := [Cond.methodLink RX0 50 yX5_copyFrom, Cond.instanceMethod yX5_copyFrom, Cond.selects RX5 yX5_copyFrom yX5_copyFrom, Cond.initialized RX5, Cond.code yX5_copyFrom cX5_copyFrom 2 none, Cond.fieldLink RX5 9 "TicketScales$Prize" "price" "I", Cond.fieldLink RX5 15 "TicketScales$Prize" "weight" "I", Cond.fieldLink RX5 18 "TicketScales$Prize" "stock" "I", Cond.fieldLink RX5 21 "TicketScales$Prize" "mark" "I", Cond.fieldLink RX5 24 "TicketScales$Prize" "box" "I", Cond.fieldLink RX5 27 "TicketScales$Prize" "sold" "I", Cond.fieldLink RX5 30 "TicketScales$Prize" "boxes" "I", Cond.methodLink RX0 53 yX7_copyFrom, Cond.instanceMethod yX7_copyFrom, Cond.selects RX7 yX7_copyFrom yX7_copyFrom, Cond.initialized RX7, Cond.code yX7_copyFrom cX7_copyFrom 2 none, Cond.fieldLink RX7 9 "TicketScales$Scale" "step" "I", Cond.fieldLink RX7 15 "TicketScales$Scale" "limit" "I", Cond.fieldLink RX7 18 "TicketScales$Scale" "bias" "I", Cond.methodLink RX9 33 yX9_counter, Cond.instanceMethod yX9_counter, Cond.selects RX9 yX9_counter yX9_counter, Cond.initialized RX9]
def wsX9_setRule_r4 : List Cond := [Cond.code yX9_counter cX9_counter 1 (some (.object "TicketScales$Counter")), Cond.fieldLink RX9 86 "TicketScales$History" "now" "LTicketScales$State;", Cond.fieldLink RX9 222 "TicketScales$State" "counter" "LTicketScales$Counter;", Cond.methodLink RX9 54 yX0_changeRule, Cond.instanceMethod yX0_changeRule, Cond.selects RX0 yX0_changeRule yX0_changeRule, Cond.code yX0_changeRule cX0_changeRule 3 (some .int), Cond.constant RX0 76 (-100001), Cond.static yX9_within, Cond.code yX9_within cX9_within 3 (some .boolean), Cond.methodLink RX9 43 yX3_settle, Cond.instanceMethod yX3_settle, Cond.selects RX3 yX3_settle yX3_settle, Cond.code yX3_settle cX3_settle 2 (some .int), Cond.static yX9_isError, Cond.code yX9_isError cX9_isError 1 (some .boolean), Cond.constant RX9 145 (-100001), Cond.constant RX9 225 (-100002), Cond.constant RX9 226 (-100003), Cond.methodLink RX3 33 yX3_recordSpare, Cond.instanceMethod yX3_recordSpare, Cond.selects RX3 yX3_recordSpare yX3_recordSpare, Cond.code yX3_recordSpare cX3_recordSpare 2 none, Cond.fieldLink RX3 36 "TicketScales$History" "size" "I"]
def wsX9_setRule_r5 : List Cond := [Cond.fieldLink RX3 11 "TicketScales$History" "earlier" "[LTicketScales$State;", Cond.methodLink RX3 40 yX3_dropOldest, Cond.instanceMethod yX3_dropOldest, Cond.selects RX3 yX3_dropOldest yX3_dropOldest, Cond.code yX3_dropOldest cX3_dropOldest 3 none]
def wsX9_setRule : List Cond := .code yX9_setRule cX9_setRule 2 (some .int) :: ((wsX9_setRule_r1 ++ (wsX9_setRule_r2 ++ (wsX9_setRule_r3 ++ (wsX9_setRule_r4 ++ wsX9_setRule_r5)))) ++ wsX90 ++ wsX30 ++ wsX80 ++ wsX00 ++ wsX40 ++ wsX10 ++ wsX50 ++ wsX70)
def wsX9_come_r1 : List Cond := [Cond.fieldLink RX9 10 "TicketScales" "history" "LTicketScales$History;", Cond.methodLink RX9 30 yX3_prepare, Cond.instanceMethod yX3_prepare, Cond.selects RX3 yX3_prepare yX3_prepare, Cond.initialized RX3, Cond.code yX3_prepare cX3_prepare 1 none, Cond.fieldLink RX3 22 "TicketScales$History" "spare" "LTicketScales$State;", Cond.fieldLink RX3 18 "TicketScales$History" "now" "LTicketScales$State;", Cond.methodLink RX3 25 yX8_copyFrom, Cond.instanceMethod yX8_copyFrom, Cond.selects RX8 yX8_copyFrom yX8_copyFrom, Cond.initialized RX8, Cond.code yX8_copyFrom cX8_copyFrom 3 none, Cond.fieldLink RX8 12 "TicketScales$State" "counter" "LTicketScales$Counter;", Cond.fieldLink RX8 22 "TicketScales$State" "filled" "[Z", Cond.fieldLink RX8 18 "TicketScales$State" "slots" "[LTicketScales$Counter;", Cond.methodLink RX8 26 yX0_copyFrom, Cond.instanceMethod yX0_copyFrom, Cond.selects RX0 yX0_copyFrom yX0_copyFrom, Cond.initialized RX0, Cond.code yX0_copyFrom cX0_copyFrom 3 none, Cond.fieldLink RX0 11 "TicketScales$Counter" "kinds" "[LTicketScales$Kind;", Cond.fieldLink RX0 26 "TicketScales$Counter" "customers" "[LTicketScales$Customer;", Cond.fieldLink RX0 32 "TicketScales$Counter" "prizes" "[LTicketScales$Prize;"]
def wsX9_come_r2 : List Cond := [Cond.fieldLink RX0 20 "TicketScales$Counter" "scale" "LTicketScales$Scale;", Cond.fieldLink RX0 56 "TicketScales$Counter" "customerCount" "I", Cond.fieldLink RX0 59 "TicketScales$Counter" "prizeCount" "I", Cond.fieldLink RX0 62 "TicketScales$Counter" "rule" "I", Cond.fieldLink RX0 36 "TicketScales$Counter" "fee" "I", Cond.fieldLink RX0 65 "TicketScales$Counter" "gift" "I", Cond.methodLink RX0 43 yX4_copyFrom, Cond.instanceMethod yX4_copyFrom, Cond.selects RX4 yX4_copyFrom yX4_copyFrom, Cond.initialized RX4, Cond.code yX4_copyFrom cX4_copyFrom 2 none, Cond.fieldLink RX4 7 "TicketScales$Kind" "weight" "I", Cond.fieldLink RX4 13 "TicketScales$Kind" "spread" "I", Cond.methodLink RX0 47 yX1_copyFrom, Cond.instanceMethod yX1_copyFrom, Cond.selects RX1 yX1_copyFrom yX1_copyFrom, Cond.initialized RX1, Cond.code yX1_copyFrom cX1_copyFrom 2 none, Cond.fieldLink RX1 9 "TicketScales$Customer" "points" "I", Cond.fieldLink RX1 15 "TicketScales$Customer" "kept" "Z", Cond.fieldLink RX1 19 "TicketScales$Customer" "kind" "I", Cond.fieldLink RX1 22 "TicketScales$Customer" "count" "I", Cond.fieldLink RX1 25 "TicketScales$Customer" "reading" "I", Cond.fieldLink RX1 28 "TicketScales$Customer" "guess" "I"]
def wsX9_come_r3 : List Cond := [Cond.methodLink RX0 50 yX5_copyFrom, Cond.instanceMethod yX5_copyFrom, Cond.selects RX5 yX5_copyFrom yX5_copyFrom, Cond.initialized RX5, Cond.code yX5_copyFrom cX5_copyFrom 2 none, Cond.fieldLink RX5 9 "TicketScales$Prize" "price" "I", Cond.fieldLink RX5 15 "TicketScales$Prize" "weight" "I", Cond.fieldLink RX5 18 "TicketScales$Prize" "stock" "I", Cond.fieldLink RX5 21 "TicketScales$Prize" "mark" "I", Cond.fieldLink RX5 24 "TicketScales$Prize" "box" "I", Cond.fieldLink RX5 27 "TicketScales$Prize" "sold" "I", Cond.fieldLink RX5 30 "TicketScales$Prize" "boxes" "I", Cond.methodLink RX0 53 yX7_copyFrom, Cond.instanceMethod yX7_copyFrom, Cond.selects RX7 yX7_copyFrom yX7_copyFrom, Cond.initialized RX7, Cond.code yX7_copyFrom cX7_copyFrom 2 none, Cond.fieldLink RX7 9 "TicketScales$Scale" "step" "I", Cond.fieldLink RX7 15 "TicketScales$Scale" "limit" "I", Cond.fieldLink RX7 18 "TicketScales$Scale" "bias" "I", Cond.methodLink RX9 33 yX9_counter, Cond.instanceMethod yX9_counter, Cond.selects RX9 yX9_counter yX9_counter, Cond.initialized RX9]
def wsX9_come_r4 : List Cond := [Cond.code yX9_counter cX9_counter 1 (some (.object "TicketScales$Counter")), Cond.fieldLink RX9 86 "TicketScales$History" "now" "LTicketScales$State;", Cond.fieldLink RX9 222 "TicketScales$State" "counter" "LTicketScales$Counter;", Cond.methodLink RX9 60 yX0_addCustomer, Cond.instanceMethod yX0_addCustomer, Cond.selects RX0 yX0_addCustomer yX0_addCustomer, Cond.code yX0_addCustomer cX0_addCustomer 2 (some .int), Cond.constant RX0 76 (-100001), Cond.constant RX0 101 (-100003), Cond.static yX9_within, Cond.code yX9_within cX9_within 3 (some .boolean), Cond.methodLink RX0 102 yX1_begin, Cond.instanceMethod yX1_begin, Cond.selects RX1 yX1_begin yX1_begin, Cond.code yX1_begin cX1_begin 2 none, Cond.methodLink RX9 43 yX3_settle, Cond.instanceMethod yX3_settle, Cond.selects RX3 yX3_settle yX3_settle, Cond.code yX3_settle cX3_settle 2 (some .int), Cond.static yX9_isError, Cond.code yX9_isError cX9_isError 1 (some .boolean), Cond.constant RX9 145 (-100001), Cond.constant RX9 225 (-100002), Cond.constant RX9 226 (-100003)]
def wsX9_come_r5 : List Cond := [Cond.methodLink RX3 33 yX3_recordSpare, Cond.instanceMethod yX3_recordSpare, Cond.selects RX3 yX3_recordSpare yX3_recordSpare, Cond.code yX3_recordSpare cX3_recordSpare 2 none, Cond.fieldLink RX3 36 "TicketScales$History" "size" "I", Cond.fieldLink RX3 11 "TicketScales$History" "earlier" "[LTicketScales$State;", Cond.methodLink RX3 40 yX3_dropOldest, Cond.instanceMethod yX3_dropOldest, Cond.selects RX3 yX3_dropOldest yX3_dropOldest, Cond.code yX3_dropOldest cX3_dropOldest 3 none]
def wsX9_come : List Cond := .code yX9_come cX9_come 2 (some .int) :: ((wsX9_come_r1 ++ (wsX9_come_r2 ++ (wsX9_come_r3 ++ (wsX9_come_r4 ++ wsX9_come_r5)))) ++ wsX90 ++ wsX30 ++ wsX80 ++ wsX00 ++ wsX40 ++ wsX10 ++ wsX50 ++ wsX70)
def wsX9_leave_r1 : List Cond := [Cond.fieldLink RX9 10 "TicketScales" "history" "LTicketScales$History;", Cond.methodLink RX9 30 yX3_prepare, Cond.instanceMethod yX3_prepare, Cond.selects RX3 yX3_prepare yX3_prepare, Cond.initialized RX3, Cond.code yX3_prepare cX3_prepare 1 none, Cond.fieldLink RX3 22 "TicketScales$History" "spare" "LTicketScales$State;", Cond.fieldLink RX3 18 "TicketScales$History" "now" "LTicketScales$State;", Cond.methodLink RX3 25 yX8_copyFrom, Cond.instanceMethod yX8_copyFrom, Cond.selects RX8 yX8_copyFrom yX8_copyFrom, Cond.initialized RX8, Cond.code yX8_copyFrom cX8_copyFrom 3 none, Cond.fieldLink RX8 12 "TicketScales$State" "counter" "LTicketScales$Counter;", Cond.fieldLink RX8 22 "TicketScales$State" "filled" "[Z", Cond.fieldLink RX8 18 "TicketScales$State" "slots" "[LTicketScales$Counter;", Cond.methodLink RX8 26 yX0_copyFrom, Cond.instanceMethod yX0_copyFrom, Cond.selects RX0 yX0_copyFrom yX0_copyFrom, Cond.initialized RX0, Cond.code yX0_copyFrom cX0_copyFrom 3 none, Cond.fieldLink RX0 11 "TicketScales$Counter" "kinds" "[LTicketScales$Kind;", Cond.fieldLink RX0 26 "TicketScales$Counter" "customers" "[LTicketScales$Customer;", Cond.fieldLink RX0 32 "TicketScales$Counter" "prizes" "[LTicketScales$Prize;"]
def wsX9_leave_r2 : List Cond := [Cond.fieldLink RX0 20 "TicketScales$Counter" "scale" "LTicketScales$Scale;", Cond.fieldLink RX0 56 "TicketScales$Counter" "customerCount" "I", Cond.fieldLink RX0 59 "TicketScales$Counter" "prizeCount" "I", Cond.fieldLink RX0 62 "TicketScales$Counter" "rule" "I", Cond.fieldLink RX0 36 "TicketScales$Counter" "fee" "I", Cond.fieldLink RX0 65 "TicketScales$Counter" "gift" "I", Cond.methodLink RX0 43 yX4_copyFrom, Cond.instanceMethod yX4_copyFrom, Cond.selects RX4 yX4_copyFrom yX4_copyFrom, Cond.initialized RX4, Cond.code yX4_copyFrom cX4_copyFrom 2 none, Cond.fieldLink RX4 7 "TicketScales$Kind" "weight" "I", Cond.fieldLink RX4 13 "TicketScales$Kind" "spread" "I", Cond.methodLink RX0 47 yX1_copyFrom, Cond.instanceMethod yX1_copyFrom, Cond.selects RX1 yX1_copyFrom yX1_copyFrom, Cond.initialized RX1, Cond.code yX1_copyFrom cX1_copyFrom 2 none, Cond.fieldLink RX1 9 "TicketScales$Customer" "points" "I", Cond.fieldLink RX1 15 "TicketScales$Customer" "kept" "Z", Cond.fieldLink RX1 19 "TicketScales$Customer" "kind" "I", Cond.fieldLink RX1 22 "TicketScales$Customer" "count" "I", Cond.fieldLink RX1 25 "TicketScales$Customer" "reading" "I", Cond.fieldLink RX1 28 "TicketScales$Customer" "guess" "I"]
def wsX9_leave_r3 : List Cond := [Cond.methodLink RX0 50 yX5_copyFrom, Cond.instanceMethod yX5_copyFrom, Cond.selects RX5 yX5_copyFrom yX5_copyFrom, Cond.initialized RX5, Cond.code yX5_copyFrom cX5_copyFrom 2 none, Cond.fieldLink RX5 9 "TicketScales$Prize" "price" "I", Cond.fieldLink RX5 15 "TicketScales$Prize" "weight" "I", Cond.fieldLink RX5 18 "TicketScales$Prize" "stock" "I", Cond.fieldLink RX5 21 "TicketScales$Prize" "mark" "I", Cond.fieldLink RX5 24 "TicketScales$Prize" "box" "I", Cond.fieldLink RX5 27 "TicketScales$Prize" "sold" "I", Cond.fieldLink RX5 30 "TicketScales$Prize" "boxes" "I", Cond.methodLink RX0 53 yX7_copyFrom, Cond.instanceMethod yX7_copyFrom, Cond.selects RX7 yX7_copyFrom yX7_copyFrom, Cond.initialized RX7, Cond.code yX7_copyFrom cX7_copyFrom 2 none, Cond.fieldLink RX7 9 "TicketScales$Scale" "step" "I", Cond.fieldLink RX7 15 "TicketScales$Scale" "limit" "I", Cond.fieldLink RX7 18 "TicketScales$Scale" "bias" "I", Cond.methodLink RX9 33 yX9_counter, Cond.instanceMethod yX9_counter, Cond.selects RX9 yX9_counter yX9_counter, Cond.initialized RX9]
def wsX9_leave_r4 : List Cond := [Cond.code yX9_counter cX9_counter 1 (some (.object "TicketScales$Counter")), Cond.fieldLink RX9 86 "TicketScales$History" "now" "LTicketScales$State;", Cond.fieldLink RX9 222 "TicketScales$State" "counter" "LTicketScales$Counter;", Cond.methodLink RX9 63 yX0_dropCustomer, Cond.instanceMethod yX0_dropCustomer, Cond.selects RX0 yX0_dropCustomer yX0_dropCustomer, Cond.code yX0_dropCustomer cX0_dropCustomer 5 (some .int), Cond.constant RX0 76 (-100001), Cond.fieldLink RX0 110 "TicketScales$Customer" "points" "I", Cond.methodLink RX0 106 yX0_customerAt, Cond.instanceMethod yX0_customerAt, Cond.selects RX0 yX0_customerAt yX0_customerAt, Cond.code yX0_customerAt cX0_customerAt 3 (some (.object "TicketScales$Customer")), Cond.static yX9_within, Cond.code yX9_within cX9_within 3 (some .boolean), Cond.methodLink RX0 102 yX1_begin, Cond.instanceMethod yX1_begin, Cond.selects RX1 yX1_begin yX1_begin, Cond.code yX1_begin cX1_begin 2 none, Cond.methodLink RX9 43 yX3_settle, Cond.instanceMethod yX3_settle, Cond.selects RX3 yX3_settle yX3_settle, Cond.code yX3_settle cX3_settle 2 (some .int), Cond.static yX9_isError]
def wsX9_leave_r5 : List Cond := [Cond.code yX9_isError cX9_isError 1 (some .boolean), Cond.constant RX9 145 (-100001), Cond.constant RX9 225 (-100002), Cond.constant RX9 226 (-100003), Cond.methodLink RX3 33 yX3_recordSpare, Cond.instanceMethod yX3_recordSpare, Cond.selects RX3 yX3_recordSpare yX3_recordSpare, Cond.code yX3_recordSpare cX3_recordSpare 2 none, Cond.fieldLink RX3 36 "TicketScales$History" "size" "I", Cond.fieldLink RX3 11 "TicketScales$History" "earlier" "[LTicketScales$State;", Cond.methodLink RX3 40 yX3_dropOldest, Cond.instanceMethod yX3_dropOldest, Cond.selects RX3 yX3_dropOldest yX3_dropOldest, Cond.code yX3_dropOldest cX3_dropOldest 3 none]
def wsX9_leave : List Cond := .code yX9_leave cX9_leave 2 (some .int) :: ((wsX9_leave_r1 ++ (wsX9_leave_r2 ++ (wsX9_leave_r3 ++ (wsX9_leave_r4 ++ wsX9_leave_r5)))) ++ wsX90 ++ wsX30 ++ wsX80 ++ wsX00 ++ wsX40 ++ wsX10 ++ wsX50 ++ wsX70)
def wsX9_weigh_r1 : List Cond := [Cond.fieldLink RX9 10 "TicketScales" "history" "LTicketScales$History;", Cond.methodLink RX9 30 yX3_prepare, Cond.instanceMethod yX3_prepare, Cond.selects RX3 yX3_prepare yX3_prepare, Cond.initialized RX3, Cond.code yX3_prepare cX3_prepare 1 none, Cond.fieldLink RX3 22 "TicketScales$History" "spare" "LTicketScales$State;", Cond.fieldLink RX3 18 "TicketScales$History" "now" "LTicketScales$State;", Cond.methodLink RX3 25 yX8_copyFrom, Cond.instanceMethod yX8_copyFrom, Cond.selects RX8 yX8_copyFrom yX8_copyFrom, Cond.initialized RX8, Cond.code yX8_copyFrom cX8_copyFrom 3 none, Cond.fieldLink RX8 12 "TicketScales$State" "counter" "LTicketScales$Counter;", Cond.fieldLink RX8 22 "TicketScales$State" "filled" "[Z", Cond.fieldLink RX8 18 "TicketScales$State" "slots" "[LTicketScales$Counter;", Cond.methodLink RX8 26 yX0_copyFrom, Cond.instanceMethod yX0_copyFrom, Cond.selects RX0 yX0_copyFrom yX0_copyFrom, Cond.initialized RX0, Cond.code yX0_copyFrom cX0_copyFrom 3 none, Cond.fieldLink RX0 11 "TicketScales$Counter" "kinds" "[LTicketScales$Kind;", Cond.fieldLink RX0 26 "TicketScales$Counter" "customers" "[LTicketScales$Customer;", Cond.fieldLink RX0 32 "TicketScales$Counter" "prizes" "[LTicketScales$Prize;"]
def wsX9_weigh_r2 : List Cond := [Cond.fieldLink RX0 20 "TicketScales$Counter" "scale" "LTicketScales$Scale;", Cond.fieldLink RX0 56 "TicketScales$Counter" "customerCount" "I", Cond.fieldLink RX0 59 "TicketScales$Counter" "prizeCount" "I", Cond.fieldLink RX0 62 "TicketScales$Counter" "rule" "I", Cond.fieldLink RX0 36 "TicketScales$Counter" "fee" "I", Cond.fieldLink RX0 65 "TicketScales$Counter" "gift" "I", Cond.methodLink RX0 43 yX4_copyFrom, Cond.instanceMethod yX4_copyFrom, Cond.selects RX4 yX4_copyFrom yX4_copyFrom, Cond.initialized RX4, Cond.code yX4_copyFrom cX4_copyFrom 2 none, Cond.fieldLink RX4 7 "TicketScales$Kind" "weight" "I", Cond.fieldLink RX4 13 "TicketScales$Kind" "spread" "I", Cond.methodLink RX0 47 yX1_copyFrom, Cond.instanceMethod yX1_copyFrom, Cond.selects RX1 yX1_copyFrom yX1_copyFrom, Cond.initialized RX1, Cond.code yX1_copyFrom cX1_copyFrom 2 none, Cond.fieldLink RX1 9 "TicketScales$Customer" "points" "I", Cond.fieldLink RX1 15 "TicketScales$Customer" "kept" "Z", Cond.fieldLink RX1 19 "TicketScales$Customer" "kind" "I", Cond.fieldLink RX1 22 "TicketScales$Customer" "count" "I", Cond.fieldLink RX1 25 "TicketScales$Customer" "reading" "I", Cond.fieldLink RX1 28 "TicketScales$Customer" "guess" "I"]
def wsX9_weigh_r3 : List Cond := [Cond.methodLink RX0 50 yX5_copyFrom, Cond.instanceMethod yX5_copyFrom, Cond.selects RX5 yX5_copyFrom yX5_copyFrom, Cond.initialized RX5, Cond.code yX5_copyFrom cX5_copyFrom 2 none, Cond.fieldLink RX5 9 "TicketScales$Prize" "price" "I", Cond.fieldLink RX5 15 "TicketScales$Prize" "weight" "I", Cond.fieldLink RX5 18 "TicketScales$Prize" "stock" "I", Cond.fieldLink RX5 21 "TicketScales$Prize" "mark" "I", Cond.fieldLink RX5 24 "TicketScales$Prize" "box" "I", Cond.fieldLink RX5 27 "TicketScales$Prize" "sold" "I", Cond.fieldLink RX5 30 "TicketScales$Prize" "boxes" "I", Cond.methodLink RX0 53 yX7_copyFrom, Cond.instanceMethod yX7_copyFrom, Cond.selects RX7 yX7_copyFrom yX7_copyFrom, Cond.initialized RX7, Cond.code yX7_copyFrom cX7_copyFrom 2 none, Cond.fieldLink RX7 9 "TicketScales$Scale" "step" "I", Cond.fieldLink RX7 15 "TicketScales$Scale" "limit" "I", Cond.fieldLink RX7 18 "TicketScales$Scale" "bias" "I", Cond.methodLink RX9 33 yX9_counter, Cond.instanceMethod yX9_counter, Cond.selects RX9 yX9_counter yX9_counter, Cond.initialized RX9]
def wsX9_weigh_r4 : List Cond := [Cond.code yX9_counter cX9_counter 1 (some (.object "TicketScales$Counter")), Cond.fieldLink RX9 86 "TicketScales$History" "now" "LTicketScales$State;", Cond.fieldLink RX9 222 "TicketScales$State" "counter" "LTicketScales$Counter;", Cond.methodLink RX9 66 yX0_weighBundle, Cond.instanceMethod yX0_weighBundle, Cond.selects RX0 yX0_weighBundle yX0_weighBundle, Cond.code yX0_weighBundle cX0_weighBundle 10 (some .int), Cond.constant RX0 76 (-100001), Cond.fieldLink RX0 80 "TicketScales$Kind" "spread" "I", Cond.fieldLink RX0 83 "TicketScales$Scale" "step" "I", Cond.fieldLink RX0 77 "TicketScales$Kind" "weight" "I", Cond.fieldLink RX0 89 "TicketScales$Scale" "bias" "I", Cond.methodLink RX0 106 yX0_customerAt, Cond.instanceMethod yX0_customerAt, Cond.selects RX0 yX0_customerAt yX0_customerAt, Cond.code yX0_customerAt cX0_customerAt 3 (some (.object "TicketScales$Customer")), Cond.static yX9_within, Cond.code yX9_within cX9_within 3 (some .boolean), Cond.methodLink RX0 72 yX0_kindAt, Cond.instanceMethod yX0_kindAt, Cond.selects RX0 yX0_kindAt yX0_kindAt, Cond.code yX0_kindAt cX0_kindAt 2 (some (.object "TicketScales$Kind")), Cond.static yX9_readingAt, Cond.code yX9_readingAt cX9_readingAt 2 (some .int)]
def wsX9_weigh_r5 : List Cond := [Cond.methodLink RX9 235 Lib.Math.max.name, Cond.static Lib.Math.max.name, Cond.initialized "java/lang/Math", Cond.code Lib.Math.max.name Lib.Math.max.code 2 (some .int), Cond.methodLink RX9 232 yX9_quotient, Cond.static yX9_quotient, Cond.code yX9_quotient cX9_quotient 2 (some .int), Cond.methodLink RX9 227 yJ9_floorDiv_7cf53, Cond.static yJ9_floorDiv_7cf53, Cond.initialized RJ9, Cond.code yJ9_floorDiv_7cf53 cJ9_floorDiv_7cf53 3 (some .int), Cond.methodLink RX0 116 yX7_guessFrom, Cond.instanceMethod yX7_guessFrom, Cond.selects RX7 yX7_guessFrom yX7_guessFrom, Cond.code yX7_guessFrom cX7_guessFrom 6 (some .int), Cond.constant RX7 57 (-100009), Cond.fieldLink RX7 58 "TicketScales$Kind" "weight" "I", Cond.methodLink RX7 64 Lib.Math.min.name, Cond.static Lib.Math.min.name, Cond.code Lib.Math.min.name Lib.Math.min.code 2 (some .int), Cond.methodLink RX7 35 Lib.Math.max.name, Cond.methodLink RX7 50 yX7_leastCount, Cond.instanceMethod yX7_leastCount, Cond.selects RX7 yX7_leastCount yX7_leastCount]
def wsX9_weigh_r6 : List Cond := [Cond.code yX7_leastCount cX7_leastCount 5 (some .int), Cond.methodLink RX7 21 yX4_heaviest, Cond.instanceMethod yX4_heaviest, Cond.selects RX4 yX4_heaviest yX4_heaviest, Cond.code yX4_heaviest cX4_heaviest 1 (some .int), Cond.methodLink RX7 27 yX7_loadFrom, Cond.instanceMethod yX7_loadFrom, Cond.selects RX7 yX7_loadFrom yX7_loadFrom, Cond.code yX7_loadFrom cX7_loadFrom 2 (some .int), Cond.methodLink RX7 54 yX7_greatestCount, Cond.instanceMethod yX7_greatestCount, Cond.selects RX7 yX7_greatestCount yX7_greatestCount, Cond.code yX7_greatestCount cX7_greatestCount 3 (some .int), Cond.methodLink RX7 40 yX7_shows, Cond.instanceMethod yX7_shows, Cond.selects RX7 yX7_shows yX7_shows, Cond.code yX7_shows cX7_shows 2 (some .boolean), Cond.methodLink RX7 44 yX7_loadTo, Cond.instanceMethod yX7_loadTo, Cond.selects RX7 yX7_loadTo yX7_loadTo, Cond.code yX7_loadTo cX7_loadTo 2 (some .int), Cond.methodLink RX7 47 yX4_lightest, Cond.instanceMethod yX4_lightest, Cond.selects RX4 yX4_lightest yX4_lightest]
def wsX9_weigh_r7 : List Cond := [Cond.code yX4_lightest cX4_lightest 1 (some .int), Cond.methodLink RX7 61 yX7_nearestCount, Cond.instanceMethod yX7_nearestCount, Cond.selects RX7 yX7_nearestCount yX7_nearestCount, Cond.code yX7_nearestCount cX7_nearestCount 5 (some .int), Cond.methodLink RX0 120 yX1_gain, Cond.instanceMethod yX1_gain, Cond.selects RX1 yX1_gain yX1_gain, Cond.code yX1_gain cX1_gain 2 none, Cond.methodLink RX1 37 Lib.Math.max.name, Cond.methodLink RX0 123 yX1_keep, Cond.instanceMethod yX1_keep, Cond.selects RX1 yX1_keep yX1_keep, Cond.code yX1_keep cX1_keep 5 none, Cond.methodLink RX9 43 yX3_settle, Cond.instanceMethod yX3_settle, Cond.selects RX3 yX3_settle yX3_settle, Cond.code yX3_settle cX3_settle 2 (some .int), Cond.static yX9_isError, Cond.code yX9_isError cX9_isError 1 (some .boolean), Cond.constant RX9 145 (-100001), Cond.constant RX9 225 (-100002), Cond.constant RX9 226 (-100003), Cond.methodLink RX3 33 yX3_recordSpare]
def wsX9_weigh_r8 : List Cond := [Cond.instanceMethod yX3_recordSpare, Cond.selects RX3 yX3_recordSpare yX3_recordSpare, Cond.code yX3_recordSpare cX3_recordSpare 2 none, Cond.fieldLink RX3 36 "TicketScales$History" "size" "I", Cond.fieldLink RX3 11 "TicketScales$History" "earlier" "[LTicketScales$State;", Cond.methodLink RX3 40 yX3_dropOldest, Cond.instanceMethod yX3_dropOldest, Cond.selects RX3 yX3_dropOldest yX3_dropOldest, Cond.code yX3_dropOldest cX3_dropOldest 3 none]
def wsX9_weigh : List Cond := .code yX9_weigh cX9_weigh 5 (some .int) :: ((wsX9_weigh_r1 ++ (wsX9_weigh_r2 ++ (wsX9_weigh_r3 ++ (wsX9_weigh_r4 ++ (wsX9_weigh_r5 ++ (wsX9_weigh_r6 ++ (wsX9_weigh_r7 ++ wsX9_weigh_r8))))))) ++ wsX90 ++ wsX30 ++ wsX80 ++ wsX00 ++ wsX40 ++ wsX10 ++ wsX50 ++ wsX70)
def wsX9_claim_r1 : List Cond := [Cond.fieldLink RX9 10 "TicketScales" "history" "LTicketScales$History;", Cond.methodLink RX9 30 yX3_prepare, Cond.instanceMethod yX3_prepare, Cond.selects RX3 yX3_prepare yX3_prepare, Cond.initialized RX3, Cond.code yX3_prepare cX3_prepare 1 none, Cond.fieldLink RX3 22 "TicketScales$History" "spare" "LTicketScales$State;", Cond.fieldLink RX3 18 "TicketScales$History" "now" "LTicketScales$State;", Cond.methodLink RX3 25 yX8_copyFrom, Cond.instanceMethod yX8_copyFrom, Cond.selects RX8 yX8_copyFrom yX8_copyFrom, Cond.initialized RX8, Cond.code yX8_copyFrom cX8_copyFrom 3 none, Cond.fieldLink RX8 12 "TicketScales$State" "counter" "LTicketScales$Counter;", Cond.fieldLink RX8 22 "TicketScales$State" "filled" "[Z", Cond.fieldLink RX8 18 "TicketScales$State" "slots" "[LTicketScales$Counter;", Cond.methodLink RX8 26 yX0_copyFrom, Cond.instanceMethod yX0_copyFrom, Cond.selects RX0 yX0_copyFrom yX0_copyFrom, Cond.initialized RX0, Cond.code yX0_copyFrom cX0_copyFrom 3 none, Cond.fieldLink RX0 11 "TicketScales$Counter" "kinds" "[LTicketScales$Kind;", Cond.fieldLink RX0 26 "TicketScales$Counter" "customers" "[LTicketScales$Customer;", Cond.fieldLink RX0 32 "TicketScales$Counter" "prizes" "[LTicketScales$Prize;"]
def wsX9_claim_r2 : List Cond := [Cond.fieldLink RX0 20 "TicketScales$Counter" "scale" "LTicketScales$Scale;", Cond.fieldLink RX0 56 "TicketScales$Counter" "customerCount" "I", Cond.fieldLink RX0 59 "TicketScales$Counter" "prizeCount" "I", Cond.fieldLink RX0 62 "TicketScales$Counter" "rule" "I", Cond.fieldLink RX0 36 "TicketScales$Counter" "fee" "I", Cond.fieldLink RX0 65 "TicketScales$Counter" "gift" "I", Cond.methodLink RX0 43 yX4_copyFrom, Cond.instanceMethod yX4_copyFrom, Cond.selects RX4 yX4_copyFrom yX4_copyFrom, Cond.initialized RX4, Cond.code yX4_copyFrom cX4_copyFrom 2 none, Cond.fieldLink RX4 7 "TicketScales$Kind" "weight" "I", Cond.fieldLink RX4 13 "TicketScales$Kind" "spread" "I", Cond.methodLink RX0 47 yX1_copyFrom, Cond.instanceMethod yX1_copyFrom, Cond.selects RX1 yX1_copyFrom yX1_copyFrom, Cond.initialized RX1, Cond.code yX1_copyFrom cX1_copyFrom 2 none, Cond.fieldLink RX1 9 "TicketScales$Customer" "points" "I", Cond.fieldLink RX1 15 "TicketScales$Customer" "kept" "Z", Cond.fieldLink RX1 19 "TicketScales$Customer" "kind" "I", Cond.fieldLink RX1 22 "TicketScales$Customer" "count" "I", Cond.fieldLink RX1 25 "TicketScales$Customer" "reading" "I", Cond.fieldLink RX1 28 "TicketScales$Customer" "guess" "I"]
def wsX9_claim_r3 : List Cond := [Cond.methodLink RX0 50 yX5_copyFrom, Cond.instanceMethod yX5_copyFrom, Cond.selects RX5 yX5_copyFrom yX5_copyFrom, Cond.initialized RX5, Cond.code yX5_copyFrom cX5_copyFrom 2 none, Cond.fieldLink RX5 9 "TicketScales$Prize" "price" "I", Cond.fieldLink RX5 15 "TicketScales$Prize" "weight" "I", Cond.fieldLink RX5 18 "TicketScales$Prize" "stock" "I", Cond.fieldLink RX5 21 "TicketScales$Prize" "mark" "I", Cond.fieldLink RX5 24 "TicketScales$Prize" "box" "I", Cond.fieldLink RX5 27 "TicketScales$Prize" "sold" "I", Cond.fieldLink RX5 30 "TicketScales$Prize" "boxes" "I", Cond.methodLink RX0 53 yX7_copyFrom, Cond.instanceMethod yX7_copyFrom, Cond.selects RX7 yX7_copyFrom yX7_copyFrom, Cond.initialized RX7, Cond.code yX7_copyFrom cX7_copyFrom 2 none, Cond.fieldLink RX7 9 "TicketScales$Scale" "step" "I", Cond.fieldLink RX7 15 "TicketScales$Scale" "limit" "I", Cond.fieldLink RX7 18 "TicketScales$Scale" "bias" "I", Cond.methodLink RX9 33 yX9_counter, Cond.instanceMethod yX9_counter, Cond.selects RX9 yX9_counter yX9_counter, Cond.initialized RX9]
def wsX9_claim_r4 : List Cond := [Cond.code yX9_counter cX9_counter 1 (some (.object "TicketScales$Counter")), Cond.fieldLink RX9 86 "TicketScales$History" "now" "LTicketScales$State;", Cond.fieldLink RX9 222 "TicketScales$State" "counter" "LTicketScales$Counter;", Cond.methodLink RX9 70 yX0_settleClaim, Cond.instanceMethod yX0_settleClaim, Cond.selects RX0 yX0_settleClaim yX0_settleClaim, Cond.code yX0_settleClaim cX0_settleClaim 5 (some .int), Cond.constant RX0 76 (-100001), Cond.fieldLink RX0 127 "TicketScales$Customer" "kept" "Z", Cond.fieldLink RX0 131 "TicketScales$Customer" "guess" "I", Cond.constant RX0 134 (-100002), Cond.fieldLink RX0 135 "TicketScales$Customer" "kind" "I", Cond.fieldLink RX0 138 "TicketScales$Customer" "reading" "I", Cond.fieldLink RX0 145 "TicketScales$Customer" "count" "I", Cond.methodLink RX0 106 yX0_customerAt, Cond.instanceMethod yX0_customerAt, Cond.selects RX0 yX0_customerAt yX0_customerAt, Cond.code yX0_customerAt cX0_customerAt 3 (some (.object "TicketScales$Customer")), Cond.static yX9_within, Cond.code yX9_within cX9_within 3 (some .boolean), Cond.methodLink RX0 72 yX0_kindAt, Cond.instanceMethod yX0_kindAt, Cond.selects RX0 yX0_kindAt yX0_kindAt, Cond.code yX0_kindAt cX0_kindAt 2 (some (.object "TicketScales$Kind"))]
def wsX9_claim_r5 : List Cond := [Cond.methodLink RX0 141 yX0_allows, Cond.instanceMethod yX0_allows, Cond.selects RX0 yX0_allows yX0_allows, Cond.code yX0_allows cX0_allows 4 (some .boolean), Cond.methodLink RX0 152 yX7_leastCount, Cond.instanceMethod yX7_leastCount, Cond.selects RX7 yX7_leastCount yX7_leastCount, Cond.code yX7_leastCount cX7_leastCount 5 (some .int), Cond.methodLink RX7 35 Lib.Math.max.name, Cond.static Lib.Math.max.name, Cond.initialized "java/lang/Math", Cond.code Lib.Math.max.name Lib.Math.max.code 2 (some .int), Cond.methodLink RX7 21 yX4_heaviest, Cond.instanceMethod yX4_heaviest, Cond.selects RX4 yX4_heaviest yX4_heaviest, Cond.code yX4_heaviest cX4_heaviest 1 (some .int), Cond.methodLink RX7 27 yX7_loadFrom, Cond.instanceMethod yX7_loadFrom, Cond.selects RX7 yX7_loadFrom yX7_loadFrom, Cond.code yX7_loadFrom cX7_loadFrom 2 (some .int), Cond.static yX9_quotient, Cond.code yX9_quotient cX9_quotient 2 (some .int), Cond.methodLink RX9 227 yJ9_floorDiv_7cf53, Cond.static yJ9_floorDiv_7cf53]
def wsX9_claim_r6 : List Cond := [Cond.initialized RJ9, Cond.code yJ9_floorDiv_7cf53 cJ9_floorDiv_7cf53 3 (some .int), Cond.methodLink RX0 156 yX7_greatestCount, Cond.instanceMethod yX7_greatestCount, Cond.selects RX7 yX7_greatestCount yX7_greatestCount, Cond.code yX7_greatestCount cX7_greatestCount 3 (some .int), Cond.methodLink RX7 40 yX7_shows, Cond.instanceMethod yX7_shows, Cond.selects RX7 yX7_shows yX7_shows, Cond.code yX7_shows cX7_shows 2 (some .boolean), Cond.methodLink RX7 44 yX7_loadTo, Cond.instanceMethod yX7_loadTo, Cond.selects RX7 yX7_loadTo yX7_loadTo, Cond.code yX7_loadTo cX7_loadTo 2 (some .int), Cond.methodLink RX7 47 yX4_lightest, Cond.instanceMethod yX4_lightest, Cond.selects RX4 yX4_lightest yX4_lightest, Cond.code yX4_lightest cX4_lightest 1 (some .int), Cond.methodLink RX0 120 yX1_gain, Cond.instanceMethod yX1_gain, Cond.selects RX1 yX1_gain yX1_gain, Cond.code yX1_gain cX1_gain 2 none, Cond.methodLink RX1 37 Lib.Math.max.name, Cond.methodLink RX0 148 yX1_isNearer]
def wsX9_claim_r7 : List Cond := [Cond.instanceMethod yX1_isNearer, Cond.selects RX1 yX1_isNearer yX1_isNearer, Cond.code yX1_isNearer cX1_isNearer 2 (some .boolean), Cond.methodLink RX1 31 Lib.Math.abs.name, Cond.static Lib.Math.abs.name, Cond.code Lib.Math.abs.name Lib.Math.abs.code 1 (some .int), Cond.methodLink RX9 43 yX3_settle, Cond.instanceMethod yX3_settle, Cond.selects RX3 yX3_settle yX3_settle, Cond.code yX3_settle cX3_settle 2 (some .int), Cond.static yX9_isError, Cond.code yX9_isError cX9_isError 1 (some .boolean), Cond.constant RX9 145 (-100001), Cond.constant RX9 225 (-100002), Cond.constant RX9 226 (-100003), Cond.methodLink RX3 33 yX3_recordSpare, Cond.instanceMethod yX3_recordSpare, Cond.selects RX3 yX3_recordSpare yX3_recordSpare, Cond.code yX3_recordSpare cX3_recordSpare 2 none, Cond.fieldLink RX3 36 "TicketScales$History" "size" "I", Cond.fieldLink RX3 11 "TicketScales$History" "earlier" "[LTicketScales$State;", Cond.methodLink RX3 40 yX3_dropOldest, Cond.instanceMethod yX3_dropOldest, Cond.selects RX3 yX3_dropOldest yX3_dropOldest]
def wsX9_claim_r8 : List Cond := [Cond.code yX3_dropOldest cX3_dropOldest 3 none]
def wsX9_claim : List Cond := .code yX9_claim cX9_claim 3 (some .int) :: ((wsX9_claim_r1 ++ (wsX9_claim_r2 ++ (wsX9_claim_r3 ++ (wsX9_claim_r4 ++ (wsX9_claim_r5 ++ (wsX9_claim_r6 ++ (wsX9_claim_r7 ++ wsX9_claim_r8))))))) ++ wsX90 ++ wsX30 ++ wsX80 ++ wsX00 ++ wsX40 ++ wsX10 ++ wsX50 ++ wsX70)
def wsX9_addPrize_r1 : List Cond := [Cond.fieldLink RX9 10 "TicketScales" "history" "LTicketScales$History;", Cond.methodLink RX9 30 yX3_prepare, Cond.instanceMethod yX3_prepare, Cond.selects RX3 yX3_prepare yX3_prepare, Cond.initialized RX3, Cond.code yX3_prepare cX3_prepare 1 none, Cond.fieldLink RX3 22 "TicketScales$History" "spare" "LTicketScales$State;", Cond.fieldLink RX3 18 "TicketScales$History" "now" "LTicketScales$State;", Cond.methodLink RX3 25 yX8_copyFrom, Cond.instanceMethod yX8_copyFrom, Cond.selects RX8 yX8_copyFrom yX8_copyFrom, Cond.initialized RX8, Cond.code yX8_copyFrom cX8_copyFrom 3 none, Cond.fieldLink RX8 12 "TicketScales$State" "counter" "LTicketScales$Counter;", Cond.fieldLink RX8 22 "TicketScales$State" "filled" "[Z", Cond.fieldLink RX8 18 "TicketScales$State" "slots" "[LTicketScales$Counter;", Cond.methodLink RX8 26 yX0_copyFrom, Cond.instanceMethod yX0_copyFrom, Cond.selects RX0 yX0_copyFrom yX0_copyFrom, Cond.initialized RX0, Cond.code yX0_copyFrom cX0_copyFrom 3 none, Cond.fieldLink RX0 11 "TicketScales$Counter" "kinds" "[LTicketScales$Kind;", Cond.fieldLink RX0 26 "TicketScales$Counter" "customers" "[LTicketScales$Customer;", Cond.fieldLink RX0 32 "TicketScales$Counter" "prizes" "[LTicketScales$Prize;"]
def wsX9_addPrize_r2 : List Cond := [Cond.fieldLink RX0 20 "TicketScales$Counter" "scale" "LTicketScales$Scale;", Cond.fieldLink RX0 56 "TicketScales$Counter" "customerCount" "I", Cond.fieldLink RX0 59 "TicketScales$Counter" "prizeCount" "I", Cond.fieldLink RX0 62 "TicketScales$Counter" "rule" "I", Cond.fieldLink RX0 36 "TicketScales$Counter" "fee" "I", Cond.fieldLink RX0 65 "TicketScales$Counter" "gift" "I", Cond.methodLink RX0 43 yX4_copyFrom, Cond.instanceMethod yX4_copyFrom, Cond.selects RX4 yX4_copyFrom yX4_copyFrom, Cond.initialized RX4, Cond.code yX4_copyFrom cX4_copyFrom 2 none, Cond.fieldLink RX4 7 "TicketScales$Kind" "weight" "I", Cond.fieldLink RX4 13 "TicketScales$Kind" "spread" "I", Cond.methodLink RX0 47 yX1_copyFrom, Cond.instanceMethod yX1_copyFrom, Cond.selects RX1 yX1_copyFrom yX1_copyFrom, Cond.initialized RX1, Cond.code yX1_copyFrom cX1_copyFrom 2 none, Cond.fieldLink RX1 9 "TicketScales$Customer" "points" "I", Cond.fieldLink RX1 15 "TicketScales$Customer" "kept" "Z", Cond.fieldLink RX1 19 "TicketScales$Customer" "kind" "I", Cond.fieldLink RX1 22 "TicketScales$Customer" "count" "I", Cond.fieldLink RX1 25 "TicketScales$Customer" "reading" "I", Cond.fieldLink RX1 28 "TicketScales$Customer" "guess" "I"]
def wsX9_addPrize_r3 : List Cond := [Cond.methodLink RX0 50 yX5_copyFrom, Cond.instanceMethod yX5_copyFrom, Cond.selects RX5 yX5_copyFrom yX5_copyFrom, Cond.initialized RX5, Cond.code yX5_copyFrom cX5_copyFrom 2 none, Cond.fieldLink RX5 9 "TicketScales$Prize" "price" "I", Cond.fieldLink RX5 15 "TicketScales$Prize" "weight" "I", Cond.fieldLink RX5 18 "TicketScales$Prize" "stock" "I", Cond.fieldLink RX5 21 "TicketScales$Prize" "mark" "I", Cond.fieldLink RX5 24 "TicketScales$Prize" "box" "I", Cond.fieldLink RX5 27 "TicketScales$Prize" "sold" "I", Cond.fieldLink RX5 30 "TicketScales$Prize" "boxes" "I", Cond.methodLink RX0 53 yX7_copyFrom, Cond.instanceMethod yX7_copyFrom, Cond.selects RX7 yX7_copyFrom yX7_copyFrom, Cond.initialized RX7, Cond.code yX7_copyFrom cX7_copyFrom 2 none, Cond.fieldLink RX7 9 "TicketScales$Scale" "step" "I", Cond.fieldLink RX7 15 "TicketScales$Scale" "limit" "I", Cond.fieldLink RX7 18 "TicketScales$Scale" "bias" "I", Cond.methodLink RX9 33 yX9_counter, Cond.instanceMethod yX9_counter, Cond.selects RX9 yX9_counter yX9_counter, Cond.initialized RX9]
def wsX9_addPrize_r4 : List Cond := [Cond.code yX9_counter cX9_counter 1 (some (.object "TicketScales$Counter")), Cond.fieldLink RX9 86 "TicketScales$History" "now" "LTicketScales$State;", Cond.fieldLink RX9 222 "TicketScales$State" "counter" "LTicketScales$Counter;", Cond.methodLink RX9 73 yX0_placePrize, Cond.instanceMethod yX0_placePrize, Cond.selects RX0 yX0_placePrize yX0_placePrize, Cond.code yX0_placePrize cX0_placePrize 6 (some .int), Cond.constant RX0 76 (-100001), Cond.constant RX0 159 (100000), Cond.constant RX0 101 (-100003), Cond.static yX9_within, Cond.code yX9_within cX9_within 3 (some .boolean), Cond.methodLink RX0 160 yX5_begin, Cond.instanceMethod yX5_begin, Cond.selects RX5 yX5_begin yX5_begin, Cond.code yX5_begin cX5_begin 6 none, Cond.methodLink RX9 43 yX3_settle, Cond.instanceMethod yX3_settle, Cond.selects RX3 yX3_settle yX3_settle, Cond.code yX3_settle cX3_settle 2 (some .int), Cond.static yX9_isError, Cond.code yX9_isError cX9_isError 1 (some .boolean), Cond.constant RX9 145 (-100001), Cond.constant RX9 225 (-100002)]
def wsX9_addPrize_r5 : List Cond := [Cond.constant RX9 226 (-100003), Cond.methodLink RX3 33 yX3_recordSpare, Cond.instanceMethod yX3_recordSpare, Cond.selects RX3 yX3_recordSpare yX3_recordSpare, Cond.code yX3_recordSpare cX3_recordSpare 2 none, Cond.fieldLink RX3 36 "TicketScales$History" "size" "I", Cond.fieldLink RX3 11 "TicketScales$History" "earlier" "[LTicketScales$State;", Cond.methodLink RX3 40 yX3_dropOldest, Cond.instanceMethod yX3_dropOldest, Cond.selects RX3 yX3_dropOldest yX3_dropOldest, Cond.code yX3_dropOldest cX3_dropOldest 3 none]
def wsX9_addPrize : List Cond := .code yX9_addPrize cX9_addPrize 6 (some .int) :: ((wsX9_addPrize_r1 ++ (wsX9_addPrize_r2 ++ (wsX9_addPrize_r3 ++ (wsX9_addPrize_r4 ++ wsX9_addPrize_r5)))) ++ wsX90 ++ wsX30 ++ wsX80 ++ wsX00 ++ wsX40 ++ wsX10 ++ wsX50 ++ wsX70)
def wsX9_buy_r1 : List Cond := [Cond.fieldLink RX9 10 "TicketScales" "history" "LTicketScales$History;", Cond.methodLink RX9 30 yX3_prepare, Cond.instanceMethod yX3_prepare, Cond.selects RX3 yX3_prepare yX3_prepare, Cond.initialized RX3, Cond.code yX3_prepare cX3_prepare 1 none, Cond.fieldLink RX3 22 "TicketScales$History" "spare" "LTicketScales$State;", Cond.fieldLink RX3 18 "TicketScales$History" "now" "LTicketScales$State;", Cond.methodLink RX3 25 yX8_copyFrom, Cond.instanceMethod yX8_copyFrom, Cond.selects RX8 yX8_copyFrom yX8_copyFrom, Cond.initialized RX8, Cond.code yX8_copyFrom cX8_copyFrom 3 none, Cond.fieldLink RX8 12 "TicketScales$State" "counter" "LTicketScales$Counter;", Cond.fieldLink RX8 22 "TicketScales$State" "filled" "[Z", Cond.fieldLink RX8 18 "TicketScales$State" "slots" "[LTicketScales$Counter;", Cond.methodLink RX8 26 yX0_copyFrom, Cond.instanceMethod yX0_copyFrom, Cond.selects RX0 yX0_copyFrom yX0_copyFrom, Cond.initialized RX0, Cond.code yX0_copyFrom cX0_copyFrom 3 none, Cond.fieldLink RX0 11 "TicketScales$Counter" "kinds" "[LTicketScales$Kind;", Cond.fieldLink RX0 26 "TicketScales$Counter" "customers" "[LTicketScales$Customer;", Cond.fieldLink RX0 32 "TicketScales$Counter" "prizes" "[LTicketScales$Prize;"]
def wsX9_buy_r2 : List Cond := [Cond.fieldLink RX0 20 "TicketScales$Counter" "scale" "LTicketScales$Scale;", Cond.fieldLink RX0 56 "TicketScales$Counter" "customerCount" "I", Cond.fieldLink RX0 59 "TicketScales$Counter" "prizeCount" "I", Cond.fieldLink RX0 62 "TicketScales$Counter" "rule" "I", Cond.fieldLink RX0 36 "TicketScales$Counter" "fee" "I", Cond.fieldLink RX0 65 "TicketScales$Counter" "gift" "I", Cond.methodLink RX0 43 yX4_copyFrom, Cond.instanceMethod yX4_copyFrom, Cond.selects RX4 yX4_copyFrom yX4_copyFrom, Cond.initialized RX4, Cond.code yX4_copyFrom cX4_copyFrom 2 none, Cond.fieldLink RX4 7 "TicketScales$Kind" "weight" "I", Cond.fieldLink RX4 13 "TicketScales$Kind" "spread" "I", Cond.methodLink RX0 47 yX1_copyFrom, Cond.instanceMethod yX1_copyFrom, Cond.selects RX1 yX1_copyFrom yX1_copyFrom, Cond.initialized RX1, Cond.code yX1_copyFrom cX1_copyFrom 2 none, Cond.fieldLink RX1 9 "TicketScales$Customer" "points" "I", Cond.fieldLink RX1 15 "TicketScales$Customer" "kept" "Z", Cond.fieldLink RX1 19 "TicketScales$Customer" "kind" "I", Cond.fieldLink RX1 22 "TicketScales$Customer" "count" "I", Cond.fieldLink RX1 25 "TicketScales$Customer" "reading" "I", Cond.fieldLink RX1 28 "TicketScales$Customer" "guess" "I"]
def wsX9_buy_r3 : List Cond := [Cond.methodLink RX0 50 yX5_copyFrom, Cond.instanceMethod yX5_copyFrom, Cond.selects RX5 yX5_copyFrom yX5_copyFrom, Cond.initialized RX5, Cond.code yX5_copyFrom cX5_copyFrom 2 none, Cond.fieldLink RX5 9 "TicketScales$Prize" "price" "I", Cond.fieldLink RX5 15 "TicketScales$Prize" "weight" "I", Cond.fieldLink RX5 18 "TicketScales$Prize" "stock" "I", Cond.fieldLink RX5 21 "TicketScales$Prize" "mark" "I", Cond.fieldLink RX5 24 "TicketScales$Prize" "box" "I", Cond.fieldLink RX5 27 "TicketScales$Prize" "sold" "I", Cond.fieldLink RX5 30 "TicketScales$Prize" "boxes" "I", Cond.methodLink RX0 53 yX7_copyFrom, Cond.instanceMethod yX7_copyFrom, Cond.selects RX7 yX7_copyFrom yX7_copyFrom, Cond.initialized RX7, Cond.code yX7_copyFrom cX7_copyFrom 2 none, Cond.fieldLink RX7 9 "TicketScales$Scale" "step" "I", Cond.fieldLink RX7 15 "TicketScales$Scale" "limit" "I", Cond.fieldLink RX7 18 "TicketScales$Scale" "bias" "I", Cond.methodLink RX9 33 yX9_counter, Cond.instanceMethod yX9_counter, Cond.selects RX9 yX9_counter yX9_counter, Cond.initialized RX9]
def wsX9_buy_r4 : List Cond := [Cond.code yX9_counter cX9_counter 1 (some (.object "TicketScales$Counter")), Cond.fieldLink RX9 86 "TicketScales$History" "now" "LTicketScales$State;", Cond.fieldLink RX9 222 "TicketScales$State" "counter" "LTicketScales$Counter;", Cond.methodLink RX9 83 yX0_sellPrize, Cond.instanceMethod yX0_sellPrize, Cond.selects RX0 yX0_sellPrize yX0_sellPrize, Cond.code yX0_sellPrize cX0_sellPrize 6 (some .int), Cond.constant RX0 76 (-100001), Cond.fieldLink RX0 110 "TicketScales$Customer" "points" "I", Cond.fieldLink RX0 170 "TicketScales$Prize" "price" "I", Cond.constant RX0 134 (-100002), Cond.fieldLink RX0 167 "TicketScales$Prize" "stock" "I", Cond.constant RX0 101 (-100003), Cond.methodLink RX0 106 yX0_customerAt, Cond.instanceMethod yX0_customerAt, Cond.selects RX0 yX0_customerAt yX0_customerAt, Cond.code yX0_customerAt cX0_customerAt 3 (some (.object "TicketScales$Customer")), Cond.static yX9_within, Cond.code yX9_within cX9_within 3 (some .boolean), Cond.methodLink RX0 163 yX0_prizeAt, Cond.instanceMethod yX0_prizeAt, Cond.selects RX0 yX0_prizeAt yX0_prizeAt, Cond.code yX0_prizeAt cX0_prizeAt 3 (some (.object "TicketScales$Prize")), Cond.methodLink RX0 173 yX5_sell]
def wsX9_buy_r5 : List Cond := [Cond.instanceMethod yX5_sell, Cond.selects RX5 yX5_sell yX5_sell, Cond.code yX5_sell cX5_sell 3 none, Cond.methodLink RX5 37 Lib.Math.min.name, Cond.static Lib.Math.min.name, Cond.initialized "java/lang/Math", Cond.code Lib.Math.min.name Lib.Math.min.code 2 (some .int), Cond.static yX9_quotient, Cond.code yX9_quotient cX9_quotient 2 (some .int), Cond.methodLink RX9 227 yJ9_floorDiv_7cf53, Cond.static yJ9_floorDiv_7cf53, Cond.initialized RJ9, Cond.code yJ9_floorDiv_7cf53 cJ9_floorDiv_7cf53 3 (some .int), Cond.methodLink RX9 43 yX3_settle, Cond.instanceMethod yX3_settle, Cond.selects RX3 yX3_settle yX3_settle, Cond.code yX3_settle cX3_settle 2 (some .int), Cond.static yX9_isError, Cond.code yX9_isError cX9_isError 1 (some .boolean), Cond.constant RX9 145 (-100001), Cond.constant RX9 225 (-100002), Cond.constant RX9 226 (-100003), Cond.methodLink RX3 33 yX3_recordSpare, Cond.instanceMethod yX3_recordSpare]
def wsX9_buy_r6 : List Cond := [Cond.selects RX3 yX3_recordSpare yX3_recordSpare, Cond.code yX3_recordSpare cX3_recordSpare 2 none, Cond.fieldLink RX3 36 "TicketScales$History" "size" "I", Cond.fieldLink RX3 11 "TicketScales$History" "earlier" "[LTicketScales$State;", Cond.methodLink RX3 40 yX3_dropOldest, Cond.instanceMethod yX3_dropOldest, Cond.selects RX3 yX3_dropOldest yX3_dropOldest, Cond.code yX3_dropOldest cX3_dropOldest 3 none]
def wsX9_buy : List Cond := .code yX9_buy cX9_buy 4 (some .int) :: ((wsX9_buy_r1 ++ (wsX9_buy_r2 ++ (wsX9_buy_r3 ++ (wsX9_buy_r4 ++ (wsX9_buy_r5 ++ wsX9_buy_r6))))) ++ wsX90 ++ wsX30 ++ wsX80 ++ wsX00 ++ wsX40 ++ wsX10 ++ wsX50 ++ wsX70)
def wsX9_undo : List Cond := .code yX9_undo cX9_undo 1 (some .int) :: ([.fieldLink RX9 10 "TicketScales" "history" "LTicketScales$History;", .methodLink RX9 98 yX3_stepBack, .instanceMethod yX3_stepBack, .selects RX3 yX3_stepBack yX3_stepBack, .initialized RX3, .code yX3_stepBack cX3_stepBack 3 (some .int), .fieldLink RX3 36 "TicketScales$History" "size" "I", .constant RX3 47 (-100002), .fieldLink RX3 18 "TicketScales$History" "now" "LTicketScales$State;", .fieldLink RX3 11 "TicketScales$History" "earlier" "[LTicketScales$State;", .static yX9_within, .initialized RX9, .code yX9_within cX9_within 3 (some .boolean)] ++ wsX90 ++ wsX30)
def wsX9_count_r1 : List Cond := [Cond.fieldLink RX9 10 "TicketScales" "history" "LTicketScales$History;", Cond.fieldLink RX9 86 "TicketScales$History" "now" "LTicketScales$State;", Cond.fieldLink RX9 127 "TicketScales$History" "size" "I", Cond.fieldLink RX9 19 "TicketScales" "program" "LTicketScales$Program;", Cond.fieldLink RX9 131 "TicketScales$Program" "length" "I", Cond.methodLink RX9 124 yX8_slotsInUse, Cond.instanceMethod yX8_slotsInUse, Cond.selects RX8 yX8_slotsInUse yX8_slotsInUse, Cond.initialized RX8, Cond.code yX8_slotsInUse cX8_slotsInUse 6 (some .int), Cond.fieldLink RX8 22 "TicketScales$State" "filled" "[Z", Cond.methodLink RX9 33 yX9_counter, Cond.instanceMethod yX9_counter, Cond.selects RX9 yX9_counter yX9_counter, Cond.initialized RX9, Cond.code yX9_counter cX9_counter 1 (some (.object "TicketScales$Counter")), Cond.fieldLink RX9 222 "TicketScales$State" "counter" "LTicketScales$Counter;", Cond.methodLink RX9 134 yX0_number, Cond.instanceMethod yX0_number, Cond.selects RX0 yX0_number yX0_number, Cond.initialized RX0, Cond.code yX0_number cX0_number 2 (some .int), Cond.fieldLink RX0 20 "TicketScales$Counter" "scale" "LTicketScales$Scale;", Cond.fieldLink RX0 83 "TicketScales$Scale" "step" "I"]
def wsX9_count_r2 : List Cond := [Cond.fieldLink RX0 86 "TicketScales$Scale" "limit" "I", Cond.fieldLink RX0 89 "TicketScales$Scale" "bias" "I", Cond.fieldLink RX0 62 "TicketScales$Counter" "rule" "I", Cond.fieldLink RX0 36 "TicketScales$Counter" "fee" "I", Cond.fieldLink RX0 56 "TicketScales$Counter" "customerCount" "I", Cond.fieldLink RX0 59 "TicketScales$Counter" "prizeCount" "I", Cond.fieldLink RX0 65 "TicketScales$Counter" "gift" "I", Cond.constant RX0 76 (-100001), Cond.methodLink RX0 176 yX0_keptWeighings, Cond.instanceMethod yX0_keptWeighings, Cond.selects RX0 yX0_keptWeighings yX0_keptWeighings, Cond.code yX0_keptWeighings cX0_keptWeighings 6 (some .int), Cond.fieldLink RX0 26 "TicketScales$Counter" "customers" "[LTicketScales$Customer;", Cond.fieldLink RX0 127 "TicketScales$Customer" "kept" "Z", Cond.methodLink RX0 180 yX0_allPoints, Cond.instanceMethod yX0_allPoints, Cond.selects RX0 yX0_allPoints yX0_allPoints, Cond.code yX0_allPoints cX0_allPoints 6 (some .int), Cond.fieldLink RX0 110 "TicketScales$Customer" "points" "I", Cond.methodLink RX0 183 yX0_allStocks, Cond.instanceMethod yX0_allStocks, Cond.selects RX0 yX0_allStocks yX0_allStocks, Cond.code yX0_allStocks cX0_allStocks 6 (some .int), Cond.fieldLink RX0 32 "TicketScales$Counter" "prizes" "[LTicketScales$Prize;"]
def wsX9_count_r3 : List Cond := [Cond.fieldLink RX0 167 "TicketScales$Prize" "stock" "I"]
def wsX9_count : List Cond := .code yX9_count cX9_count 2 (some .int) :: ((wsX9_count_r1 ++ (wsX9_count_r2 ++ wsX9_count_r3)) ++ wsX90 ++ wsX30 ++ wsX60 ++ wsX80 ++ wsX00 ++ wsX70 ++ wsX10 ++ wsX50)
end
section
def wsX9_kind : List Cond := .code yX9_kind cX9_kind 4 (some .int) :: ([.constant RX9 145 (-100001), .fieldLink RX9 146 "TicketScales$Kind" "weight" "I", .fieldLink RX9 151 "TicketScales$Kind" "spread" "I", .methodLink RX9 33 yX9_counter, .instanceMethod yX9_counter, .selects RX9 yX9_counter yX9_counter, .initialized RX9, .code yX9_counter cX9_counter 1 (some (.object "TicketScales$Counter")), .fieldLink RX9 10 "TicketScales" "history" "LTicketScales$History;", .fieldLink RX9 86 "TicketScales$History" "now" "LTicketScales$State;", .fieldLink RX9 222 "TicketScales$State" "counter" "LTicketScales$Counter;", .methodLink RX9 137 yX0_kindAt, .instanceMethod yX0_kindAt, .selects RX0 yX0_kindAt yX0_kindAt, .initialized RX0, .code yX0_kindAt cX0_kindAt 2 (some (.object "TicketScales$Kind")), .fieldLink RX0 11 "TicketScales$Counter" "kinds" "[LTicketScales$Kind;", .static yX9_within, .code yX9_within cX9_within 3 (some .boolean), .methodLink RX9 141 yX9_within] ++ wsX40 ++ wsX90 ++ wsX30 ++ wsX80 ++ wsX00)
def wsX9_customer_r1 : List Cond := [Cond.constant RX9 145 (-100001), Cond.methodLink RX9 33 yX9_counter, Cond.instanceMethod yX9_counter, Cond.selects RX9 yX9_counter yX9_counter, Cond.initialized RX9, Cond.code yX9_counter cX9_counter 1 (some (.object "TicketScales$Counter")), Cond.fieldLink RX9 10 "TicketScales" "history" "LTicketScales$History;", Cond.fieldLink RX9 86 "TicketScales$History" "now" "LTicketScales$State;", Cond.fieldLink RX9 222 "TicketScales$State" "counter" "LTicketScales$Counter;", Cond.methodLink RX9 154 yX0_customerAt, Cond.instanceMethod yX0_customerAt, Cond.selects RX0 yX0_customerAt yX0_customerAt, Cond.initialized RX0, Cond.code yX0_customerAt cX0_customerAt 3 (some (.object "TicketScales$Customer")), Cond.fieldLink RX0 56 "TicketScales$Counter" "customerCount" "I", Cond.fieldLink RX0 26 "TicketScales$Counter" "customers" "[LTicketScales$Customer;", Cond.static yX9_within, Cond.code yX9_within cX9_within 3 (some .boolean), Cond.methodLink RX9 158 yX1_part, Cond.instanceMethod yX1_part, Cond.selects RX1 yX1_part yX1_part, Cond.initialized RX1, Cond.code yX1_part cX1_part 2 (some .int), Cond.constant RX1 45 (-100001)]
def wsX9_customer_r2 : List Cond := [Cond.fieldLink RX1 9 "TicketScales$Customer" "points" "I", Cond.fieldLink RX1 15 "TicketScales$Customer" "kept" "Z", Cond.constant RX1 46 (-100009), Cond.fieldLink RX1 19 "TicketScales$Customer" "kind" "I", Cond.fieldLink RX1 22 "TicketScales$Customer" "count" "I", Cond.fieldLink RX1 25 "TicketScales$Customer" "reading" "I", Cond.fieldLink RX1 28 "TicketScales$Customer" "guess" "I"]
def wsX9_customer : List Cond := .code yX9_customer cX9_customer 4 (some .int) :: ((wsX9_customer_r1 ++ wsX9_customer_r2) ++ wsX90 ++ wsX30 ++ wsX80 ++ wsX00 ++ wsX10)
def wsX9_prize_r1 : List Cond := [Cond.constant RX9 145 (-100001), Cond.methodLink RX9 33 yX9_counter, Cond.instanceMethod yX9_counter, Cond.selects RX9 yX9_counter yX9_counter, Cond.initialized RX9, Cond.code yX9_counter cX9_counter 1 (some (.object "TicketScales$Counter")), Cond.fieldLink RX9 10 "TicketScales" "history" "LTicketScales$History;", Cond.fieldLink RX9 86 "TicketScales$History" "now" "LTicketScales$State;", Cond.fieldLink RX9 222 "TicketScales$State" "counter" "LTicketScales$Counter;", Cond.methodLink RX9 161 yX0_prizeAt, Cond.instanceMethod yX0_prizeAt, Cond.selects RX0 yX0_prizeAt yX0_prizeAt, Cond.initialized RX0, Cond.code yX0_prizeAt cX0_prizeAt 3 (some (.object "TicketScales$Prize")), Cond.fieldLink RX0 59 "TicketScales$Counter" "prizeCount" "I", Cond.fieldLink RX0 32 "TicketScales$Counter" "prizes" "[LTicketScales$Prize;", Cond.static yX9_within, Cond.code yX9_within cX9_within 3 (some .boolean), Cond.methodLink RX9 165 yX5_part, Cond.instanceMethod yX5_part, Cond.selects RX5 yX5_part yX5_part, Cond.initialized RX5, Cond.code yX5_part cX5_part 2 (some .int), Cond.fieldLink RX5 9 "TicketScales$Prize" "price" "I"]
def wsX9_prize_r2 : List Cond := [Cond.fieldLink RX5 15 "TicketScales$Prize" "weight" "I", Cond.fieldLink RX5 18 "TicketScales$Prize" "stock" "I", Cond.fieldLink RX5 21 "TicketScales$Prize" "mark" "I", Cond.fieldLink RX5 24 "TicketScales$Prize" "box" "I", Cond.fieldLink RX5 27 "TicketScales$Prize" "sold" "I", Cond.fieldLink RX5 30 "TicketScales$Prize" "boxes" "I", Cond.constant RX5 47 (-100001)]
def wsX9_prize : List Cond := .code yX9_prize cX9_prize 4 (some .int) :: ((wsX9_prize_r1 ++ wsX9_prize_r2) ++ wsX90 ++ wsX30 ++ wsX80 ++ wsX00 ++ wsX50)
def wsX9_read_r1 : List Cond := [Cond.constant RX9 166 (3000000), Cond.constant RX9 145 (-100001), Cond.fieldLink RX9 167 "TicketScales$Counter" "scale" "LTicketScales$Scale;", Cond.fieldLink RX9 171 "TicketScales$Scale" "step" "I", Cond.methodLink RX9 141 yX9_within, Cond.static yX9_within, Cond.initialized RX9, Cond.code yX9_within cX9_within 3 (some .boolean), Cond.methodLink RX9 33 yX9_counter, Cond.instanceMethod yX9_counter, Cond.selects RX9 yX9_counter yX9_counter, Cond.code yX9_counter cX9_counter 1 (some (.object "TicketScales$Counter")), Cond.fieldLink RX9 10 "TicketScales" "history" "LTicketScales$History;", Cond.fieldLink RX9 86 "TicketScales$History" "now" "LTicketScales$State;", Cond.fieldLink RX9 222 "TicketScales$State" "counter" "LTicketScales$Counter;", Cond.methodLink RX9 176 yX9_readingAt, Cond.static yX9_readingAt, Cond.code yX9_readingAt cX9_readingAt 2 (some .int), Cond.methodLink RX9 235 Lib.Math.max.name, Cond.static Lib.Math.max.name, Cond.initialized "java/lang/Math", Cond.code Lib.Math.max.name Lib.Math.max.code 2 (some .int), Cond.methodLink RX9 232 yX9_quotient, Cond.static yX9_quotient]
def wsX9_read_r2 : List Cond := [Cond.code yX9_quotient cX9_quotient 2 (some .int), Cond.methodLink RX9 227 yJ9_floorDiv_7cf53, Cond.static yJ9_floorDiv_7cf53, Cond.initialized RJ9, Cond.code yJ9_floorDiv_7cf53 cJ9_floorDiv_7cf53 3 (some .int)]
def wsX9_read : List Cond := .code yX9_read cX9_read 2 (some .int) :: ((wsX9_read_r1 ++ wsX9_read_r2) ++ wsX00 ++ wsX70 ++ wsX90 ++ wsX30 ++ wsX80)
def wsX9_allowed_r1 : List Cond := [Cond.constant RX9 166 (3000000), Cond.constant RX9 145 (-100001), Cond.fieldLink RX9 167 "TicketScales$Counter" "scale" "LTicketScales$Scale;", Cond.constant RX9 186 (-100009), Cond.methodLink RX9 33 yX9_counter, Cond.instanceMethod yX9_counter, Cond.selects RX9 yX9_counter yX9_counter, Cond.initialized RX9, Cond.code yX9_counter cX9_counter 1 (some (.object "TicketScales$Counter")), Cond.fieldLink RX9 10 "TicketScales" "history" "LTicketScales$History;", Cond.fieldLink RX9 86 "TicketScales$History" "now" "LTicketScales$State;", Cond.fieldLink RX9 222 "TicketScales$State" "counter" "LTicketScales$Counter;", Cond.methodLink RX9 137 yX0_kindAt, Cond.instanceMethod yX0_kindAt, Cond.selects RX0 yX0_kindAt yX0_kindAt, Cond.initialized RX0, Cond.code yX0_kindAt cX0_kindAt 2 (some (.object "TicketScales$Kind")), Cond.fieldLink RX0 11 "TicketScales$Counter" "kinds" "[LTicketScales$Kind;", Cond.static yX9_within, Cond.code yX9_within cX9_within 3 (some .boolean), Cond.methodLink RX9 141 yX9_within, Cond.methodLink RX9 179 yX7_leastCount, Cond.instanceMethod yX7_leastCount, Cond.selects RX7 yX7_leastCount yX7_leastCount]
def wsX9_allowed_r2 : List Cond := [Cond.initialized RX7, Cond.code yX7_leastCount cX7_leastCount 5 (some .int), Cond.fieldLink RX7 15 "TicketScales$Scale" "limit" "I", Cond.methodLink RX7 35 Lib.Math.max.name, Cond.static Lib.Math.max.name, Cond.initialized "java/lang/Math", Cond.code Lib.Math.max.name Lib.Math.max.code 2 (some .int), Cond.methodLink RX7 21 yX4_heaviest, Cond.instanceMethod yX4_heaviest, Cond.selects RX4 yX4_heaviest yX4_heaviest, Cond.initialized RX4, Cond.code yX4_heaviest cX4_heaviest 1 (some .int), Cond.fieldLink RX4 7 "TicketScales$Kind" "weight" "I", Cond.fieldLink RX4 13 "TicketScales$Kind" "spread" "I", Cond.methodLink RX7 27 yX7_loadFrom, Cond.instanceMethod yX7_loadFrom, Cond.selects RX7 yX7_loadFrom yX7_loadFrom, Cond.code yX7_loadFrom cX7_loadFrom 2 (some .int), Cond.fieldLink RX7 9 "TicketScales$Scale" "step" "I", Cond.static yX9_quotient, Cond.code yX9_quotient cX9_quotient 2 (some .int), Cond.methodLink RX9 227 yJ9_floorDiv_7cf53, Cond.static yJ9_floorDiv_7cf53, Cond.initialized RJ9]
def wsX9_allowed_r3 : List Cond := [Cond.code yJ9_floorDiv_7cf53 cJ9_floorDiv_7cf53 3 (some .int), Cond.methodLink RX9 183 yX7_greatestCount, Cond.instanceMethod yX7_greatestCount, Cond.selects RX7 yX7_greatestCount yX7_greatestCount, Cond.code yX7_greatestCount cX7_greatestCount 3 (some .int), Cond.methodLink RX7 40 yX7_shows, Cond.instanceMethod yX7_shows, Cond.selects RX7 yX7_shows yX7_shows, Cond.code yX7_shows cX7_shows 2 (some .boolean), Cond.methodLink RX7 44 yX7_loadTo, Cond.instanceMethod yX7_loadTo, Cond.selects RX7 yX7_loadTo yX7_loadTo, Cond.code yX7_loadTo cX7_loadTo 2 (some .int), Cond.methodLink RX7 47 yX4_lightest, Cond.instanceMethod yX4_lightest, Cond.selects RX4 yX4_lightest yX4_lightest, Cond.code yX4_lightest cX4_lightest 1 (some .int)]
def wsX9_allowed : List Cond := .code yX9_allowed cX9_allowed 7 (some .int) :: ((wsX9_allowed_r1 ++ (wsX9_allowed_r2 ++ wsX9_allowed_r3)) ++ wsX00 ++ wsX90 ++ wsX30 ++ wsX80 ++ wsX70 ++ wsX40)
def wsX9_guess_r1 : List Cond := [Cond.constant RX9 166 (3000000), Cond.constant RX9 145 (-100001), Cond.fieldLink RX9 167 "TicketScales$Counter" "scale" "LTicketScales$Scale;", Cond.methodLink RX9 33 yX9_counter, Cond.instanceMethod yX9_counter, Cond.selects RX9 yX9_counter yX9_counter, Cond.initialized RX9, Cond.code yX9_counter cX9_counter 1 (some (.object "TicketScales$Counter")), Cond.fieldLink RX9 10 "TicketScales" "history" "LTicketScales$History;", Cond.fieldLink RX9 86 "TicketScales$History" "now" "LTicketScales$State;", Cond.fieldLink RX9 222 "TicketScales$State" "counter" "LTicketScales$Counter;", Cond.methodLink RX9 137 yX0_kindAt, Cond.instanceMethod yX0_kindAt, Cond.selects RX0 yX0_kindAt yX0_kindAt, Cond.initialized RX0, Cond.code yX0_kindAt cX0_kindAt 2 (some (.object "TicketScales$Kind")), Cond.fieldLink RX0 11 "TicketScales$Counter" "kinds" "[LTicketScales$Kind;", Cond.static yX9_within, Cond.code yX9_within cX9_within 3 (some .boolean), Cond.methodLink RX9 141 yX9_within, Cond.methodLink RX9 187 yX7_guessFrom, Cond.instanceMethod yX7_guessFrom, Cond.selects RX7 yX7_guessFrom yX7_guessFrom, Cond.initialized RX7]
def wsX9_guess_r2 : List Cond := [Cond.code yX7_guessFrom cX7_guessFrom 6 (some .int), Cond.constant RX7 57 (-100009), Cond.fieldLink RX7 58 "TicketScales$Kind" "weight" "I", Cond.methodLink RX7 64 Lib.Math.min.name, Cond.static Lib.Math.min.name, Cond.initialized "java/lang/Math", Cond.code Lib.Math.min.name Lib.Math.min.code 2 (some .int), Cond.methodLink RX7 35 Lib.Math.max.name, Cond.static Lib.Math.max.name, Cond.code Lib.Math.max.name Lib.Math.max.code 2 (some .int), Cond.methodLink RX7 50 yX7_leastCount, Cond.instanceMethod yX7_leastCount, Cond.selects RX7 yX7_leastCount yX7_leastCount, Cond.code yX7_leastCount cX7_leastCount 5 (some .int), Cond.fieldLink RX7 15 "TicketScales$Scale" "limit" "I", Cond.methodLink RX7 21 yX4_heaviest, Cond.instanceMethod yX4_heaviest, Cond.selects RX4 yX4_heaviest yX4_heaviest, Cond.initialized RX4, Cond.code yX4_heaviest cX4_heaviest 1 (some .int), Cond.fieldLink RX4 7 "TicketScales$Kind" "weight" "I", Cond.fieldLink RX4 13 "TicketScales$Kind" "spread" "I", Cond.methodLink RX7 27 yX7_loadFrom, Cond.instanceMethod yX7_loadFrom]
def wsX9_guess_r3 : List Cond := [Cond.selects RX7 yX7_loadFrom yX7_loadFrom, Cond.code yX7_loadFrom cX7_loadFrom 2 (some .int), Cond.fieldLink RX7 9 "TicketScales$Scale" "step" "I", Cond.static yX9_quotient, Cond.code yX9_quotient cX9_quotient 2 (some .int), Cond.methodLink RX9 227 yJ9_floorDiv_7cf53, Cond.static yJ9_floorDiv_7cf53, Cond.initialized RJ9, Cond.code yJ9_floorDiv_7cf53 cJ9_floorDiv_7cf53 3 (some .int), Cond.methodLink RX7 54 yX7_greatestCount, Cond.instanceMethod yX7_greatestCount, Cond.selects RX7 yX7_greatestCount yX7_greatestCount, Cond.code yX7_greatestCount cX7_greatestCount 3 (some .int), Cond.methodLink RX7 40 yX7_shows, Cond.instanceMethod yX7_shows, Cond.selects RX7 yX7_shows yX7_shows, Cond.code yX7_shows cX7_shows 2 (some .boolean), Cond.methodLink RX7 44 yX7_loadTo, Cond.instanceMethod yX7_loadTo, Cond.selects RX7 yX7_loadTo yX7_loadTo, Cond.code yX7_loadTo cX7_loadTo 2 (some .int), Cond.methodLink RX7 47 yX4_lightest, Cond.instanceMethod yX4_lightest, Cond.selects RX4 yX4_lightest yX4_lightest]
def wsX9_guess_r4 : List Cond := [Cond.code yX4_lightest cX4_lightest 1 (some .int), Cond.methodLink RX7 61 yX7_nearestCount, Cond.instanceMethod yX7_nearestCount, Cond.selects RX7 yX7_nearestCount yX7_nearestCount, Cond.code yX7_nearestCount cX7_nearestCount 5 (some .int)]
def wsX9_guess : List Cond := .code yX9_guess cX9_guess 5 (some .int) :: ((wsX9_guess_r1 ++ (wsX9_guess_r2 ++ (wsX9_guess_r3 ++ wsX9_guess_r4))) ++ wsX00 ++ wsX90 ++ wsX30 ++ wsX80 ++ wsX40 ++ wsX70)
def wsX9_apartUpTo_r1 : List Cond := [Cond.constant RX9 145 (-100001), Cond.fieldLink RX9 167 "TicketScales$Counter" "scale" "LTicketScales$Scale;", Cond.methodLink RX9 33 yX9_counter, Cond.instanceMethod yX9_counter, Cond.selects RX9 yX9_counter yX9_counter, Cond.initialized RX9, Cond.code yX9_counter cX9_counter 1 (some (.object "TicketScales$Counter")), Cond.fieldLink RX9 10 "TicketScales" "history" "LTicketScales$History;", Cond.fieldLink RX9 86 "TicketScales$History" "now" "LTicketScales$State;", Cond.fieldLink RX9 222 "TicketScales$State" "counter" "LTicketScales$Counter;", Cond.methodLink RX9 137 yX0_kindAt, Cond.instanceMethod yX0_kindAt, Cond.selects RX0 yX0_kindAt yX0_kindAt, Cond.initialized RX0, Cond.code yX0_kindAt cX0_kindAt 2 (some (.object "TicketScales$Kind")), Cond.fieldLink RX0 11 "TicketScales$Counter" "kinds" "[LTicketScales$Kind;", Cond.static yX9_within, Cond.code yX9_within cX9_within 3 (some .boolean), Cond.methodLink RX9 191 yX7_lastApart, Cond.instanceMethod yX7_lastApart, Cond.selects RX7 yX7_lastApart yX7_lastApart, Cond.initialized RX7, Cond.code yX7_lastApart cX7_lastApart 3 (some .int), Cond.fieldLink RX7 9 "TicketScales$Scale" "step" "I"]
def wsX9_apartUpTo_r2 : List Cond := [Cond.methodLink RX7 70 yX7_apartFromNext, Cond.instanceMethod yX7_apartFromNext, Cond.selects RX7 yX7_apartFromNext yX7_apartFromNext, Cond.code yX7_apartFromNext cX7_apartFromNext 6 (some .boolean), Cond.fieldLink RX7 15 "TicketScales$Scale" "limit" "I", Cond.methodLink RX7 21 yX4_heaviest, Cond.instanceMethod yX4_heaviest, Cond.selects RX4 yX4_heaviest yX4_heaviest, Cond.initialized RX4, Cond.code yX4_heaviest cX4_heaviest 1 (some .int), Cond.fieldLink RX4 7 "TicketScales$Kind" "weight" "I", Cond.fieldLink RX4 13 "TicketScales$Kind" "spread" "I", Cond.static yX9_readingAt, Cond.code yX9_readingAt cX9_readingAt 2 (some .int), Cond.methodLink RX9 235 Lib.Math.max.name, Cond.static Lib.Math.max.name, Cond.initialized "java/lang/Math", Cond.code Lib.Math.max.name Lib.Math.max.code 2 (some .int), Cond.methodLink RX9 232 yX9_quotient, Cond.static yX9_quotient, Cond.code yX9_quotient cX9_quotient 2 (some .int), Cond.methodLink RX9 227 yJ9_floorDiv_7cf53, Cond.static yJ9_floorDiv_7cf53, Cond.initialized RJ9]
def wsX9_apartUpTo_r3 : List Cond := [Cond.code yJ9_floorDiv_7cf53 cJ9_floorDiv_7cf53 3 (some .int), Cond.methodLink RX7 47 yX4_lightest, Cond.instanceMethod yX4_lightest, Cond.selects RX4 yX4_lightest yX4_lightest, Cond.code yX4_lightest cX4_lightest 1 (some .int)]
def wsX9_apartUpTo : List Cond := .code yX9_apartUpTo cX9_apartUpTo 3 (some .int) :: ((wsX9_apartUpTo_r1 ++ (wsX9_apartUpTo_r2 ++ wsX9_apartUpTo_r3)) ++ wsX00 ++ wsX90 ++ wsX30 ++ wsX80 ++ wsX70 ++ wsX40)
def wsX9_bestStep_r1 : List Cond := [Cond.constant RX9 145 (-100001), Cond.fieldLink RX9 167 "TicketScales$Counter" "scale" "LTicketScales$Scale;", Cond.methodLink RX9 33 yX9_counter, Cond.instanceMethod yX9_counter, Cond.selects RX9 yX9_counter yX9_counter, Cond.initialized RX9, Cond.code yX9_counter cX9_counter 1 (some (.object "TicketScales$Counter")), Cond.fieldLink RX9 10 "TicketScales" "history" "LTicketScales$History;", Cond.fieldLink RX9 86 "TicketScales$History" "now" "LTicketScales$State;", Cond.fieldLink RX9 222 "TicketScales$State" "counter" "LTicketScales$Counter;", Cond.methodLink RX9 137 yX0_kindAt, Cond.instanceMethod yX0_kindAt, Cond.selects RX0 yX0_kindAt yX0_kindAt, Cond.initialized RX0, Cond.code yX0_kindAt cX0_kindAt 2 (some (.object "TicketScales$Kind")), Cond.fieldLink RX0 11 "TicketScales$Counter" "kinds" "[LTicketScales$Kind;", Cond.static yX9_within, Cond.code yX9_within cX9_within 3 (some .boolean), Cond.methodLink RX9 141 yX9_within, Cond.methodLink RX9 195 yX7_greatestStep, Cond.instanceMethod yX7_greatestStep, Cond.selects RX7 yX7_greatestStep yX7_greatestStep, Cond.initialized RX7, Cond.code yX7_greatestStep cX7_greatestStep 4 (some .int)]
def wsX9_bestStep_r2 : List Cond := [Cond.constant RX7 57 (-100009), Cond.methodLink RX7 74 yX7_allApart, Cond.instanceMethod yX7_allApart, Cond.selects RX7 yX7_allApart yX7_allApart, Cond.code yX7_allApart cX7_allApart 5 (some .boolean), Cond.methodLink RX7 70 yX7_apartFromNext, Cond.instanceMethod yX7_apartFromNext, Cond.selects RX7 yX7_apartFromNext yX7_apartFromNext, Cond.code yX7_apartFromNext cX7_apartFromNext 6 (some .boolean), Cond.fieldLink RX7 15 "TicketScales$Scale" "limit" "I", Cond.methodLink RX7 21 yX4_heaviest, Cond.instanceMethod yX4_heaviest, Cond.selects RX4 yX4_heaviest yX4_heaviest, Cond.initialized RX4, Cond.code yX4_heaviest cX4_heaviest 1 (some .int), Cond.fieldLink RX4 7 "TicketScales$Kind" "weight" "I", Cond.fieldLink RX4 13 "TicketScales$Kind" "spread" "I", Cond.static yX9_readingAt, Cond.code yX9_readingAt cX9_readingAt 2 (some .int), Cond.methodLink RX9 235 Lib.Math.max.name, Cond.static Lib.Math.max.name, Cond.initialized "java/lang/Math", Cond.code Lib.Math.max.name Lib.Math.max.code 2 (some .int), Cond.methodLink RX9 232 yX9_quotient]
def wsX9_bestStep_r3 : List Cond := [Cond.static yX9_quotient, Cond.code yX9_quotient cX9_quotient 2 (some .int), Cond.methodLink RX9 227 yJ9_floorDiv_7cf53, Cond.static yJ9_floorDiv_7cf53, Cond.initialized RJ9, Cond.code yJ9_floorDiv_7cf53 cJ9_floorDiv_7cf53 3 (some .int), Cond.methodLink RX7 47 yX4_lightest, Cond.instanceMethod yX4_lightest, Cond.selects RX4 yX4_lightest yX4_lightest, Cond.code yX4_lightest cX4_lightest 1 (some .int)]
def wsX9_bestStep : List Cond := .code yX9_bestStep cX9_bestStep 4 (some .int) :: ((wsX9_bestStep_r1 ++ (wsX9_bestStep_r2 ++ wsX9_bestStep_r3)) ++ wsX00 ++ wsX90 ++ wsX30 ++ wsX80 ++ wsX70 ++ wsX40)
def wsX9_mixed_r1 : List Cond := [Cond.constant RX9 145 (-100001), Cond.constant RX9 166 (3000000), Cond.fieldLink RX9 167 "TicketScales$Counter" "scale" "LTicketScales$Scale;", Cond.methodLink RX9 33 yX9_counter, Cond.instanceMethod yX9_counter, Cond.selects RX9 yX9_counter yX9_counter, Cond.initialized RX9, Cond.code yX9_counter cX9_counter 1 (some (.object "TicketScales$Counter")), Cond.fieldLink RX9 10 "TicketScales" "history" "LTicketScales$History;", Cond.fieldLink RX9 86 "TicketScales$History" "now" "LTicketScales$State;", Cond.fieldLink RX9 222 "TicketScales$State" "counter" "LTicketScales$Counter;", Cond.methodLink RX9 137 yX0_kindAt, Cond.instanceMethod yX0_kindAt, Cond.selects RX0 yX0_kindAt yX0_kindAt, Cond.initialized RX0, Cond.code yX0_kindAt cX0_kindAt 2 (some (.object "TicketScales$Kind")), Cond.fieldLink RX0 11 "TicketScales$Counter" "kinds" "[LTicketScales$Kind;", Cond.static yX9_within, Cond.code yX9_within cX9_within 3 (some .boolean), Cond.methodLink RX9 141 yX9_within, Cond.methodLink RX9 199 yX7_mixedPairs, Cond.instanceMethod yX7_mixedPairs, Cond.selects RX7 yX7_mixedPairs yX7_mixedPairs, Cond.initialized RX7]
def wsX9_mixed_r2 : List Cond := [Cond.code yX7_mixedPairs cX7_mixedPairs 10 (some .int), Cond.constant RX7 57 (-100009), Cond.methodLink RX7 77 yX7_pairsOf, Cond.instanceMethod yX7_pairsOf, Cond.selects RX7 yX7_pairsOf yX7_pairsOf, Cond.code yX7_pairsOf cX7_pairsOf 10 (some .int), Cond.fieldLink RX7 15 "TicketScales$Scale" "limit" "I", Cond.methodLink RX7 40 yX7_shows, Cond.instanceMethod yX7_shows, Cond.selects RX7 yX7_shows yX7_shows, Cond.code yX7_shows cX7_shows 2 (some .boolean), Cond.fieldLink RX7 9 "TicketScales$Scale" "step" "I", Cond.methodLink RX7 47 yX4_lightest, Cond.instanceMethod yX4_lightest, Cond.selects RX4 yX4_lightest yX4_lightest, Cond.initialized RX4, Cond.code yX4_lightest cX4_lightest 1 (some .int), Cond.fieldLink RX4 7 "TicketScales$Kind" "weight" "I", Cond.fieldLink RX4 13 "TicketScales$Kind" "spread" "I", Cond.methodLink RX7 21 yX4_heaviest, Cond.instanceMethod yX4_heaviest, Cond.selects RX4 yX4_heaviest yX4_heaviest, Cond.code yX4_heaviest cX4_heaviest 1 (some .int), Cond.methodLink RX7 44 yX7_loadTo]
def wsX9_mixed_r3 : List Cond := [Cond.instanceMethod yX7_loadTo, Cond.selects RX7 yX7_loadTo yX7_loadTo, Cond.code yX7_loadTo cX7_loadTo 2 (some .int), Cond.methodLink RX7 27 yX7_loadFrom, Cond.instanceMethod yX7_loadFrom, Cond.selects RX7 yX7_loadFrom yX7_loadFrom, Cond.code yX7_loadFrom cX7_loadFrom 2 (some .int)]
def wsX9_mixed : List Cond := .code yX9_mixed cX9_mixed 7 (some .int) :: ((wsX9_mixed_r1 ++ (wsX9_mixed_r2 ++ wsX9_mixed_r3)) ++ wsX00 ++ wsX90 ++ wsX30 ++ wsX80 ++ wsX70 ++ wsX40)
def wsX9_would_r1 : List Cond := [Cond.constant RX9 145 (-100001), Cond.methodLink RX9 141 yX9_within, Cond.static yX9_within, Cond.initialized RX9, Cond.code yX9_within cX9_within 3 (some .boolean), Cond.methodLink RX9 33 yX9_counter, Cond.instanceMethod yX9_counter, Cond.selects RX9 yX9_counter yX9_counter, Cond.code yX9_counter cX9_counter 1 (some (.object "TicketScales$Counter")), Cond.fieldLink RX9 10 "TicketScales" "history" "LTicketScales$History;", Cond.fieldLink RX9 86 "TicketScales$History" "now" "LTicketScales$State;", Cond.fieldLink RX9 222 "TicketScales$State" "counter" "LTicketScales$Counter;", Cond.methodLink RX9 203 yX0_given, Cond.instanceMethod yX0_given, Cond.selects RX0 yX0_given yX0_given, Cond.initialized RX0, Cond.code yX0_given cX0_given 9 (some .int), Cond.constant RX0 159 (100000), Cond.fieldLink RX0 26 "TicketScales$Counter" "customers" "[LTicketScales$Customer;", Cond.fieldLink RX0 127 "TicketScales$Customer" "kept" "Z", Cond.fieldLink RX0 135 "TicketScales$Customer" "kind" "I", Cond.constant RX0 186 (-100009), Cond.fieldLink RX0 20 "TicketScales$Counter" "scale" "LTicketScales$Scale;", Cond.fieldLink RX0 138 "TicketScales$Customer" "reading" "I"]
def wsX9_would_r2 : List Cond := [Cond.fieldLink RX0 145 "TicketScales$Customer" "count" "I", Cond.methodLink RX0 72 yX0_kindAt, Cond.instanceMethod yX0_kindAt, Cond.selects RX0 yX0_kindAt yX0_kindAt, Cond.code yX0_kindAt cX0_kindAt 2 (some (.object "TicketScales$Kind")), Cond.fieldLink RX0 11 "TicketScales$Counter" "kinds" "[LTicketScales$Kind;", Cond.methodLink RX0 116 yX7_guessFrom, Cond.instanceMethod yX7_guessFrom, Cond.selects RX7 yX7_guessFrom yX7_guessFrom, Cond.initialized RX7, Cond.code yX7_guessFrom cX7_guessFrom 6 (some .int), Cond.constant RX7 57 (-100009), Cond.fieldLink RX7 58 "TicketScales$Kind" "weight" "I", Cond.methodLink RX7 64 Lib.Math.min.name, Cond.static Lib.Math.min.name, Cond.initialized "java/lang/Math", Cond.code Lib.Math.min.name Lib.Math.min.code 2 (some .int), Cond.methodLink RX7 35 Lib.Math.max.name, Cond.static Lib.Math.max.name, Cond.code Lib.Math.max.name Lib.Math.max.code 2 (some .int), Cond.methodLink RX7 50 yX7_leastCount, Cond.instanceMethod yX7_leastCount, Cond.selects RX7 yX7_leastCount yX7_leastCount, Cond.code yX7_leastCount cX7_leastCount 5 (some .int)]
def wsX9_would_r3 : List Cond := [Cond.fieldLink RX7 15 "TicketScales$Scale" "limit" "I", Cond.methodLink RX7 21 yX4_heaviest, Cond.instanceMethod yX4_heaviest, Cond.selects RX4 yX4_heaviest yX4_heaviest, Cond.initialized RX4, Cond.code yX4_heaviest cX4_heaviest 1 (some .int), Cond.fieldLink RX4 7 "TicketScales$Kind" "weight" "I", Cond.fieldLink RX4 13 "TicketScales$Kind" "spread" "I", Cond.methodLink RX7 27 yX7_loadFrom, Cond.instanceMethod yX7_loadFrom, Cond.selects RX7 yX7_loadFrom yX7_loadFrom, Cond.code yX7_loadFrom cX7_loadFrom 2 (some .int), Cond.fieldLink RX7 9 "TicketScales$Scale" "step" "I", Cond.static yX9_quotient, Cond.code yX9_quotient cX9_quotient 2 (some .int), Cond.methodLink RX9 227 yJ9_floorDiv_7cf53, Cond.static yJ9_floorDiv_7cf53, Cond.initialized RJ9, Cond.code yJ9_floorDiv_7cf53 cJ9_floorDiv_7cf53 3 (some .int), Cond.methodLink RX7 54 yX7_greatestCount, Cond.instanceMethod yX7_greatestCount, Cond.selects RX7 yX7_greatestCount yX7_greatestCount, Cond.code yX7_greatestCount cX7_greatestCount 3 (some .int), Cond.methodLink RX7 40 yX7_shows]
def wsX9_would_r4 : List Cond := [Cond.instanceMethod yX7_shows, Cond.selects RX7 yX7_shows yX7_shows, Cond.code yX7_shows cX7_shows 2 (some .boolean), Cond.methodLink RX7 44 yX7_loadTo, Cond.instanceMethod yX7_loadTo, Cond.selects RX7 yX7_loadTo yX7_loadTo, Cond.code yX7_loadTo cX7_loadTo 2 (some .int), Cond.methodLink RX7 47 yX4_lightest, Cond.instanceMethod yX4_lightest, Cond.selects RX4 yX4_lightest yX4_lightest, Cond.code yX4_lightest cX4_lightest 1 (some .int), Cond.methodLink RX7 61 yX7_nearestCount, Cond.instanceMethod yX7_nearestCount, Cond.selects RX7 yX7_nearestCount yX7_nearestCount, Cond.code yX7_nearestCount cX7_nearestCount 5 (some .int)]
def wsX9_would : List Cond := .code yX9_would cX9_would 2 (some .int) :: ((wsX9_would_r1 ++ (wsX9_would_r2 ++ (wsX9_would_r3 ++ wsX9_would_r4))) ++ wsX90 ++ wsX30 ++ wsX80 ++ wsX00 ++ wsX10 ++ wsX40 ++ wsX70)
def wsX9_fairest_r1 : List Cond := [Cond.methodLink RX9 33 yX9_counter, Cond.instanceMethod yX9_counter, Cond.selects RX9 yX9_counter yX9_counter, Cond.initialized RX9, Cond.code yX9_counter cX9_counter 1 (some (.object "TicketScales$Counter")), Cond.fieldLink RX9 10 "TicketScales" "history" "LTicketScales$History;", Cond.fieldLink RX9 86 "TicketScales$History" "now" "LTicketScales$State;", Cond.fieldLink RX9 222 "TicketScales$State" "counter" "LTicketScales$Counter;", Cond.methodLink RX9 206 yX0_fairestRule, Cond.instanceMethod yX0_fairestRule, Cond.selects RX0 yX0_fairestRule yX0_fairestRule, Cond.initialized RX0, Cond.code yX0_fairestRule cX0_fairestRule 6 (some .int), Cond.constant RX0 186 (-100009), Cond.constant RX0 159 (100000), Cond.methodLink RX0 191 Lib.Math.abs.name, Cond.static Lib.Math.abs.name, Cond.initialized "java/lang/Math", Cond.code Lib.Math.abs.name Lib.Math.abs.code 1 (some .int), Cond.methodLink RX0 187 yX0_given, Cond.instanceMethod yX0_given, Cond.selects RX0 yX0_given yX0_given, Cond.code yX0_given cX0_given 9 (some .int), Cond.fieldLink RX0 26 "TicketScales$Counter" "customers" "[LTicketScales$Customer;"]
def wsX9_fairest_r2 : List Cond := [Cond.fieldLink RX0 127 "TicketScales$Customer" "kept" "Z", Cond.fieldLink RX0 135 "TicketScales$Customer" "kind" "I", Cond.fieldLink RX0 20 "TicketScales$Counter" "scale" "LTicketScales$Scale;", Cond.fieldLink RX0 138 "TicketScales$Customer" "reading" "I", Cond.fieldLink RX0 145 "TicketScales$Customer" "count" "I", Cond.methodLink RX0 72 yX0_kindAt, Cond.instanceMethod yX0_kindAt, Cond.selects RX0 yX0_kindAt yX0_kindAt, Cond.code yX0_kindAt cX0_kindAt 2 (some (.object "TicketScales$Kind")), Cond.fieldLink RX0 11 "TicketScales$Counter" "kinds" "[LTicketScales$Kind;", Cond.static yX9_within, Cond.code yX9_within cX9_within 3 (some .boolean), Cond.methodLink RX0 116 yX7_guessFrom, Cond.instanceMethod yX7_guessFrom, Cond.selects RX7 yX7_guessFrom yX7_guessFrom, Cond.initialized RX7, Cond.code yX7_guessFrom cX7_guessFrom 6 (some .int), Cond.constant RX7 57 (-100009), Cond.fieldLink RX7 58 "TicketScales$Kind" "weight" "I", Cond.methodLink RX7 64 Lib.Math.min.name, Cond.static Lib.Math.min.name, Cond.code Lib.Math.min.name Lib.Math.min.code 2 (some .int), Cond.methodLink RX7 35 Lib.Math.max.name, Cond.static Lib.Math.max.name]
def wsX9_fairest_r3 : List Cond := [Cond.code Lib.Math.max.name Lib.Math.max.code 2 (some .int), Cond.methodLink RX7 50 yX7_leastCount, Cond.instanceMethod yX7_leastCount, Cond.selects RX7 yX7_leastCount yX7_leastCount, Cond.code yX7_leastCount cX7_leastCount 5 (some .int), Cond.fieldLink RX7 15 "TicketScales$Scale" "limit" "I", Cond.methodLink RX7 21 yX4_heaviest, Cond.instanceMethod yX4_heaviest, Cond.selects RX4 yX4_heaviest yX4_heaviest, Cond.initialized RX4, Cond.code yX4_heaviest cX4_heaviest 1 (some .int), Cond.fieldLink RX4 7 "TicketScales$Kind" "weight" "I", Cond.fieldLink RX4 13 "TicketScales$Kind" "spread" "I", Cond.methodLink RX7 27 yX7_loadFrom, Cond.instanceMethod yX7_loadFrom, Cond.selects RX7 yX7_loadFrom yX7_loadFrom, Cond.code yX7_loadFrom cX7_loadFrom 2 (some .int), Cond.fieldLink RX7 9 "TicketScales$Scale" "step" "I", Cond.static yX9_quotient, Cond.code yX9_quotient cX9_quotient 2 (some .int), Cond.methodLink RX9 227 yJ9_floorDiv_7cf53, Cond.static yJ9_floorDiv_7cf53, Cond.initialized RJ9, Cond.code yJ9_floorDiv_7cf53 cJ9_floorDiv_7cf53 3 (some .int)]
def wsX9_fairest_r4 : List Cond := [Cond.methodLink RX7 54 yX7_greatestCount, Cond.instanceMethod yX7_greatestCount, Cond.selects RX7 yX7_greatestCount yX7_greatestCount, Cond.code yX7_greatestCount cX7_greatestCount 3 (some .int), Cond.methodLink RX7 40 yX7_shows, Cond.instanceMethod yX7_shows, Cond.selects RX7 yX7_shows yX7_shows, Cond.code yX7_shows cX7_shows 2 (some .boolean), Cond.methodLink RX7 44 yX7_loadTo, Cond.instanceMethod yX7_loadTo, Cond.selects RX7 yX7_loadTo yX7_loadTo, Cond.code yX7_loadTo cX7_loadTo 2 (some .int), Cond.methodLink RX7 47 yX4_lightest, Cond.instanceMethod yX4_lightest, Cond.selects RX4 yX4_lightest yX4_lightest, Cond.code yX4_lightest cX4_lightest 1 (some .int), Cond.methodLink RX7 61 yX7_nearestCount, Cond.instanceMethod yX7_nearestCount, Cond.selects RX7 yX7_nearestCount yX7_nearestCount, Cond.code yX7_nearestCount cX7_nearestCount 5 (some .int)]
def wsX9_fairest : List Cond := .code yX9_fairest cX9_fairest 1 (some .int) :: ((wsX9_fairest_r1 ++ (wsX9_fairest_r2 ++ (wsX9_fairest_r3 ++ wsX9_fairest_r4))) ++ wsX90 ++ wsX30 ++ wsX80 ++ wsX00 ++ wsX10 ++ wsX40 ++ wsX70)
def wsX9_soldOut_r1 : List Cond := [Cond.constant RX9 145 (-100001), Cond.fieldLink RX9 26 "TicketScales" "trial" "LTicketScales$Prize;", Cond.methodLink RX9 33 yX9_counter, Cond.instanceMethod yX9_counter, Cond.selects RX9 yX9_counter yX9_counter, Cond.initialized RX9, Cond.code yX9_counter cX9_counter 1 (some (.object "TicketScales$Counter")), Cond.fieldLink RX9 10 "TicketScales" "history" "LTicketScales$History;", Cond.fieldLink RX9 86 "TicketScales$History" "now" "LTicketScales$State;", Cond.fieldLink RX9 222 "TicketScales$State" "counter" "LTicketScales$Counter;", Cond.methodLink RX9 161 yX0_prizeAt, Cond.instanceMethod yX0_prizeAt, Cond.selects RX0 yX0_prizeAt yX0_prizeAt, Cond.initialized RX0, Cond.code yX0_prizeAt cX0_prizeAt 3 (some (.object "TicketScales$Prize")), Cond.fieldLink RX0 59 "TicketScales$Counter" "prizeCount" "I", Cond.fieldLink RX0 32 "TicketScales$Counter" "prizes" "[LTicketScales$Prize;", Cond.static yX9_within, Cond.code yX9_within cX9_within 3 (some .boolean), Cond.methodLink RX9 209 yX5_copyFrom, Cond.instanceMethod yX5_copyFrom, Cond.selects RX5 yX5_copyFrom yX5_copyFrom, Cond.initialized RX5, Cond.code yX5_copyFrom cX5_copyFrom 2 none]
def wsX9_soldOut_r2 : List Cond := [Cond.fieldLink RX5 9 "TicketScales$Prize" "price" "I", Cond.fieldLink RX5 15 "TicketScales$Prize" "weight" "I", Cond.fieldLink RX5 18 "TicketScales$Prize" "stock" "I", Cond.fieldLink RX5 21 "TicketScales$Prize" "mark" "I", Cond.fieldLink RX5 24 "TicketScales$Prize" "box" "I", Cond.fieldLink RX5 27 "TicketScales$Prize" "sold" "I", Cond.fieldLink RX5 30 "TicketScales$Prize" "boxes" "I", Cond.methodLink RX9 213 yX5_sellOut, Cond.instanceMethod yX5_sellOut, Cond.selects RX5 yX5_sellOut yX5_sellOut, Cond.code yX5_sellOut cX5_sellOut 2 (some .int), Cond.constant RX5 46 (-100009), Cond.methodLink RX5 42 yX5_sell, Cond.instanceMethod yX5_sell, Cond.selects RX5 yX5_sell yX5_sell, Cond.code yX5_sell cX5_sell 3 none, Cond.methodLink RX5 37 Lib.Math.min.name, Cond.static Lib.Math.min.name, Cond.initialized "java/lang/Math", Cond.code Lib.Math.min.name Lib.Math.min.code 2 (some .int), Cond.static yX9_quotient, Cond.code yX9_quotient cX9_quotient 2 (some .int), Cond.methodLink RX9 227 yJ9_floorDiv_7cf53, Cond.static yJ9_floorDiv_7cf53]
def wsX9_soldOut_r3 : List Cond := [Cond.initialized RJ9, Cond.code yJ9_floorDiv_7cf53 cJ9_floorDiv_7cf53 3 (some .int)]
def wsX9_soldOut : List Cond := .code yX9_soldOut cX9_soldOut 3 (some .int) :: ((wsX9_soldOut_r1 ++ (wsX9_soldOut_r2 ++ wsX9_soldOut_r3)) ++ wsX90 ++ wsX30 ++ wsX80 ++ wsX00 ++ wsX50)
def wsX9_shop_r1 : List Cond := [Cond.constant RX9 145 (-100001), Cond.fieldLink RX9 216 "TicketScales$Customer" "points" "I", Cond.methodLink RX9 33 yX9_counter, Cond.instanceMethod yX9_counter, Cond.selects RX9 yX9_counter yX9_counter, Cond.initialized RX9, Cond.code yX9_counter cX9_counter 1 (some (.object "TicketScales$Counter")), Cond.fieldLink RX9 10 "TicketScales" "history" "LTicketScales$History;", Cond.fieldLink RX9 86 "TicketScales$History" "now" "LTicketScales$State;", Cond.fieldLink RX9 222 "TicketScales$State" "counter" "LTicketScales$Counter;", Cond.methodLink RX9 154 yX0_customerAt, Cond.instanceMethod yX0_customerAt, Cond.selects RX0 yX0_customerAt yX0_customerAt, Cond.initialized RX0, Cond.code yX0_customerAt cX0_customerAt 3 (some (.object "TicketScales$Customer")), Cond.fieldLink RX0 56 "TicketScales$Counter" "customerCount" "I", Cond.fieldLink RX0 26 "TicketScales$Counter" "customers" "[LTicketScales$Customer;", Cond.static yX9_within, Cond.code yX9_within cX9_within 3 (some .boolean), Cond.methodLink RX9 141 yX9_within, Cond.methodLink RX9 219 yX0_shopWith, Cond.instanceMethod yX0_shopWith, Cond.selects RX0 yX0_shopWith yX0_shopWith, Cond.code yX0_shopWith cX0_shopWith 10 (some .int)]
def wsX9_shop_r2 : List Cond := [Cond.fieldLink RX0 167 "TicketScales$Prize" "stock" "I", Cond.fieldLink RX0 170 "TicketScales$Prize" "price" "I", Cond.methodLink RX0 92 Lib.Math.min.name, Cond.static Lib.Math.min.name, Cond.initialized "java/lang/Math", Cond.code Lib.Math.min.name Lib.Math.min.code 2 (some .int), Cond.fieldLink RX0 200 "TicketScales$Prize" "weight" "I", Cond.methodLink RX0 194 yX0_nextByPrice, Cond.instanceMethod yX0_nextByPrice, Cond.selects RX0 yX0_nextByPrice yX0_nextByPrice, Cond.code yX0_nextByPrice cX0_nextByPrice 4 (some .int), Cond.fieldLink RX0 59 "TicketScales$Counter" "prizeCount" "I", Cond.methodLink RX0 201 yX0_isBehind, Cond.instanceMethod yX0_isBehind, Cond.selects RX0 yX0_isBehind yX0_isBehind, Cond.code yX0_isBehind cX0_isBehind 5 (some .boolean), Cond.methodLink RX0 163 yX0_prizeAt, Cond.instanceMethod yX0_prizeAt, Cond.selects RX0 yX0_prizeAt yX0_prizeAt, Cond.code yX0_prizeAt cX0_prizeAt 3 (some (.object "TicketScales$Prize")), Cond.fieldLink RX0 32 "TicketScales$Counter" "prizes" "[LTicketScales$Prize;", Cond.static yX9_quotient, Cond.code yX9_quotient cX9_quotient 2 (some .int), Cond.methodLink RX9 227 yJ9_floorDiv_7cf53]
def wsX9_shop_r3 : List Cond := [Cond.static yJ9_floorDiv_7cf53, Cond.initialized RJ9, Cond.code yJ9_floorDiv_7cf53 cJ9_floorDiv_7cf53 3 (some .int)]
def wsX9_shop : List Cond := .code yX9_shop cX9_shop 4 (some .int) :: ((wsX9_shop_r1 ++ (wsX9_shop_r2 ++ wsX9_shop_r3)) ++ wsX10 ++ wsX90 ++ wsX30 ++ wsX80 ++ wsX00 ++ wsX50)
def wsJ9_abs_0f7a4 : List Cond := .code yJ9_abs_0f7a4 cJ9_abs_0f7a4 1 (some .int) :: ([])
def wsJ9_max_7cf53 : List Cond := .code yJ9_max_7cf53 cJ9_max_7cf53 2 (some .int) :: ([])
def wsJ9_min_7cf53 : List Cond := .code yJ9_min_7cf53 cJ9_min_7cf53 2 (some .int) :: ([])
def wsL_cell : List Cond := .code yL_cell cL_cell 2 (some .int) :: ([.constant RL 7 (15485959), .constant RL 8 (2147483647)])
def wsL_reading_r1 : List Cond := [Cond.constant RL 22 (-100009), Cond.methodLink RL 9 yX9_count, Cond.instanceMethod yX9_count, Cond.selects RX9 yX9_count yX9_count, Cond.initialized RX9, Cond.code yX9_count cX9_count 2 (some .int), Cond.fieldLink RX9 10 "TicketScales" "history" "LTicketScales$History;", Cond.fieldLink RX9 86 "TicketScales$History" "now" "LTicketScales$State;", Cond.fieldLink RX9 127 "TicketScales$History" "size" "I", Cond.fieldLink RX9 19 "TicketScales" "program" "LTicketScales$Program;", Cond.fieldLink RX9 131 "TicketScales$Program" "length" "I", Cond.methodLink RX9 124 yX8_slotsInUse, Cond.instanceMethod yX8_slotsInUse, Cond.selects RX8 yX8_slotsInUse yX8_slotsInUse, Cond.initialized RX8, Cond.code yX8_slotsInUse cX8_slotsInUse 6 (some .int), Cond.fieldLink RX8 22 "TicketScales$State" "filled" "[Z", Cond.methodLink RX9 33 yX9_counter, Cond.instanceMethod yX9_counter, Cond.selects RX9 yX9_counter yX9_counter, Cond.code yX9_counter cX9_counter 1 (some (.object "TicketScales$Counter")), Cond.fieldLink RX9 222 "TicketScales$State" "counter" "LTicketScales$Counter;", Cond.methodLink RX9 134 yX0_number, Cond.instanceMethod yX0_number]
def wsL_reading_r2 : List Cond := [Cond.selects RX0 yX0_number yX0_number, Cond.initialized RX0, Cond.code yX0_number cX0_number 2 (some .int), Cond.fieldLink RX0 20 "TicketScales$Counter" "scale" "LTicketScales$Scale;", Cond.fieldLink RX0 83 "TicketScales$Scale" "step" "I", Cond.fieldLink RX0 86 "TicketScales$Scale" "limit" "I", Cond.fieldLink RX0 89 "TicketScales$Scale" "bias" "I", Cond.fieldLink RX0 62 "TicketScales$Counter" "rule" "I", Cond.fieldLink RX0 36 "TicketScales$Counter" "fee" "I", Cond.fieldLink RX0 56 "TicketScales$Counter" "customerCount" "I", Cond.fieldLink RX0 59 "TicketScales$Counter" "prizeCount" "I", Cond.fieldLink RX0 65 "TicketScales$Counter" "gift" "I", Cond.constant RX0 76 (-100001), Cond.methodLink RX0 176 yX0_keptWeighings, Cond.instanceMethod yX0_keptWeighings, Cond.selects RX0 yX0_keptWeighings yX0_keptWeighings, Cond.code yX0_keptWeighings cX0_keptWeighings 6 (some .int), Cond.fieldLink RX0 26 "TicketScales$Counter" "customers" "[LTicketScales$Customer;", Cond.fieldLink RX0 127 "TicketScales$Customer" "kept" "Z", Cond.methodLink RX0 180 yX0_allPoints, Cond.instanceMethod yX0_allPoints, Cond.selects RX0 yX0_allPoints yX0_allPoints, Cond.code yX0_allPoints cX0_allPoints 6 (some .int), Cond.fieldLink RX0 110 "TicketScales$Customer" "points" "I"]
def wsL_reading_r3 : List Cond := [Cond.methodLink RX0 183 yX0_allStocks, Cond.instanceMethod yX0_allStocks, Cond.selects RX0 yX0_allStocks yX0_allStocks, Cond.code yX0_allStocks cX0_allStocks 6 (some .int), Cond.fieldLink RX0 32 "TicketScales$Counter" "prizes" "[LTicketScales$Prize;", Cond.fieldLink RX0 167 "TicketScales$Prize" "stock" "I", Cond.methodLink RL 15 yX9_read, Cond.instanceMethod yX9_read, Cond.selects RX9 yX9_read yX9_read, Cond.code yX9_read cX9_read 2 (some .int), Cond.constant RX9 166 (3000000), Cond.constant RX9 145 (-100001), Cond.fieldLink RX9 167 "TicketScales$Counter" "scale" "LTicketScales$Scale;", Cond.fieldLink RX9 171 "TicketScales$Scale" "step" "I", Cond.methodLink RX9 141 yX9_within, Cond.static yX9_within, Cond.code yX9_within cX9_within 3 (some .boolean), Cond.methodLink RX9 176 yX9_readingAt, Cond.static yX9_readingAt, Cond.code yX9_readingAt cX9_readingAt 2 (some .int), Cond.methodLink RX9 235 Lib.Math.max.name, Cond.static Lib.Math.max.name, Cond.initialized "java/lang/Math", Cond.code Lib.Math.max.name Lib.Math.max.code 2 (some .int)]
def wsL_reading_r4 : List Cond := [Cond.methodLink RX9 232 yX9_quotient, Cond.static yX9_quotient, Cond.code yX9_quotient cX9_quotient 2 (some .int), Cond.methodLink RX9 227 yJ9_floorDiv_7cf53, Cond.static yJ9_floorDiv_7cf53, Cond.initialized RJ9, Cond.code yJ9_floorDiv_7cf53 cJ9_floorDiv_7cf53 3 (some .int), Cond.methodLink RL 18 yX9_allowed, Cond.instanceMethod yX9_allowed, Cond.selects RX9 yX9_allowed yX9_allowed, Cond.code yX9_allowed cX9_allowed 7 (some .int), Cond.constant RX9 186 (-100009), Cond.methodLink RX9 137 yX0_kindAt, Cond.instanceMethod yX0_kindAt, Cond.selects RX0 yX0_kindAt yX0_kindAt, Cond.code yX0_kindAt cX0_kindAt 2 (some (.object "TicketScales$Kind")), Cond.fieldLink RX0 11 "TicketScales$Counter" "kinds" "[LTicketScales$Kind;", Cond.methodLink RX9 179 yX7_leastCount, Cond.instanceMethod yX7_leastCount, Cond.selects RX7 yX7_leastCount yX7_leastCount, Cond.initialized RX7, Cond.code yX7_leastCount cX7_leastCount 5 (some .int), Cond.fieldLink RX7 15 "TicketScales$Scale" "limit" "I", Cond.methodLink RX7 35 Lib.Math.max.name]
def wsL_reading_r5 : List Cond := [Cond.methodLink RX7 21 yX4_heaviest, Cond.instanceMethod yX4_heaviest, Cond.selects RX4 yX4_heaviest yX4_heaviest, Cond.initialized RX4, Cond.code yX4_heaviest cX4_heaviest 1 (some .int), Cond.fieldLink RX4 7 "TicketScales$Kind" "weight" "I", Cond.fieldLink RX4 13 "TicketScales$Kind" "spread" "I", Cond.methodLink RX7 27 yX7_loadFrom, Cond.instanceMethod yX7_loadFrom, Cond.selects RX7 yX7_loadFrom yX7_loadFrom, Cond.code yX7_loadFrom cX7_loadFrom 2 (some .int), Cond.fieldLink RX7 9 "TicketScales$Scale" "step" "I", Cond.methodLink RX9 183 yX7_greatestCount, Cond.instanceMethod yX7_greatestCount, Cond.selects RX7 yX7_greatestCount yX7_greatestCount, Cond.code yX7_greatestCount cX7_greatestCount 3 (some .int), Cond.methodLink RX7 40 yX7_shows, Cond.instanceMethod yX7_shows, Cond.selects RX7 yX7_shows yX7_shows, Cond.code yX7_shows cX7_shows 2 (some .boolean), Cond.methodLink RX7 44 yX7_loadTo, Cond.instanceMethod yX7_loadTo, Cond.selects RX7 yX7_loadTo yX7_loadTo, Cond.code yX7_loadTo cX7_loadTo 2 (some .int)]
def wsL_reading_r6 : List Cond := [Cond.methodLink RX7 47 yX4_lightest, Cond.instanceMethod yX4_lightest, Cond.selects RX4 yX4_lightest yX4_lightest, Cond.code yX4_lightest cX4_lightest 1 (some .int), Cond.methodLink RL 23 yX9_guess, Cond.instanceMethod yX9_guess, Cond.selects RX9 yX9_guess yX9_guess, Cond.code yX9_guess cX9_guess 5 (some .int), Cond.methodLink RX9 187 yX7_guessFrom, Cond.instanceMethod yX7_guessFrom, Cond.selects RX7 yX7_guessFrom yX7_guessFrom, Cond.code yX7_guessFrom cX7_guessFrom 6 (some .int), Cond.constant RX7 57 (-100009), Cond.fieldLink RX7 58 "TicketScales$Kind" "weight" "I", Cond.methodLink RX7 64 Lib.Math.min.name, Cond.static Lib.Math.min.name, Cond.code Lib.Math.min.name Lib.Math.min.code 2 (some .int), Cond.methodLink RX7 50 yX7_leastCount, Cond.methodLink RX7 54 yX7_greatestCount, Cond.methodLink RX7 61 yX7_nearestCount, Cond.instanceMethod yX7_nearestCount, Cond.selects RX7 yX7_nearestCount yX7_nearestCount, Cond.code yX7_nearestCount cX7_nearestCount 5 (some .int)]
def wsL_reading : List Cond := .code yL_reading cL_reading 11 (some .boolean) :: ((wsL_reading_r1 ++ (wsL_reading_r2 ++ (wsL_reading_r3 ++ (wsL_reading_r4 ++ (wsL_reading_r5 ++ wsL_reading_r6))))) ++ wsX90 ++ wsX30 ++ wsX60 ++ wsX80 ++ wsX00 ++ wsX70 ++ wsX10 ++ wsX50 ++ wsX40)
def wsL_holds_r1 : List Cond := [Cond.constant RL 46 (100000), Cond.constant RL 22 (-100009), Cond.methodLink RL 9 yX9_count, Cond.instanceMethod yX9_count, Cond.selects RX9 yX9_count yX9_count, Cond.initialized RX9, Cond.code yX9_count cX9_count 2 (some .int), Cond.fieldLink RX9 10 "TicketScales" "history" "LTicketScales$History;", Cond.fieldLink RX9 86 "TicketScales$History" "now" "LTicketScales$State;", Cond.fieldLink RX9 127 "TicketScales$History" "size" "I", Cond.fieldLink RX9 19 "TicketScales" "program" "LTicketScales$Program;", Cond.fieldLink RX9 131 "TicketScales$Program" "length" "I", Cond.methodLink RX9 124 yX8_slotsInUse, Cond.instanceMethod yX8_slotsInUse, Cond.selects RX8 yX8_slotsInUse yX8_slotsInUse, Cond.initialized RX8, Cond.code yX8_slotsInUse cX8_slotsInUse 6 (some .int), Cond.fieldLink RX8 22 "TicketScales$State" "filled" "[Z", Cond.methodLink RX9 33 yX9_counter, Cond.instanceMethod yX9_counter, Cond.selects RX9 yX9_counter yX9_counter, Cond.code yX9_counter cX9_counter 1 (some (.object "TicketScales$Counter")), Cond.fieldLink RX9 222 "TicketScales$State" "counter" "LTicketScales$Counter;", Cond.methodLink RX9 134 yX0_number]
def wsL_holds_r2 : List Cond := [Cond.instanceMethod yX0_number, Cond.selects RX0 yX0_number yX0_number, Cond.initialized RX0, Cond.code yX0_number cX0_number 2 (some .int), Cond.fieldLink RX0 20 "TicketScales$Counter" "scale" "LTicketScales$Scale;", Cond.fieldLink RX0 83 "TicketScales$Scale" "step" "I", Cond.fieldLink RX0 86 "TicketScales$Scale" "limit" "I", Cond.fieldLink RX0 89 "TicketScales$Scale" "bias" "I", Cond.fieldLink RX0 62 "TicketScales$Counter" "rule" "I", Cond.fieldLink RX0 36 "TicketScales$Counter" "fee" "I", Cond.fieldLink RX0 56 "TicketScales$Counter" "customerCount" "I", Cond.fieldLink RX0 59 "TicketScales$Counter" "prizeCount" "I", Cond.fieldLink RX0 65 "TicketScales$Counter" "gift" "I", Cond.constant RX0 76 (-100001), Cond.methodLink RX0 176 yX0_keptWeighings, Cond.instanceMethod yX0_keptWeighings, Cond.selects RX0 yX0_keptWeighings yX0_keptWeighings, Cond.code yX0_keptWeighings cX0_keptWeighings 6 (some .int), Cond.fieldLink RX0 26 "TicketScales$Counter" "customers" "[LTicketScales$Customer;", Cond.fieldLink RX0 127 "TicketScales$Customer" "kept" "Z", Cond.methodLink RX0 180 yX0_allPoints, Cond.instanceMethod yX0_allPoints, Cond.selects RX0 yX0_allPoints yX0_allPoints, Cond.code yX0_allPoints cX0_allPoints 6 (some .int)]
def wsL_holds_r3 : List Cond := [Cond.fieldLink RX0 110 "TicketScales$Customer" "points" "I", Cond.methodLink RX0 183 yX0_allStocks, Cond.instanceMethod yX0_allStocks, Cond.selects RX0 yX0_allStocks yX0_allStocks, Cond.code yX0_allStocks cX0_allStocks 6 (some .int), Cond.fieldLink RX0 32 "TicketScales$Counter" "prizes" "[LTicketScales$Prize;", Cond.fieldLink RX0 167 "TicketScales$Prize" "stock" "I", Cond.methodLink RL 26 yX9_customer, Cond.instanceMethod yX9_customer, Cond.selects RX9 yX9_customer yX9_customer, Cond.code yX9_customer cX9_customer 4 (some .int), Cond.constant RX9 145 (-100001), Cond.methodLink RX9 154 yX0_customerAt, Cond.instanceMethod yX0_customerAt, Cond.selects RX0 yX0_customerAt yX0_customerAt, Cond.code yX0_customerAt cX0_customerAt 3 (some (.object "TicketScales$Customer")), Cond.static yX9_within, Cond.code yX9_within cX9_within 3 (some .boolean), Cond.methodLink RX9 158 yX1_part, Cond.instanceMethod yX1_part, Cond.selects RX1 yX1_part yX1_part, Cond.initialized RX1, Cond.code yX1_part cX1_part 2 (some .int), Cond.constant RX1 45 (-100001)]
def wsL_holds_r4 : List Cond := [Cond.fieldLink RX1 9 "TicketScales$Customer" "points" "I", Cond.fieldLink RX1 15 "TicketScales$Customer" "kept" "Z", Cond.constant RX1 46 (-100009), Cond.fieldLink RX1 19 "TicketScales$Customer" "kind" "I", Cond.fieldLink RX1 22 "TicketScales$Customer" "count" "I", Cond.fieldLink RX1 25 "TicketScales$Customer" "reading" "I", Cond.fieldLink RX1 28 "TicketScales$Customer" "guess" "I", Cond.methodLink RL 30 yX9_shop, Cond.instanceMethod yX9_shop, Cond.selects RX9 yX9_shop yX9_shop, Cond.code yX9_shop cX9_shop 4 (some .int), Cond.fieldLink RX9 216 "TicketScales$Customer" "points" "I", Cond.methodLink RX9 141 yX9_within, Cond.methodLink RX9 219 yX0_shopWith, Cond.instanceMethod yX0_shopWith, Cond.selects RX0 yX0_shopWith yX0_shopWith, Cond.code yX0_shopWith cX0_shopWith 10 (some .int), Cond.fieldLink RX0 170 "TicketScales$Prize" "price" "I", Cond.methodLink RX0 92 Lib.Math.min.name, Cond.static Lib.Math.min.name, Cond.initialized "java/lang/Math", Cond.code Lib.Math.min.name Lib.Math.min.code 2 (some .int), Cond.fieldLink RX0 200 "TicketScales$Prize" "weight" "I", Cond.methodLink RX0 194 yX0_nextByPrice]
def wsL_holds_r5 : List Cond := [Cond.instanceMethod yX0_nextByPrice, Cond.selects RX0 yX0_nextByPrice yX0_nextByPrice, Cond.code yX0_nextByPrice cX0_nextByPrice 4 (some .int), Cond.methodLink RX0 201 yX0_isBehind, Cond.instanceMethod yX0_isBehind, Cond.selects RX0 yX0_isBehind yX0_isBehind, Cond.code yX0_isBehind cX0_isBehind 5 (some .boolean), Cond.methodLink RX0 163 yX0_prizeAt, Cond.instanceMethod yX0_prizeAt, Cond.selects RX0 yX0_prizeAt yX0_prizeAt, Cond.code yX0_prizeAt cX0_prizeAt 3 (some (.object "TicketScales$Prize")), Cond.static yX9_quotient, Cond.code yX9_quotient cX9_quotient 2 (some .int), Cond.methodLink RX9 227 yJ9_floorDiv_7cf53, Cond.static yJ9_floorDiv_7cf53, Cond.initialized RJ9, Cond.code yJ9_floorDiv_7cf53 cJ9_floorDiv_7cf53 3 (some .int), Cond.methodLink RL 33 yX9_prize, Cond.instanceMethod yX9_prize, Cond.selects RX9 yX9_prize yX9_prize, Cond.code yX9_prize cX9_prize 4 (some .int), Cond.methodLink RX9 161 yX0_prizeAt, Cond.methodLink RX9 165 yX5_part, Cond.instanceMethod yX5_part]
def wsL_holds_r6 : List Cond := [Cond.selects RX5 yX5_part yX5_part, Cond.initialized RX5, Cond.code yX5_part cX5_part 2 (some .int), Cond.fieldLink RX5 9 "TicketScales$Prize" "price" "I", Cond.fieldLink RX5 15 "TicketScales$Prize" "weight" "I", Cond.fieldLink RX5 18 "TicketScales$Prize" "stock" "I", Cond.fieldLink RX5 21 "TicketScales$Prize" "mark" "I", Cond.fieldLink RX5 24 "TicketScales$Prize" "box" "I", Cond.fieldLink RX5 27 "TicketScales$Prize" "sold" "I", Cond.fieldLink RX5 30 "TicketScales$Prize" "boxes" "I", Cond.constant RX5 47 (-100001), Cond.methodLink RL 36 yX9_soldOut, Cond.instanceMethod yX9_soldOut, Cond.selects RX9 yX9_soldOut yX9_soldOut, Cond.code yX9_soldOut cX9_soldOut 3 (some .int), Cond.fieldLink RX9 26 "TicketScales" "trial" "LTicketScales$Prize;", Cond.methodLink RX9 209 yX5_copyFrom, Cond.instanceMethod yX5_copyFrom, Cond.selects RX5 yX5_copyFrom yX5_copyFrom, Cond.code yX5_copyFrom cX5_copyFrom 2 none, Cond.methodLink RX9 213 yX5_sellOut, Cond.instanceMethod yX5_sellOut, Cond.selects RX5 yX5_sellOut yX5_sellOut, Cond.code yX5_sellOut cX5_sellOut 2 (some .int)]
def wsL_holds_r7 : List Cond := [Cond.constant RX5 46 (-100009), Cond.methodLink RX5 42 yX5_sell, Cond.instanceMethod yX5_sell, Cond.selects RX5 yX5_sell yX5_sell, Cond.code yX5_sell cX5_sell 3 none, Cond.methodLink RX5 37 Lib.Math.min.name, Cond.methodLink RL 39 yX9_fairest, Cond.instanceMethod yX9_fairest, Cond.selects RX9 yX9_fairest yX9_fairest, Cond.code yX9_fairest cX9_fairest 1 (some .int), Cond.methodLink RX9 206 yX0_fairestRule, Cond.instanceMethod yX0_fairestRule, Cond.selects RX0 yX0_fairestRule yX0_fairestRule, Cond.code yX0_fairestRule cX0_fairestRule 6 (some .int), Cond.constant RX0 186 (-100009), Cond.constant RX0 159 (100000), Cond.methodLink RX0 191 Lib.Math.abs.name, Cond.static Lib.Math.abs.name, Cond.code Lib.Math.abs.name Lib.Math.abs.code 1 (some .int), Cond.methodLink RX0 187 yX0_given, Cond.instanceMethod yX0_given, Cond.selects RX0 yX0_given yX0_given, Cond.code yX0_given cX0_given 9 (some .int), Cond.fieldLink RX0 135 "TicketScales$Customer" "kind" "I"]
def wsL_holds_r8 : List Cond := [Cond.fieldLink RX0 138 "TicketScales$Customer" "reading" "I", Cond.fieldLink RX0 145 "TicketScales$Customer" "count" "I", Cond.methodLink RX0 72 yX0_kindAt, Cond.instanceMethod yX0_kindAt, Cond.selects RX0 yX0_kindAt yX0_kindAt, Cond.code yX0_kindAt cX0_kindAt 2 (some (.object "TicketScales$Kind")), Cond.fieldLink RX0 11 "TicketScales$Counter" "kinds" "[LTicketScales$Kind;", Cond.methodLink RX0 116 yX7_guessFrom, Cond.instanceMethod yX7_guessFrom, Cond.selects RX7 yX7_guessFrom yX7_guessFrom, Cond.initialized RX7, Cond.code yX7_guessFrom cX7_guessFrom 6 (some .int), Cond.constant RX7 57 (-100009), Cond.fieldLink RX7 58 "TicketScales$Kind" "weight" "I", Cond.methodLink RX7 64 Lib.Math.min.name, Cond.methodLink RX7 35 Lib.Math.max.name, Cond.static Lib.Math.max.name, Cond.code Lib.Math.max.name Lib.Math.max.code 2 (some .int), Cond.methodLink RX7 50 yX7_leastCount, Cond.instanceMethod yX7_leastCount, Cond.selects RX7 yX7_leastCount yX7_leastCount, Cond.code yX7_leastCount cX7_leastCount 5 (some .int), Cond.fieldLink RX7 15 "TicketScales$Scale" "limit" "I", Cond.methodLink RX7 21 yX4_heaviest]
def wsL_holds_r9 : List Cond := [Cond.instanceMethod yX4_heaviest, Cond.selects RX4 yX4_heaviest yX4_heaviest, Cond.initialized RX4, Cond.code yX4_heaviest cX4_heaviest 1 (some .int), Cond.fieldLink RX4 7 "TicketScales$Kind" "weight" "I", Cond.fieldLink RX4 13 "TicketScales$Kind" "spread" "I", Cond.methodLink RX7 27 yX7_loadFrom, Cond.instanceMethod yX7_loadFrom, Cond.selects RX7 yX7_loadFrom yX7_loadFrom, Cond.code yX7_loadFrom cX7_loadFrom 2 (some .int), Cond.fieldLink RX7 9 "TicketScales$Scale" "step" "I", Cond.methodLink RX7 54 yX7_greatestCount, Cond.instanceMethod yX7_greatestCount, Cond.selects RX7 yX7_greatestCount yX7_greatestCount, Cond.code yX7_greatestCount cX7_greatestCount 3 (some .int), Cond.methodLink RX7 40 yX7_shows, Cond.instanceMethod yX7_shows, Cond.selects RX7 yX7_shows yX7_shows, Cond.code yX7_shows cX7_shows 2 (some .boolean), Cond.methodLink RX7 44 yX7_loadTo, Cond.instanceMethod yX7_loadTo, Cond.selects RX7 yX7_loadTo yX7_loadTo, Cond.code yX7_loadTo cX7_loadTo 2 (some .int), Cond.methodLink RX7 47 yX4_lightest]
def wsL_holds_r10 : List Cond := [Cond.instanceMethod yX4_lightest, Cond.selects RX4 yX4_lightest yX4_lightest, Cond.code yX4_lightest cX4_lightest 1 (some .int), Cond.methodLink RX7 61 yX7_nearestCount, Cond.instanceMethod yX7_nearestCount, Cond.selects RX7 yX7_nearestCount yX7_nearestCount, Cond.code yX7_nearestCount cX7_nearestCount 5 (some .int), Cond.methodLink RL 43 yX9_would, Cond.instanceMethod yX9_would, Cond.selects RX9 yX9_would yX9_would, Cond.code yX9_would cX9_would 2 (some .int), Cond.methodLink RX9 203 yX0_given]
def wsL_holds : List Cond := .code yL_holds cL_holds 9 (some .boolean) :: ((wsL_holds_r1 ++ (wsL_holds_r2 ++ (wsL_holds_r3 ++ (wsL_holds_r4 ++ (wsL_holds_r5 ++ (wsL_holds_r6 ++ (wsL_holds_r7 ++ (wsL_holds_r8 ++ (wsL_holds_r9 ++ wsL_holds_r10))))))))) ++ wsX90 ++ wsX30 ++ wsX60 ++ wsX80 ++ wsX00 ++ wsX70 ++ wsX10 ++ wsX50 ++ wsX40)
def wsL_apart_r1 : List Cond := [Cond.methodLink RL 47 yX9_apartUpTo, Cond.instanceMethod yX9_apartUpTo, Cond.selects RX9 yX9_apartUpTo yX9_apartUpTo, Cond.initialized RX9, Cond.code yX9_apartUpTo cX9_apartUpTo 3 (some .int), Cond.constant RX9 145 (-100001), Cond.fieldLink RX9 167 "TicketScales$Counter" "scale" "LTicketScales$Scale;", Cond.methodLink RX9 33 yX9_counter, Cond.instanceMethod yX9_counter, Cond.selects RX9 yX9_counter yX9_counter, Cond.code yX9_counter cX9_counter 1 (some (.object "TicketScales$Counter")), Cond.fieldLink RX9 10 "TicketScales" "history" "LTicketScales$History;", Cond.fieldLink RX9 86 "TicketScales$History" "now" "LTicketScales$State;", Cond.fieldLink RX9 222 "TicketScales$State" "counter" "LTicketScales$Counter;", Cond.methodLink RX9 137 yX0_kindAt, Cond.instanceMethod yX0_kindAt, Cond.selects RX0 yX0_kindAt yX0_kindAt, Cond.initialized RX0, Cond.code yX0_kindAt cX0_kindAt 2 (some (.object "TicketScales$Kind")), Cond.fieldLink RX0 11 "TicketScales$Counter" "kinds" "[LTicketScales$Kind;", Cond.static yX9_within, Cond.code yX9_within cX9_within 3 (some .boolean), Cond.methodLink RX9 191 yX7_lastApart, Cond.instanceMethod yX7_lastApart]
def wsL_apart_r2 : List Cond := [Cond.selects RX7 yX7_lastApart yX7_lastApart, Cond.initialized RX7, Cond.code yX7_lastApart cX7_lastApart 3 (some .int), Cond.fieldLink RX7 9 "TicketScales$Scale" "step" "I", Cond.methodLink RX7 70 yX7_apartFromNext, Cond.instanceMethod yX7_apartFromNext, Cond.selects RX7 yX7_apartFromNext yX7_apartFromNext, Cond.code yX7_apartFromNext cX7_apartFromNext 6 (some .boolean), Cond.fieldLink RX7 15 "TicketScales$Scale" "limit" "I", Cond.methodLink RX7 21 yX4_heaviest, Cond.instanceMethod yX4_heaviest, Cond.selects RX4 yX4_heaviest yX4_heaviest, Cond.initialized RX4, Cond.code yX4_heaviest cX4_heaviest 1 (some .int), Cond.fieldLink RX4 7 "TicketScales$Kind" "weight" "I", Cond.fieldLink RX4 13 "TicketScales$Kind" "spread" "I", Cond.static yX9_readingAt, Cond.code yX9_readingAt cX9_readingAt 2 (some .int), Cond.methodLink RX9 235 Lib.Math.max.name, Cond.static Lib.Math.max.name, Cond.initialized "java/lang/Math", Cond.code Lib.Math.max.name Lib.Math.max.code 2 (some .int), Cond.methodLink RX9 232 yX9_quotient, Cond.static yX9_quotient]
def wsL_apart_r3 : List Cond := [Cond.code yX9_quotient cX9_quotient 2 (some .int), Cond.methodLink RX9 227 yJ9_floorDiv_7cf53, Cond.static yJ9_floorDiv_7cf53, Cond.initialized RJ9, Cond.code yJ9_floorDiv_7cf53 cJ9_floorDiv_7cf53 3 (some .int), Cond.methodLink RX7 47 yX4_lightest, Cond.instanceMethod yX4_lightest, Cond.selects RX4 yX4_lightest yX4_lightest, Cond.code yX4_lightest cX4_lightest 1 (some .int), Cond.methodLink RL 50 yX9_bestStep, Cond.instanceMethod yX9_bestStep, Cond.selects RX9 yX9_bestStep yX9_bestStep, Cond.code yX9_bestStep cX9_bestStep 4 (some .int), Cond.methodLink RX9 141 yX9_within, Cond.methodLink RX9 195 yX7_greatestStep, Cond.instanceMethod yX7_greatestStep, Cond.selects RX7 yX7_greatestStep yX7_greatestStep, Cond.code yX7_greatestStep cX7_greatestStep 4 (some .int), Cond.constant RX7 57 (-100009), Cond.methodLink RX7 74 yX7_allApart, Cond.instanceMethod yX7_allApart, Cond.selects RX7 yX7_allApart yX7_allApart, Cond.code yX7_allApart cX7_allApart 5 (some .boolean), Cond.methodLink RL 9 yX9_count]
def wsL_apart_r4 : List Cond := [Cond.instanceMethod yX9_count, Cond.selects RX9 yX9_count yX9_count, Cond.code yX9_count cX9_count 2 (some .int), Cond.fieldLink RX9 127 "TicketScales$History" "size" "I", Cond.fieldLink RX9 19 "TicketScales" "program" "LTicketScales$Program;", Cond.fieldLink RX9 131 "TicketScales$Program" "length" "I", Cond.methodLink RX9 124 yX8_slotsInUse, Cond.instanceMethod yX8_slotsInUse, Cond.selects RX8 yX8_slotsInUse yX8_slotsInUse, Cond.initialized RX8, Cond.code yX8_slotsInUse cX8_slotsInUse 6 (some .int), Cond.fieldLink RX8 22 "TicketScales$State" "filled" "[Z", Cond.methodLink RX9 134 yX0_number, Cond.instanceMethod yX0_number, Cond.selects RX0 yX0_number yX0_number, Cond.code yX0_number cX0_number 2 (some .int), Cond.fieldLink RX0 20 "TicketScales$Counter" "scale" "LTicketScales$Scale;", Cond.fieldLink RX0 83 "TicketScales$Scale" "step" "I", Cond.fieldLink RX0 86 "TicketScales$Scale" "limit" "I", Cond.fieldLink RX0 89 "TicketScales$Scale" "bias" "I", Cond.fieldLink RX0 62 "TicketScales$Counter" "rule" "I", Cond.fieldLink RX0 36 "TicketScales$Counter" "fee" "I", Cond.fieldLink RX0 56 "TicketScales$Counter" "customerCount" "I", Cond.fieldLink RX0 59 "TicketScales$Counter" "prizeCount" "I"]
def wsL_apart_r5 : List Cond := [Cond.fieldLink RX0 65 "TicketScales$Counter" "gift" "I", Cond.constant RX0 76 (-100001), Cond.methodLink RX0 176 yX0_keptWeighings, Cond.instanceMethod yX0_keptWeighings, Cond.selects RX0 yX0_keptWeighings yX0_keptWeighings, Cond.code yX0_keptWeighings cX0_keptWeighings 6 (some .int), Cond.fieldLink RX0 26 "TicketScales$Counter" "customers" "[LTicketScales$Customer;", Cond.fieldLink RX0 127 "TicketScales$Customer" "kept" "Z", Cond.methodLink RX0 180 yX0_allPoints, Cond.instanceMethod yX0_allPoints, Cond.selects RX0 yX0_allPoints yX0_allPoints, Cond.code yX0_allPoints cX0_allPoints 6 (some .int), Cond.fieldLink RX0 110 "TicketScales$Customer" "points" "I", Cond.methodLink RX0 183 yX0_allStocks, Cond.instanceMethod yX0_allStocks, Cond.selects RX0 yX0_allStocks yX0_allStocks, Cond.code yX0_allStocks cX0_allStocks 6 (some .int), Cond.fieldLink RX0 32 "TicketScales$Counter" "prizes" "[LTicketScales$Prize;", Cond.fieldLink RX0 167 "TicketScales$Prize" "stock" "I", Cond.methodLink RL 53 yX9_kind, Cond.instanceMethod yX9_kind, Cond.selects RX9 yX9_kind yX9_kind, Cond.code yX9_kind cX9_kind 4 (some .int), Cond.fieldLink RX9 146 "TicketScales$Kind" "weight" "I"]
def wsL_apart_r6 : List Cond := [Cond.fieldLink RX9 151 "TicketScales$Kind" "spread" "I", Cond.methodLink RL 15 yX9_read, Cond.instanceMethod yX9_read, Cond.selects RX9 yX9_read yX9_read, Cond.code yX9_read cX9_read 2 (some .int), Cond.constant RX9 166 (3000000), Cond.fieldLink RX9 171 "TicketScales$Scale" "step" "I", Cond.methodLink RX9 176 yX9_readingAt, Cond.methodLink RL 18 yX9_allowed, Cond.instanceMethod yX9_allowed, Cond.selects RX9 yX9_allowed yX9_allowed, Cond.code yX9_allowed cX9_allowed 7 (some .int), Cond.constant RX9 186 (-100009), Cond.methodLink RX9 179 yX7_leastCount, Cond.instanceMethod yX7_leastCount, Cond.selects RX7 yX7_leastCount yX7_leastCount, Cond.code yX7_leastCount cX7_leastCount 5 (some .int), Cond.methodLink RX7 35 Lib.Math.max.name, Cond.methodLink RX7 27 yX7_loadFrom, Cond.instanceMethod yX7_loadFrom, Cond.selects RX7 yX7_loadFrom yX7_loadFrom, Cond.code yX7_loadFrom cX7_loadFrom 2 (some .int), Cond.methodLink RX9 183 yX7_greatestCount, Cond.instanceMethod yX7_greatestCount]
def wsL_apart_r7 : List Cond := [Cond.selects RX7 yX7_greatestCount yX7_greatestCount, Cond.code yX7_greatestCount cX7_greatestCount 3 (some .int), Cond.methodLink RX7 40 yX7_shows, Cond.instanceMethod yX7_shows, Cond.selects RX7 yX7_shows yX7_shows, Cond.code yX7_shows cX7_shows 2 (some .boolean), Cond.methodLink RX7 44 yX7_loadTo, Cond.instanceMethod yX7_loadTo, Cond.selects RX7 yX7_loadTo yX7_loadTo, Cond.code yX7_loadTo cX7_loadTo 2 (some .int), Cond.methodLink RL 56 yX9_setScale, Cond.instanceMethod yX9_setScale, Cond.selects RX9 yX9_setScale yX9_setScale, Cond.code yX9_setScale cX9_setScale 3 (some .int), Cond.methodLink RX9 30 yX3_prepare, Cond.instanceMethod yX3_prepare, Cond.selects RX3 yX3_prepare yX3_prepare, Cond.initialized RX3, Cond.code yX3_prepare cX3_prepare 1 none, Cond.fieldLink RX3 22 "TicketScales$History" "spare" "LTicketScales$State;", Cond.fieldLink RX3 18 "TicketScales$History" "now" "LTicketScales$State;", Cond.methodLink RX3 25 yX8_copyFrom, Cond.instanceMethod yX8_copyFrom, Cond.selects RX8 yX8_copyFrom yX8_copyFrom]
def wsL_apart_r8 : List Cond := [Cond.code yX8_copyFrom cX8_copyFrom 3 none, Cond.fieldLink RX8 12 "TicketScales$State" "counter" "LTicketScales$Counter;", Cond.fieldLink RX8 18 "TicketScales$State" "slots" "[LTicketScales$Counter;", Cond.methodLink RX8 26 yX0_copyFrom, Cond.instanceMethod yX0_copyFrom, Cond.selects RX0 yX0_copyFrom yX0_copyFrom, Cond.code yX0_copyFrom cX0_copyFrom 3 none, Cond.methodLink RX0 43 yX4_copyFrom, Cond.instanceMethod yX4_copyFrom, Cond.selects RX4 yX4_copyFrom yX4_copyFrom, Cond.code yX4_copyFrom cX4_copyFrom 2 none, Cond.methodLink RX0 47 yX1_copyFrom, Cond.instanceMethod yX1_copyFrom, Cond.selects RX1 yX1_copyFrom yX1_copyFrom, Cond.initialized RX1, Cond.code yX1_copyFrom cX1_copyFrom 2 none, Cond.fieldLink RX1 9 "TicketScales$Customer" "points" "I", Cond.fieldLink RX1 15 "TicketScales$Customer" "kept" "Z", Cond.fieldLink RX1 19 "TicketScales$Customer" "kind" "I", Cond.fieldLink RX1 22 "TicketScales$Customer" "count" "I", Cond.fieldLink RX1 25 "TicketScales$Customer" "reading" "I", Cond.fieldLink RX1 28 "TicketScales$Customer" "guess" "I", Cond.methodLink RX0 50 yX5_copyFrom, Cond.instanceMethod yX5_copyFrom]
def wsL_apart_r9 : List Cond := [Cond.selects RX5 yX5_copyFrom yX5_copyFrom, Cond.initialized RX5, Cond.code yX5_copyFrom cX5_copyFrom 2 none, Cond.fieldLink RX5 9 "TicketScales$Prize" "price" "I", Cond.fieldLink RX5 15 "TicketScales$Prize" "weight" "I", Cond.fieldLink RX5 18 "TicketScales$Prize" "stock" "I", Cond.fieldLink RX5 21 "TicketScales$Prize" "mark" "I", Cond.fieldLink RX5 24 "TicketScales$Prize" "box" "I", Cond.fieldLink RX5 27 "TicketScales$Prize" "sold" "I", Cond.fieldLink RX5 30 "TicketScales$Prize" "boxes" "I", Cond.methodLink RX0 53 yX7_copyFrom, Cond.instanceMethod yX7_copyFrom, Cond.selects RX7 yX7_copyFrom yX7_copyFrom, Cond.code yX7_copyFrom cX7_copyFrom 2 none, Cond.fieldLink RX7 18 "TicketScales$Scale" "bias" "I", Cond.methodLink RX9 47 yX0_changeScale, Cond.instanceMethod yX0_changeScale, Cond.selects RX0 yX0_changeScale yX0_changeScale, Cond.code yX0_changeScale cX0_changeScale 3 (some .int), Cond.methodLink RX0 92 Lib.Math.min.name, Cond.static Lib.Math.min.name, Cond.code Lib.Math.min.name Lib.Math.min.code 2 (some .int), Cond.methodLink RX0 98 Lib.Math.max.name, Cond.methodLink RX9 43 yX3_settle]
def wsL_apart_r10 : List Cond := [Cond.instanceMethod yX3_settle, Cond.selects RX3 yX3_settle yX3_settle, Cond.code yX3_settle cX3_settle 2 (some .int), Cond.static yX9_isError, Cond.code yX9_isError cX9_isError 1 (some .boolean), Cond.constant RX9 225 (-100002), Cond.constant RX9 226 (-100003), Cond.methodLink RX3 33 yX3_recordSpare, Cond.instanceMethod yX3_recordSpare, Cond.selects RX3 yX3_recordSpare yX3_recordSpare, Cond.code yX3_recordSpare cX3_recordSpare 2 none, Cond.fieldLink RX3 36 "TicketScales$History" "size" "I", Cond.fieldLink RX3 11 "TicketScales$History" "earlier" "[LTicketScales$State;", Cond.methodLink RX3 40 yX3_dropOldest, Cond.instanceMethod yX3_dropOldest, Cond.selects RX3 yX3_dropOldest yX3_dropOldest, Cond.code yX3_dropOldest cX3_dropOldest 3 none, Cond.methodLink RL 59 yX9_undo, Cond.instanceMethod yX9_undo, Cond.selects RX9 yX9_undo yX9_undo, Cond.code yX9_undo cX9_undo 1 (some .int), Cond.methodLink RX9 98 yX3_stepBack, Cond.instanceMethod yX3_stepBack, Cond.selects RX3 yX3_stepBack yX3_stepBack]
def wsL_apart_r11 : List Cond := [Cond.code yX3_stepBack cX3_stepBack 3 (some .int), Cond.constant RX3 47 (-100002)]
def wsL_apart : List Cond := .code yL_apart cL_apart 10 (some .boolean) :: ((wsL_apart_r1 ++ (wsL_apart_r2 ++ (wsL_apart_r3 ++ (wsL_apart_r4 ++ (wsL_apart_r5 ++ (wsL_apart_r6 ++ (wsL_apart_r7 ++ (wsL_apart_r8 ++ (wsL_apart_r9 ++ (wsL_apart_r10 ++ wsL_apart_r11)))))))))) ++ wsX00 ++ wsX90 ++ wsX30 ++ wsX80 ++ wsX70 ++ wsX40 ++ wsX60 ++ wsX10 ++ wsX50)
def wsL_weighs_r1 : List Cond := [Cond.methodLink RL 53 yX9_kind, Cond.instanceMethod yX9_kind, Cond.selects RX9 yX9_kind yX9_kind, Cond.initialized RX9, Cond.code yX9_kind cX9_kind 4 (some .int), Cond.constant RX9 145 (-100001), Cond.fieldLink RX9 146 "TicketScales$Kind" "weight" "I", Cond.fieldLink RX9 151 "TicketScales$Kind" "spread" "I", Cond.methodLink RX9 33 yX9_counter, Cond.instanceMethod yX9_counter, Cond.selects RX9 yX9_counter yX9_counter, Cond.code yX9_counter cX9_counter 1 (some (.object "TicketScales$Counter")), Cond.fieldLink RX9 10 "TicketScales" "history" "LTicketScales$History;", Cond.fieldLink RX9 86 "TicketScales$History" "now" "LTicketScales$State;", Cond.fieldLink RX9 222 "TicketScales$State" "counter" "LTicketScales$Counter;", Cond.methodLink RX9 137 yX0_kindAt, Cond.instanceMethod yX0_kindAt, Cond.selects RX0 yX0_kindAt yX0_kindAt, Cond.initialized RX0, Cond.code yX0_kindAt cX0_kindAt 2 (some (.object "TicketScales$Kind")), Cond.fieldLink RX0 11 "TicketScales$Counter" "kinds" "[LTicketScales$Kind;", Cond.static yX9_within, Cond.code yX9_within cX9_within 3 (some .boolean), Cond.methodLink RX9 141 yX9_within]
def wsL_weighs_r2 : List Cond := [Cond.methodLink RL 26 yX9_customer, Cond.instanceMethod yX9_customer, Cond.selects RX9 yX9_customer yX9_customer, Cond.code yX9_customer cX9_customer 4 (some .int), Cond.methodLink RX9 154 yX0_customerAt, Cond.instanceMethod yX0_customerAt, Cond.selects RX0 yX0_customerAt yX0_customerAt, Cond.code yX0_customerAt cX0_customerAt 3 (some (.object "TicketScales$Customer")), Cond.fieldLink RX0 56 "TicketScales$Counter" "customerCount" "I", Cond.fieldLink RX0 26 "TicketScales$Counter" "customers" "[LTicketScales$Customer;", Cond.methodLink RX9 158 yX1_part, Cond.instanceMethod yX1_part, Cond.selects RX1 yX1_part yX1_part, Cond.initialized RX1, Cond.code yX1_part cX1_part 2 (some .int), Cond.constant RX1 45 (-100001), Cond.fieldLink RX1 9 "TicketScales$Customer" "points" "I", Cond.fieldLink RX1 15 "TicketScales$Customer" "kept" "Z", Cond.constant RX1 46 (-100009), Cond.fieldLink RX1 19 "TicketScales$Customer" "kind" "I", Cond.fieldLink RX1 22 "TicketScales$Customer" "count" "I", Cond.fieldLink RX1 25 "TicketScales$Customer" "reading" "I", Cond.fieldLink RX1 28 "TicketScales$Customer" "guess" "I", Cond.methodLink RL 9 yX9_count]
def wsL_weighs_r3 : List Cond := [Cond.instanceMethod yX9_count, Cond.selects RX9 yX9_count yX9_count, Cond.code yX9_count cX9_count 2 (some .int), Cond.fieldLink RX9 127 "TicketScales$History" "size" "I", Cond.fieldLink RX9 19 "TicketScales" "program" "LTicketScales$Program;", Cond.fieldLink RX9 131 "TicketScales$Program" "length" "I", Cond.methodLink RX9 124 yX8_slotsInUse, Cond.instanceMethod yX8_slotsInUse, Cond.selects RX8 yX8_slotsInUse yX8_slotsInUse, Cond.initialized RX8, Cond.code yX8_slotsInUse cX8_slotsInUse 6 (some .int), Cond.fieldLink RX8 22 "TicketScales$State" "filled" "[Z", Cond.methodLink RX9 134 yX0_number, Cond.instanceMethod yX0_number, Cond.selects RX0 yX0_number yX0_number, Cond.code yX0_number cX0_number 2 (some .int), Cond.fieldLink RX0 20 "TicketScales$Counter" "scale" "LTicketScales$Scale;", Cond.fieldLink RX0 83 "TicketScales$Scale" "step" "I", Cond.fieldLink RX0 86 "TicketScales$Scale" "limit" "I", Cond.fieldLink RX0 89 "TicketScales$Scale" "bias" "I", Cond.fieldLink RX0 62 "TicketScales$Counter" "rule" "I", Cond.fieldLink RX0 36 "TicketScales$Counter" "fee" "I", Cond.fieldLink RX0 59 "TicketScales$Counter" "prizeCount" "I", Cond.fieldLink RX0 65 "TicketScales$Counter" "gift" "I"]
def wsL_weighs_r4 : List Cond := [Cond.constant RX0 76 (-100001), Cond.methodLink RX0 176 yX0_keptWeighings, Cond.instanceMethod yX0_keptWeighings, Cond.selects RX0 yX0_keptWeighings yX0_keptWeighings, Cond.code yX0_keptWeighings cX0_keptWeighings 6 (some .int), Cond.fieldLink RX0 127 "TicketScales$Customer" "kept" "Z", Cond.methodLink RX0 180 yX0_allPoints, Cond.instanceMethod yX0_allPoints, Cond.selects RX0 yX0_allPoints yX0_allPoints, Cond.code yX0_allPoints cX0_allPoints 6 (some .int), Cond.fieldLink RX0 110 "TicketScales$Customer" "points" "I", Cond.methodLink RX0 183 yX0_allStocks, Cond.instanceMethod yX0_allStocks, Cond.selects RX0 yX0_allStocks yX0_allStocks, Cond.code yX0_allStocks cX0_allStocks 6 (some .int), Cond.fieldLink RX0 32 "TicketScales$Counter" "prizes" "[LTicketScales$Prize;", Cond.fieldLink RX0 167 "TicketScales$Prize" "stock" "I", Cond.methodLink RL 62 yX9_weigh, Cond.instanceMethod yX9_weigh, Cond.selects RX9 yX9_weigh yX9_weigh, Cond.code yX9_weigh cX9_weigh 5 (some .int), Cond.methodLink RX9 30 yX3_prepare, Cond.instanceMethod yX3_prepare, Cond.selects RX3 yX3_prepare yX3_prepare]
def wsL_weighs_r5 : List Cond := [Cond.initialized RX3, Cond.code yX3_prepare cX3_prepare 1 none, Cond.fieldLink RX3 22 "TicketScales$History" "spare" "LTicketScales$State;", Cond.fieldLink RX3 18 "TicketScales$History" "now" "LTicketScales$State;", Cond.methodLink RX3 25 yX8_copyFrom, Cond.instanceMethod yX8_copyFrom, Cond.selects RX8 yX8_copyFrom yX8_copyFrom, Cond.code yX8_copyFrom cX8_copyFrom 3 none, Cond.fieldLink RX8 12 "TicketScales$State" "counter" "LTicketScales$Counter;", Cond.fieldLink RX8 18 "TicketScales$State" "slots" "[LTicketScales$Counter;", Cond.methodLink RX8 26 yX0_copyFrom, Cond.instanceMethod yX0_copyFrom, Cond.selects RX0 yX0_copyFrom yX0_copyFrom, Cond.code yX0_copyFrom cX0_copyFrom 3 none, Cond.methodLink RX0 43 yX4_copyFrom, Cond.instanceMethod yX4_copyFrom, Cond.selects RX4 yX4_copyFrom yX4_copyFrom, Cond.initialized RX4, Cond.code yX4_copyFrom cX4_copyFrom 2 none, Cond.fieldLink RX4 7 "TicketScales$Kind" "weight" "I", Cond.fieldLink RX4 13 "TicketScales$Kind" "spread" "I", Cond.methodLink RX0 47 yX1_copyFrom, Cond.instanceMethod yX1_copyFrom, Cond.selects RX1 yX1_copyFrom yX1_copyFrom]
def wsL_weighs_r6 : List Cond := [Cond.code yX1_copyFrom cX1_copyFrom 2 none, Cond.methodLink RX0 50 yX5_copyFrom, Cond.instanceMethod yX5_copyFrom, Cond.selects RX5 yX5_copyFrom yX5_copyFrom, Cond.initialized RX5, Cond.code yX5_copyFrom cX5_copyFrom 2 none, Cond.fieldLink RX5 9 "TicketScales$Prize" "price" "I", Cond.fieldLink RX5 15 "TicketScales$Prize" "weight" "I", Cond.fieldLink RX5 18 "TicketScales$Prize" "stock" "I", Cond.fieldLink RX5 21 "TicketScales$Prize" "mark" "I", Cond.fieldLink RX5 24 "TicketScales$Prize" "box" "I", Cond.fieldLink RX5 27 "TicketScales$Prize" "sold" "I", Cond.fieldLink RX5 30 "TicketScales$Prize" "boxes" "I", Cond.methodLink RX0 53 yX7_copyFrom, Cond.instanceMethod yX7_copyFrom, Cond.selects RX7 yX7_copyFrom yX7_copyFrom, Cond.initialized RX7, Cond.code yX7_copyFrom cX7_copyFrom 2 none, Cond.fieldLink RX7 9 "TicketScales$Scale" "step" "I", Cond.fieldLink RX7 15 "TicketScales$Scale" "limit" "I", Cond.fieldLink RX7 18 "TicketScales$Scale" "bias" "I", Cond.methodLink RX9 66 yX0_weighBundle, Cond.instanceMethod yX0_weighBundle, Cond.selects RX0 yX0_weighBundle yX0_weighBundle]
def wsL_weighs_r7 : List Cond := [Cond.code yX0_weighBundle cX0_weighBundle 10 (some .int), Cond.fieldLink RX0 80 "TicketScales$Kind" "spread" "I", Cond.fieldLink RX0 77 "TicketScales$Kind" "weight" "I", Cond.methodLink RX0 106 yX0_customerAt, Cond.methodLink RX0 72 yX0_kindAt, Cond.static yX9_readingAt, Cond.code yX9_readingAt cX9_readingAt 2 (some .int), Cond.methodLink RX9 235 Lib.Math.max.name, Cond.static Lib.Math.max.name, Cond.initialized "java/lang/Math", Cond.code Lib.Math.max.name Lib.Math.max.code 2 (some .int), Cond.methodLink RX9 232 yX9_quotient, Cond.static yX9_quotient, Cond.code yX9_quotient cX9_quotient 2 (some .int), Cond.methodLink RX9 227 yJ9_floorDiv_7cf53, Cond.static yJ9_floorDiv_7cf53, Cond.initialized RJ9, Cond.code yJ9_floorDiv_7cf53 cJ9_floorDiv_7cf53 3 (some .int), Cond.methodLink RX0 116 yX7_guessFrom, Cond.instanceMethod yX7_guessFrom, Cond.selects RX7 yX7_guessFrom yX7_guessFrom, Cond.code yX7_guessFrom cX7_guessFrom 6 (some .int), Cond.constant RX7 57 (-100009), Cond.fieldLink RX7 58 "TicketScales$Kind" "weight" "I"]
def wsL_weighs_r8 : List Cond := [Cond.methodLink RX7 64 Lib.Math.min.name, Cond.static Lib.Math.min.name, Cond.code Lib.Math.min.name Lib.Math.min.code 2 (some .int), Cond.methodLink RX7 35 Lib.Math.max.name, Cond.methodLink RX7 50 yX7_leastCount, Cond.instanceMethod yX7_leastCount, Cond.selects RX7 yX7_leastCount yX7_leastCount, Cond.code yX7_leastCount cX7_leastCount 5 (some .int), Cond.methodLink RX7 21 yX4_heaviest, Cond.instanceMethod yX4_heaviest, Cond.selects RX4 yX4_heaviest yX4_heaviest, Cond.code yX4_heaviest cX4_heaviest 1 (some .int), Cond.methodLink RX7 27 yX7_loadFrom, Cond.instanceMethod yX7_loadFrom, Cond.selects RX7 yX7_loadFrom yX7_loadFrom, Cond.code yX7_loadFrom cX7_loadFrom 2 (some .int), Cond.methodLink RX7 54 yX7_greatestCount, Cond.instanceMethod yX7_greatestCount, Cond.selects RX7 yX7_greatestCount yX7_greatestCount, Cond.code yX7_greatestCount cX7_greatestCount 3 (some .int), Cond.methodLink RX7 40 yX7_shows, Cond.instanceMethod yX7_shows, Cond.selects RX7 yX7_shows yX7_shows, Cond.code yX7_shows cX7_shows 2 (some .boolean)]
def wsL_weighs_r9 : List Cond := [Cond.methodLink RX7 44 yX7_loadTo, Cond.instanceMethod yX7_loadTo, Cond.selects RX7 yX7_loadTo yX7_loadTo, Cond.code yX7_loadTo cX7_loadTo 2 (some .int), Cond.methodLink RX7 47 yX4_lightest, Cond.instanceMethod yX4_lightest, Cond.selects RX4 yX4_lightest yX4_lightest, Cond.code yX4_lightest cX4_lightest 1 (some .int), Cond.methodLink RX7 61 yX7_nearestCount, Cond.instanceMethod yX7_nearestCount, Cond.selects RX7 yX7_nearestCount yX7_nearestCount, Cond.code yX7_nearestCount cX7_nearestCount 5 (some .int), Cond.methodLink RX0 120 yX1_gain, Cond.instanceMethod yX1_gain, Cond.selects RX1 yX1_gain yX1_gain, Cond.code yX1_gain cX1_gain 2 none, Cond.methodLink RX1 37 Lib.Math.max.name, Cond.methodLink RX0 123 yX1_keep, Cond.instanceMethod yX1_keep, Cond.selects RX1 yX1_keep yX1_keep, Cond.code yX1_keep cX1_keep 5 none, Cond.methodLink RX9 43 yX3_settle, Cond.instanceMethod yX3_settle, Cond.selects RX3 yX3_settle yX3_settle]
def wsL_weighs_r10 : List Cond := [Cond.code yX3_settle cX3_settle 2 (some .int), Cond.static yX9_isError, Cond.code yX9_isError cX9_isError 1 (some .boolean), Cond.constant RX9 225 (-100002), Cond.constant RX9 226 (-100003), Cond.methodLink RX3 33 yX3_recordSpare, Cond.instanceMethod yX3_recordSpare, Cond.selects RX3 yX3_recordSpare yX3_recordSpare, Cond.code yX3_recordSpare cX3_recordSpare 2 none, Cond.fieldLink RX3 36 "TicketScales$History" "size" "I", Cond.fieldLink RX3 11 "TicketScales$History" "earlier" "[LTicketScales$State;", Cond.methodLink RX3 40 yX3_dropOldest, Cond.instanceMethod yX3_dropOldest, Cond.selects RX3 yX3_dropOldest yX3_dropOldest, Cond.code yX3_dropOldest cX3_dropOldest 3 none, Cond.methodLink RL 18 yX9_allowed, Cond.instanceMethod yX9_allowed, Cond.selects RX9 yX9_allowed yX9_allowed, Cond.code yX9_allowed cX9_allowed 7 (some .int), Cond.constant RX9 166 (3000000), Cond.fieldLink RX9 167 "TicketScales$Counter" "scale" "LTicketScales$Scale;", Cond.constant RX9 186 (-100009), Cond.methodLink RX9 179 yX7_leastCount, Cond.methodLink RX9 183 yX7_greatestCount]
def wsL_weighs_r11 : List Cond := [Cond.methodLink RL 23 yX9_guess, Cond.instanceMethod yX9_guess, Cond.selects RX9 yX9_guess yX9_guess, Cond.code yX9_guess cX9_guess 5 (some .int), Cond.methodLink RX9 187 yX7_guessFrom]
def wsL_weighs : List Cond := .code yL_weighs cL_weighs 10 (some .boolean) :: ((wsL_weighs_r1 ++ (wsL_weighs_r2 ++ (wsL_weighs_r3 ++ (wsL_weighs_r4 ++ (wsL_weighs_r5 ++ (wsL_weighs_r6 ++ (wsL_weighs_r7 ++ (wsL_weighs_r8 ++ (wsL_weighs_r9 ++ (wsL_weighs_r10 ++ wsL_weighs_r11)))))))))) ++ wsX40 ++ wsX90 ++ wsX30 ++ wsX80 ++ wsX00 ++ wsX10 ++ wsX60 ++ wsX70 ++ wsX50)
def wsL_claims_r1 : List Cond := [Cond.constant RL 69 (-100002), Cond.constant RL 22 (-100009), Cond.methodLink RL 9 yX9_count, Cond.instanceMethod yX9_count, Cond.selects RX9 yX9_count yX9_count, Cond.initialized RX9, Cond.code yX9_count cX9_count 2 (some .int), Cond.fieldLink RX9 10 "TicketScales" "history" "LTicketScales$History;", Cond.fieldLink RX9 86 "TicketScales$History" "now" "LTicketScales$State;", Cond.fieldLink RX9 127 "TicketScales$History" "size" "I", Cond.fieldLink RX9 19 "TicketScales" "program" "LTicketScales$Program;", Cond.fieldLink RX9 131 "TicketScales$Program" "length" "I", Cond.methodLink RX9 124 yX8_slotsInUse, Cond.instanceMethod yX8_slotsInUse, Cond.selects RX8 yX8_slotsInUse yX8_slotsInUse, Cond.initialized RX8, Cond.code yX8_slotsInUse cX8_slotsInUse 6 (some .int), Cond.fieldLink RX8 22 "TicketScales$State" "filled" "[Z", Cond.methodLink RX9 33 yX9_counter, Cond.instanceMethod yX9_counter, Cond.selects RX9 yX9_counter yX9_counter, Cond.code yX9_counter cX9_counter 1 (some (.object "TicketScales$Counter")), Cond.fieldLink RX9 222 "TicketScales$State" "counter" "LTicketScales$Counter;", Cond.methodLink RX9 134 yX0_number]
def wsL_claims_r2 : List Cond := [Cond.instanceMethod yX0_number, Cond.selects RX0 yX0_number yX0_number, Cond.initialized RX0, Cond.code yX0_number cX0_number 2 (some .int), Cond.fieldLink RX0 20 "TicketScales$Counter" "scale" "LTicketScales$Scale;", Cond.fieldLink RX0 83 "TicketScales$Scale" "step" "I", Cond.fieldLink RX0 86 "TicketScales$Scale" "limit" "I", Cond.fieldLink RX0 89 "TicketScales$Scale" "bias" "I", Cond.fieldLink RX0 62 "TicketScales$Counter" "rule" "I", Cond.fieldLink RX0 36 "TicketScales$Counter" "fee" "I", Cond.fieldLink RX0 56 "TicketScales$Counter" "customerCount" "I", Cond.fieldLink RX0 59 "TicketScales$Counter" "prizeCount" "I", Cond.fieldLink RX0 65 "TicketScales$Counter" "gift" "I", Cond.constant RX0 76 (-100001), Cond.methodLink RX0 176 yX0_keptWeighings, Cond.instanceMethod yX0_keptWeighings, Cond.selects RX0 yX0_keptWeighings yX0_keptWeighings, Cond.code yX0_keptWeighings cX0_keptWeighings 6 (some .int), Cond.fieldLink RX0 26 "TicketScales$Counter" "customers" "[LTicketScales$Customer;", Cond.fieldLink RX0 127 "TicketScales$Customer" "kept" "Z", Cond.methodLink RX0 180 yX0_allPoints, Cond.instanceMethod yX0_allPoints, Cond.selects RX0 yX0_allPoints yX0_allPoints, Cond.code yX0_allPoints cX0_allPoints 6 (some .int)]
def wsL_claims_r3 : List Cond := [Cond.fieldLink RX0 110 "TicketScales$Customer" "points" "I", Cond.methodLink RX0 183 yX0_allStocks, Cond.instanceMethod yX0_allStocks, Cond.selects RX0 yX0_allStocks yX0_allStocks, Cond.code yX0_allStocks cX0_allStocks 6 (some .int), Cond.fieldLink RX0 32 "TicketScales$Counter" "prizes" "[LTicketScales$Prize;", Cond.fieldLink RX0 167 "TicketScales$Prize" "stock" "I", Cond.methodLink RL 26 yX9_customer, Cond.instanceMethod yX9_customer, Cond.selects RX9 yX9_customer yX9_customer, Cond.code yX9_customer cX9_customer 4 (some .int), Cond.constant RX9 145 (-100001), Cond.methodLink RX9 154 yX0_customerAt, Cond.instanceMethod yX0_customerAt, Cond.selects RX0 yX0_customerAt yX0_customerAt, Cond.code yX0_customerAt cX0_customerAt 3 (some (.object "TicketScales$Customer")), Cond.static yX9_within, Cond.code yX9_within cX9_within 3 (some .boolean), Cond.methodLink RX9 158 yX1_part, Cond.instanceMethod yX1_part, Cond.selects RX1 yX1_part yX1_part, Cond.initialized RX1, Cond.code yX1_part cX1_part 2 (some .int), Cond.constant RX1 45 (-100001)]
def wsL_claims_r4 : List Cond := [Cond.fieldLink RX1 9 "TicketScales$Customer" "points" "I", Cond.fieldLink RX1 15 "TicketScales$Customer" "kept" "Z", Cond.constant RX1 46 (-100009), Cond.fieldLink RX1 19 "TicketScales$Customer" "kind" "I", Cond.fieldLink RX1 22 "TicketScales$Customer" "count" "I", Cond.fieldLink RX1 25 "TicketScales$Customer" "reading" "I", Cond.fieldLink RX1 28 "TicketScales$Customer" "guess" "I", Cond.methodLink RL 66 yX9_claim, Cond.instanceMethod yX9_claim, Cond.selects RX9 yX9_claim yX9_claim, Cond.code yX9_claim cX9_claim 3 (some .int), Cond.methodLink RX9 30 yX3_prepare, Cond.instanceMethod yX3_prepare, Cond.selects RX3 yX3_prepare yX3_prepare, Cond.initialized RX3, Cond.code yX3_prepare cX3_prepare 1 none, Cond.fieldLink RX3 22 "TicketScales$History" "spare" "LTicketScales$State;", Cond.fieldLink RX3 18 "TicketScales$History" "now" "LTicketScales$State;", Cond.methodLink RX3 25 yX8_copyFrom, Cond.instanceMethod yX8_copyFrom, Cond.selects RX8 yX8_copyFrom yX8_copyFrom, Cond.code yX8_copyFrom cX8_copyFrom 3 none, Cond.fieldLink RX8 12 "TicketScales$State" "counter" "LTicketScales$Counter;", Cond.fieldLink RX8 18 "TicketScales$State" "slots" "[LTicketScales$Counter;"]
def wsL_claims_r5 : List Cond := [Cond.methodLink RX8 26 yX0_copyFrom, Cond.instanceMethod yX0_copyFrom, Cond.selects RX0 yX0_copyFrom yX0_copyFrom, Cond.code yX0_copyFrom cX0_copyFrom 3 none, Cond.fieldLink RX0 11 "TicketScales$Counter" "kinds" "[LTicketScales$Kind;", Cond.methodLink RX0 43 yX4_copyFrom, Cond.instanceMethod yX4_copyFrom, Cond.selects RX4 yX4_copyFrom yX4_copyFrom, Cond.initialized RX4, Cond.code yX4_copyFrom cX4_copyFrom 2 none, Cond.fieldLink RX4 7 "TicketScales$Kind" "weight" "I", Cond.fieldLink RX4 13 "TicketScales$Kind" "spread" "I", Cond.methodLink RX0 47 yX1_copyFrom, Cond.instanceMethod yX1_copyFrom, Cond.selects RX1 yX1_copyFrom yX1_copyFrom, Cond.code yX1_copyFrom cX1_copyFrom 2 none, Cond.methodLink RX0 50 yX5_copyFrom, Cond.instanceMethod yX5_copyFrom, Cond.selects RX5 yX5_copyFrom yX5_copyFrom, Cond.initialized RX5, Cond.code yX5_copyFrom cX5_copyFrom 2 none, Cond.fieldLink RX5 9 "TicketScales$Prize" "price" "I", Cond.fieldLink RX5 15 "TicketScales$Prize" "weight" "I", Cond.fieldLink RX5 18 "TicketScales$Prize" "stock" "I"]
def wsL_claims_r6 : List Cond := [Cond.fieldLink RX5 21 "TicketScales$Prize" "mark" "I", Cond.fieldLink RX5 24 "TicketScales$Prize" "box" "I", Cond.fieldLink RX5 27 "TicketScales$Prize" "sold" "I", Cond.fieldLink RX5 30 "TicketScales$Prize" "boxes" "I", Cond.methodLink RX0 53 yX7_copyFrom, Cond.instanceMethod yX7_copyFrom, Cond.selects RX7 yX7_copyFrom yX7_copyFrom, Cond.initialized RX7, Cond.code yX7_copyFrom cX7_copyFrom 2 none, Cond.fieldLink RX7 9 "TicketScales$Scale" "step" "I", Cond.fieldLink RX7 15 "TicketScales$Scale" "limit" "I", Cond.fieldLink RX7 18 "TicketScales$Scale" "bias" "I", Cond.methodLink RX9 70 yX0_settleClaim, Cond.instanceMethod yX0_settleClaim, Cond.selects RX0 yX0_settleClaim yX0_settleClaim, Cond.code yX0_settleClaim cX0_settleClaim 5 (some .int), Cond.fieldLink RX0 131 "TicketScales$Customer" "guess" "I", Cond.constant RX0 134 (-100002), Cond.fieldLink RX0 135 "TicketScales$Customer" "kind" "I", Cond.fieldLink RX0 138 "TicketScales$Customer" "reading" "I", Cond.fieldLink RX0 145 "TicketScales$Customer" "count" "I", Cond.methodLink RX0 106 yX0_customerAt, Cond.methodLink RX0 72 yX0_kindAt, Cond.instanceMethod yX0_kindAt]
def wsL_claims_r7 : List Cond := [Cond.selects RX0 yX0_kindAt yX0_kindAt, Cond.code yX0_kindAt cX0_kindAt 2 (some (.object "TicketScales$Kind")), Cond.methodLink RX0 141 yX0_allows, Cond.instanceMethod yX0_allows, Cond.selects RX0 yX0_allows yX0_allows, Cond.code yX0_allows cX0_allows 4 (some .boolean), Cond.methodLink RX0 152 yX7_leastCount, Cond.instanceMethod yX7_leastCount, Cond.selects RX7 yX7_leastCount yX7_leastCount, Cond.code yX7_leastCount cX7_leastCount 5 (some .int), Cond.methodLink RX7 35 Lib.Math.max.name, Cond.static Lib.Math.max.name, Cond.initialized "java/lang/Math", Cond.code Lib.Math.max.name Lib.Math.max.code 2 (some .int), Cond.methodLink RX7 21 yX4_heaviest, Cond.instanceMethod yX4_heaviest, Cond.selects RX4 yX4_heaviest yX4_heaviest, Cond.code yX4_heaviest cX4_heaviest 1 (some .int), Cond.methodLink RX7 27 yX7_loadFrom, Cond.instanceMethod yX7_loadFrom, Cond.selects RX7 yX7_loadFrom yX7_loadFrom, Cond.code yX7_loadFrom cX7_loadFrom 2 (some .int), Cond.static yX9_quotient, Cond.code yX9_quotient cX9_quotient 2 (some .int)]
def wsL_claims_r8 : List Cond := [Cond.methodLink RX9 227 yJ9_floorDiv_7cf53, Cond.static yJ9_floorDiv_7cf53, Cond.initialized RJ9, Cond.code yJ9_floorDiv_7cf53 cJ9_floorDiv_7cf53 3 (some .int), Cond.methodLink RX0 156 yX7_greatestCount, Cond.instanceMethod yX7_greatestCount, Cond.selects RX7 yX7_greatestCount yX7_greatestCount, Cond.code yX7_greatestCount cX7_greatestCount 3 (some .int), Cond.methodLink RX7 40 yX7_shows, Cond.instanceMethod yX7_shows, Cond.selects RX7 yX7_shows yX7_shows, Cond.code yX7_shows cX7_shows 2 (some .boolean), Cond.methodLink RX7 44 yX7_loadTo, Cond.instanceMethod yX7_loadTo, Cond.selects RX7 yX7_loadTo yX7_loadTo, Cond.code yX7_loadTo cX7_loadTo 2 (some .int), Cond.methodLink RX7 47 yX4_lightest, Cond.instanceMethod yX4_lightest, Cond.selects RX4 yX4_lightest yX4_lightest, Cond.code yX4_lightest cX4_lightest 1 (some .int), Cond.methodLink RX0 120 yX1_gain, Cond.instanceMethod yX1_gain, Cond.selects RX1 yX1_gain yX1_gain, Cond.code yX1_gain cX1_gain 2 none]
def wsL_claims_r9 : List Cond := [Cond.methodLink RX1 37 Lib.Math.max.name, Cond.methodLink RX0 148 yX1_isNearer, Cond.instanceMethod yX1_isNearer, Cond.selects RX1 yX1_isNearer yX1_isNearer, Cond.code yX1_isNearer cX1_isNearer 2 (some .boolean), Cond.methodLink RX1 31 Lib.Math.abs.name, Cond.static Lib.Math.abs.name, Cond.code Lib.Math.abs.name Lib.Math.abs.code 1 (some .int), Cond.methodLink RX9 43 yX3_settle, Cond.instanceMethod yX3_settle, Cond.selects RX3 yX3_settle yX3_settle, Cond.code yX3_settle cX3_settle 2 (some .int), Cond.static yX9_isError, Cond.code yX9_isError cX9_isError 1 (some .boolean), Cond.constant RX9 225 (-100002), Cond.constant RX9 226 (-100003), Cond.methodLink RX3 33 yX3_recordSpare, Cond.instanceMethod yX3_recordSpare, Cond.selects RX3 yX3_recordSpare yX3_recordSpare, Cond.code yX3_recordSpare cX3_recordSpare 2 none, Cond.fieldLink RX3 36 "TicketScales$History" "size" "I", Cond.fieldLink RX3 11 "TicketScales$History" "earlier" "[LTicketScales$State;", Cond.methodLink RX3 40 yX3_dropOldest, Cond.instanceMethod yX3_dropOldest]
def wsL_claims_r10 : List Cond := [Cond.selects RX3 yX3_dropOldest yX3_dropOldest, Cond.code yX3_dropOldest cX3_dropOldest 3 none]
def wsL_claims : List Cond := .code yL_claims cL_claims 8 (some .boolean) :: ((wsL_claims_r1 ++ (wsL_claims_r2 ++ (wsL_claims_r3 ++ (wsL_claims_r4 ++ (wsL_claims_r5 ++ (wsL_claims_r6 ++ (wsL_claims_r7 ++ (wsL_claims_r8 ++ (wsL_claims_r9 ++ wsL_claims_r10))))))))) ++ wsX90 ++ wsX30 ++ wsX60 ++ wsX80 ++ wsX00 ++ wsX70 ++ wsX10 ++ wsX50 ++ wsX40)
def wsL_law_r1 : List Cond := [Cond.classLink RL 10 RX9, Cond.instantiable RX9 3, Cond.initialized RX9, Cond.constant RL 87 (65536), Cond.constant RL 69 (-100002), Cond.constant RL 108 (-100003), Cond.constant RL 109 (40000), Cond.constant RL 22 (-100009), Cond.constant RL 46 (100000), Cond.methodLink RL 70 yX9_init, Cond.instanceMethod yX9_init, Cond.code yX9_init cX9_init 1 none, Cond.methodLink RX9 1 objectInit, Cond.instanceMethod objectInit, Cond.code objectInit ⟨#[0xb1]⟩ 1 none, Cond.classLink RX9 7 RX3, Cond.instantiable RX3 4, Cond.initialized RX3, Cond.fieldLink RX9 10 "TicketScales" "history" "LTicketScales$History;", Cond.classLink RX9 16 RX6, Cond.instantiable RX6 6, Cond.initialized RX6, Cond.fieldLink RX9 19 "TicketScales" "program" "LTicketScales$Program;", Cond.classLink RX9 23 RX5]
def wsL_law_r2 : List Cond := [Cond.instantiable RX5 7, Cond.initialized RX5, Cond.fieldLink RX9 26 "TicketScales" "trial" "LTicketScales$Prize;", Cond.methodLink RX9 9 yX3_init, Cond.instanceMethod yX3_init, Cond.code yX3_init cX3_init 2 none, Cond.methodLink RX3 3 objectInit, Cond.classLink RX3 9 RX8, Cond.fieldLink RX3 11 "TicketScales$History" "earlier" "[LTicketScales$State;", Cond.instantiable RX8 3, Cond.initialized RX8, Cond.fieldLink RX3 18 "TicketScales$History" "now" "LTicketScales$State;", Cond.fieldLink RX3 22 "TicketScales$History" "spare" "LTicketScales$State;", Cond.methodLink RX3 17 yX8_init, Cond.instanceMethod yX8_init, Cond.code yX8_init cX8_init 2 none, Cond.methodLink RX8 3 objectInit, Cond.classLink RX8 9 RX0, Cond.instantiable RX0 9, Cond.initialized RX0, Cond.fieldLink RX8 12 "TicketScales$State" "counter" "LTicketScales$Counter;", Cond.fieldLink RX8 18 "TicketScales$State" "slots" "[LTicketScales$Counter;", Cond.arrayClass .boolean, Cond.fieldLink RX8 22 "TicketScales$State" "filled" "[Z"]
def wsL_law_r3 : List Cond := [Cond.methodLink RX8 11 yX0_init, Cond.instanceMethod yX0_init, Cond.code yX0_init cX0_init 2 none, Cond.methodLink RX0 3 objectInit, Cond.classLink RX0 9 RX4, Cond.fieldLink RX0 11 "TicketScales$Counter" "kinds" "[LTicketScales$Kind;", Cond.classLink RX0 17 RX7, Cond.instantiable RX7 3, Cond.initialized RX7, Cond.fieldLink RX0 20 "TicketScales$Counter" "scale" "LTicketScales$Scale;", Cond.classLink RX0 24 RX1, Cond.fieldLink RX0 26 "TicketScales$Counter" "customers" "[LTicketScales$Customer;", Cond.classLink RX0 30 RX5, Cond.fieldLink RX0 32 "TicketScales$Counter" "prizes" "[LTicketScales$Prize;", Cond.fieldLink RX0 36 "TicketScales$Counter" "fee" "I", Cond.instantiable RX4 2, Cond.initialized RX4, Cond.instantiable RX1 6, Cond.initialized RX1, Cond.instanceMethod yX7_init, Cond.code yX7_init cX7_init 1 none, Cond.methodLink RX7 3 objectInit, Cond.fieldLink RX7 9 "TicketScales$Scale" "step" "I", Cond.fieldLink RX7 15 "TicketScales$Scale" "limit" "I"]
def wsL_law_r4 : List Cond := [Cond.instanceMethod yX4_init, Cond.code yX4_init cX4_init 1 none, Cond.methodLink RX4 1 objectInit, Cond.fieldLink RX4 7 "TicketScales$Kind" "weight" "I", Cond.fieldLink RX4 13 "TicketScales$Kind" "spread" "I", Cond.instanceMethod yX1_init, Cond.code yX1_init cX1_init 1 none, Cond.methodLink RX1 3 objectInit, Cond.instanceMethod yX5_init, Cond.code yX5_init cX5_init 1 none, Cond.methodLink RX5 3 objectInit, Cond.instanceMethod yX6_init, Cond.code yX6_init cX6_init 1 none, Cond.methodLink RX6 3 objectInit, Cond.arrayClass .char, Cond.fieldLink RX6 9 "TicketScales$Program" "signs" "[C", Cond.arrayClass .int, Cond.fieldLink RX6 15 "TicketScales$Program" "numbers" "[I", Cond.classLink RX6 19 RX2, Cond.instantiable RX2 4, Cond.initialized RX2, Cond.fieldLink RX6 22 "TicketScales$Program" "failure" "LTicketScales$Failure;", Cond.instanceMethod yX2_init, Cond.code yX2_init cX2_init 1 none]
def wsL_law_r5 : List Cond := [Cond.methodLink RX2 3 objectInit, Cond.methodLink RL 71 yL_holds, Cond.static yL_holds, Cond.initialized RL, Cond.code yL_holds cL_holds 9 (some .boolean), Cond.methodLink RL 9 yX9_count, Cond.instanceMethod yX9_count, Cond.selects RX9 yX9_count yX9_count, Cond.code yX9_count cX9_count 2 (some .int), Cond.fieldLink RX9 86 "TicketScales$History" "now" "LTicketScales$State;", Cond.fieldLink RX9 127 "TicketScales$History" "size" "I", Cond.fieldLink RX9 131 "TicketScales$Program" "length" "I", Cond.methodLink RX9 124 yX8_slotsInUse, Cond.instanceMethod yX8_slotsInUse, Cond.selects RX8 yX8_slotsInUse yX8_slotsInUse, Cond.code yX8_slotsInUse cX8_slotsInUse 6 (some .int), Cond.methodLink RX9 33 yX9_counter, Cond.instanceMethod yX9_counter, Cond.selects RX9 yX9_counter yX9_counter, Cond.code yX9_counter cX9_counter 1 (some (.object "TicketScales$Counter")), Cond.fieldLink RX9 222 "TicketScales$State" "counter" "LTicketScales$Counter;", Cond.methodLink RX9 134 yX0_number, Cond.instanceMethod yX0_number, Cond.selects RX0 yX0_number yX0_number]
def wsL_law_r6 : List Cond := [Cond.code yX0_number cX0_number 2 (some .int), Cond.fieldLink RX0 83 "TicketScales$Scale" "step" "I", Cond.fieldLink RX0 86 "TicketScales$Scale" "limit" "I", Cond.fieldLink RX0 89 "TicketScales$Scale" "bias" "I", Cond.fieldLink RX0 62 "TicketScales$Counter" "rule" "I", Cond.fieldLink RX0 56 "TicketScales$Counter" "customerCount" "I", Cond.fieldLink RX0 59 "TicketScales$Counter" "prizeCount" "I", Cond.fieldLink RX0 65 "TicketScales$Counter" "gift" "I", Cond.constant RX0 76 (-100001), Cond.methodLink RX0 176 yX0_keptWeighings, Cond.instanceMethod yX0_keptWeighings, Cond.selects RX0 yX0_keptWeighings yX0_keptWeighings, Cond.code yX0_keptWeighings cX0_keptWeighings 6 (some .int), Cond.fieldLink RX0 127 "TicketScales$Customer" "kept" "Z", Cond.methodLink RX0 180 yX0_allPoints, Cond.instanceMethod yX0_allPoints, Cond.selects RX0 yX0_allPoints yX0_allPoints, Cond.code yX0_allPoints cX0_allPoints 6 (some .int), Cond.fieldLink RX0 110 "TicketScales$Customer" "points" "I", Cond.methodLink RX0 183 yX0_allStocks, Cond.instanceMethod yX0_allStocks, Cond.selects RX0 yX0_allStocks yX0_allStocks, Cond.code yX0_allStocks cX0_allStocks 6 (some .int), Cond.fieldLink RX0 167 "TicketScales$Prize" "stock" "I"]
def wsL_law_r7 : List Cond := [Cond.methodLink RL 26 yX9_customer, Cond.instanceMethod yX9_customer, Cond.selects RX9 yX9_customer yX9_customer, Cond.code yX9_customer cX9_customer 4 (some .int), Cond.constant RX9 145 (-100001), Cond.methodLink RX9 154 yX0_customerAt, Cond.instanceMethod yX0_customerAt, Cond.selects RX0 yX0_customerAt yX0_customerAt, Cond.code yX0_customerAt cX0_customerAt 3 (some (.object "TicketScales$Customer")), Cond.static yX9_within, Cond.code yX9_within cX9_within 3 (some .boolean), Cond.methodLink RX9 158 yX1_part, Cond.instanceMethod yX1_part, Cond.selects RX1 yX1_part yX1_part, Cond.code yX1_part cX1_part 2 (some .int), Cond.constant RX1 45 (-100001), Cond.fieldLink RX1 9 "TicketScales$Customer" "points" "I", Cond.fieldLink RX1 15 "TicketScales$Customer" "kept" "Z", Cond.constant RX1 46 (-100009), Cond.fieldLink RX1 19 "TicketScales$Customer" "kind" "I", Cond.fieldLink RX1 22 "TicketScales$Customer" "count" "I", Cond.fieldLink RX1 25 "TicketScales$Customer" "reading" "I", Cond.fieldLink RX1 28 "TicketScales$Customer" "guess" "I", Cond.methodLink RL 30 yX9_shop]
def wsL_law_r8 : List Cond := [Cond.instanceMethod yX9_shop, Cond.selects RX9 yX9_shop yX9_shop, Cond.code yX9_shop cX9_shop 4 (some .int), Cond.fieldLink RX9 216 "TicketScales$Customer" "points" "I", Cond.methodLink RX9 141 yX9_within, Cond.methodLink RX9 219 yX0_shopWith, Cond.instanceMethod yX0_shopWith, Cond.selects RX0 yX0_shopWith yX0_shopWith, Cond.code yX0_shopWith cX0_shopWith 10 (some .int), Cond.fieldLink RX0 170 "TicketScales$Prize" "price" "I", Cond.methodLink RX0 92 Lib.Math.min.name, Cond.static Lib.Math.min.name, Cond.initialized "java/lang/Math", Cond.code Lib.Math.min.name Lib.Math.min.code 2 (some .int), Cond.fieldLink RX0 200 "TicketScales$Prize" "weight" "I", Cond.methodLink RX0 194 yX0_nextByPrice, Cond.instanceMethod yX0_nextByPrice, Cond.selects RX0 yX0_nextByPrice yX0_nextByPrice, Cond.code yX0_nextByPrice cX0_nextByPrice 4 (some .int), Cond.methodLink RX0 201 yX0_isBehind, Cond.instanceMethod yX0_isBehind, Cond.selects RX0 yX0_isBehind yX0_isBehind, Cond.code yX0_isBehind cX0_isBehind 5 (some .boolean), Cond.methodLink RX0 163 yX0_prizeAt]
def wsL_law_r9 : List Cond := [Cond.instanceMethod yX0_prizeAt, Cond.selects RX0 yX0_prizeAt yX0_prizeAt, Cond.code yX0_prizeAt cX0_prizeAt 3 (some (.object "TicketScales$Prize")), Cond.static yX9_quotient, Cond.code yX9_quotient cX9_quotient 2 (some .int), Cond.methodLink RX9 227 yJ9_floorDiv_7cf53, Cond.static yJ9_floorDiv_7cf53, Cond.initialized RJ9, Cond.code yJ9_floorDiv_7cf53 cJ9_floorDiv_7cf53 3 (some .int), Cond.methodLink RL 33 yX9_prize, Cond.instanceMethod yX9_prize, Cond.selects RX9 yX9_prize yX9_prize, Cond.code yX9_prize cX9_prize 4 (some .int), Cond.methodLink RX9 161 yX0_prizeAt, Cond.methodLink RX9 165 yX5_part, Cond.instanceMethod yX5_part, Cond.selects RX5 yX5_part yX5_part, Cond.code yX5_part cX5_part 2 (some .int), Cond.fieldLink RX5 9 "TicketScales$Prize" "price" "I", Cond.fieldLink RX5 15 "TicketScales$Prize" "weight" "I", Cond.fieldLink RX5 18 "TicketScales$Prize" "stock" "I", Cond.fieldLink RX5 21 "TicketScales$Prize" "mark" "I", Cond.fieldLink RX5 24 "TicketScales$Prize" "box" "I", Cond.fieldLink RX5 27 "TicketScales$Prize" "sold" "I"]
def wsL_law_r10 : List Cond := [Cond.fieldLink RX5 30 "TicketScales$Prize" "boxes" "I", Cond.constant RX5 47 (-100001), Cond.methodLink RL 36 yX9_soldOut, Cond.instanceMethod yX9_soldOut, Cond.selects RX9 yX9_soldOut yX9_soldOut, Cond.code yX9_soldOut cX9_soldOut 3 (some .int), Cond.methodLink RX9 209 yX5_copyFrom, Cond.instanceMethod yX5_copyFrom, Cond.selects RX5 yX5_copyFrom yX5_copyFrom, Cond.code yX5_copyFrom cX5_copyFrom 2 none, Cond.methodLink RX9 213 yX5_sellOut, Cond.instanceMethod yX5_sellOut, Cond.selects RX5 yX5_sellOut yX5_sellOut, Cond.code yX5_sellOut cX5_sellOut 2 (some .int), Cond.constant RX5 46 (-100009), Cond.methodLink RX5 42 yX5_sell, Cond.instanceMethod yX5_sell, Cond.selects RX5 yX5_sell yX5_sell, Cond.code yX5_sell cX5_sell 3 none, Cond.methodLink RX5 37 Lib.Math.min.name, Cond.methodLink RL 39 yX9_fairest, Cond.instanceMethod yX9_fairest, Cond.selects RX9 yX9_fairest yX9_fairest, Cond.code yX9_fairest cX9_fairest 1 (some .int)]
def wsL_law_r11 : List Cond := [Cond.methodLink RX9 206 yX0_fairestRule, Cond.instanceMethod yX0_fairestRule, Cond.selects RX0 yX0_fairestRule yX0_fairestRule, Cond.code yX0_fairestRule cX0_fairestRule 6 (some .int), Cond.constant RX0 186 (-100009), Cond.constant RX0 159 (100000), Cond.methodLink RX0 191 Lib.Math.abs.name, Cond.static Lib.Math.abs.name, Cond.code Lib.Math.abs.name Lib.Math.abs.code 1 (some .int), Cond.methodLink RX0 187 yX0_given, Cond.instanceMethod yX0_given, Cond.selects RX0 yX0_given yX0_given, Cond.code yX0_given cX0_given 9 (some .int), Cond.fieldLink RX0 135 "TicketScales$Customer" "kind" "I", Cond.fieldLink RX0 138 "TicketScales$Customer" "reading" "I", Cond.fieldLink RX0 145 "TicketScales$Customer" "count" "I", Cond.methodLink RX0 72 yX0_kindAt, Cond.instanceMethod yX0_kindAt, Cond.selects RX0 yX0_kindAt yX0_kindAt, Cond.code yX0_kindAt cX0_kindAt 2 (some (.object "TicketScales$Kind")), Cond.methodLink RX0 116 yX7_guessFrom, Cond.instanceMethod yX7_guessFrom, Cond.selects RX7 yX7_guessFrom yX7_guessFrom, Cond.code yX7_guessFrom cX7_guessFrom 6 (some .int)]
def wsL_law_r12 : List Cond := [Cond.constant RX7 57 (-100009), Cond.fieldLink RX7 58 "TicketScales$Kind" "weight" "I", Cond.methodLink RX7 64 Lib.Math.min.name, Cond.methodLink RX7 35 Lib.Math.max.name, Cond.static Lib.Math.max.name, Cond.code Lib.Math.max.name Lib.Math.max.code 2 (some .int), Cond.methodLink RX7 50 yX7_leastCount, Cond.instanceMethod yX7_leastCount, Cond.selects RX7 yX7_leastCount yX7_leastCount, Cond.code yX7_leastCount cX7_leastCount 5 (some .int), Cond.methodLink RX7 21 yX4_heaviest, Cond.instanceMethod yX4_heaviest, Cond.selects RX4 yX4_heaviest yX4_heaviest, Cond.code yX4_heaviest cX4_heaviest 1 (some .int), Cond.methodLink RX7 27 yX7_loadFrom, Cond.instanceMethod yX7_loadFrom, Cond.selects RX7 yX7_loadFrom yX7_loadFrom, Cond.code yX7_loadFrom cX7_loadFrom 2 (some .int), Cond.methodLink RX7 54 yX7_greatestCount, Cond.instanceMethod yX7_greatestCount, Cond.selects RX7 yX7_greatestCount yX7_greatestCount, Cond.code yX7_greatestCount cX7_greatestCount 3 (some .int), Cond.methodLink RX7 40 yX7_shows, Cond.instanceMethod yX7_shows]
def wsL_law_r13 : List Cond := [Cond.selects RX7 yX7_shows yX7_shows, Cond.code yX7_shows cX7_shows 2 (some .boolean), Cond.methodLink RX7 44 yX7_loadTo, Cond.instanceMethod yX7_loadTo, Cond.selects RX7 yX7_loadTo yX7_loadTo, Cond.code yX7_loadTo cX7_loadTo 2 (some .int), Cond.methodLink RX7 47 yX4_lightest, Cond.instanceMethod yX4_lightest, Cond.selects RX4 yX4_lightest yX4_lightest, Cond.code yX4_lightest cX4_lightest 1 (some .int), Cond.methodLink RX7 61 yX7_nearestCount, Cond.instanceMethod yX7_nearestCount, Cond.selects RX7 yX7_nearestCount yX7_nearestCount, Cond.code yX7_nearestCount cX7_nearestCount 5 (some .int), Cond.methodLink RL 43 yX9_would, Cond.instanceMethod yX9_would, Cond.selects RX9 yX9_would yX9_would, Cond.code yX9_would cX9_would 2 (some .int), Cond.methodLink RX9 203 yX0_given, Cond.methodLink RL 77 yL_cell, Cond.static yL_cell, Cond.code yL_cell cL_cell 2 (some .int), Cond.constant RL 7 (15485959), Cond.constant RL 8 (2147483647)]
def wsL_law_r14 : List Cond := [Cond.methodLink RL 81 yX9_setKind, Cond.instanceMethod yX9_setKind, Cond.selects RX9 yX9_setKind yX9_setKind, Cond.code yX9_setKind cX9_setKind 4 (some .int), Cond.methodLink RX9 30 yX3_prepare, Cond.instanceMethod yX3_prepare, Cond.selects RX3 yX3_prepare yX3_prepare, Cond.code yX3_prepare cX3_prepare 1 none, Cond.methodLink RX3 25 yX8_copyFrom, Cond.instanceMethod yX8_copyFrom, Cond.selects RX8 yX8_copyFrom yX8_copyFrom, Cond.code yX8_copyFrom cX8_copyFrom 3 none, Cond.methodLink RX8 26 yX0_copyFrom, Cond.instanceMethod yX0_copyFrom, Cond.selects RX0 yX0_copyFrom yX0_copyFrom, Cond.code yX0_copyFrom cX0_copyFrom 3 none, Cond.methodLink RX0 43 yX4_copyFrom, Cond.instanceMethod yX4_copyFrom, Cond.selects RX4 yX4_copyFrom yX4_copyFrom, Cond.code yX4_copyFrom cX4_copyFrom 2 none, Cond.methodLink RX0 47 yX1_copyFrom, Cond.instanceMethod yX1_copyFrom, Cond.selects RX1 yX1_copyFrom yX1_copyFrom, Cond.code yX1_copyFrom cX1_copyFrom 2 none]
def wsL_law_r15 : List Cond := [Cond.methodLink RX0 50 yX5_copyFrom, Cond.methodLink RX0 53 yX7_copyFrom, Cond.instanceMethod yX7_copyFrom, Cond.selects RX7 yX7_copyFrom yX7_copyFrom, Cond.code yX7_copyFrom cX7_copyFrom 2 none, Cond.fieldLink RX7 18 "TicketScales$Scale" "bias" "I", Cond.methodLink RX9 37 yX0_changeKind, Cond.instanceMethod yX0_changeKind, Cond.selects RX0 yX0_changeKind yX0_changeKind, Cond.code yX0_changeKind cX0_changeKind 6 (some .int), Cond.fieldLink RX0 77 "TicketScales$Kind" "weight" "I", Cond.fieldLink RX0 80 "TicketScales$Kind" "spread" "I", Cond.methodLink RX9 43 yX3_settle, Cond.instanceMethod yX3_settle, Cond.selects RX3 yX3_settle yX3_settle, Cond.code yX3_settle cX3_settle 2 (some .int), Cond.static yX9_isError, Cond.code yX9_isError cX9_isError 1 (some .boolean), Cond.constant RX9 225 (-100002), Cond.constant RX9 226 (-100003), Cond.methodLink RX3 33 yX3_recordSpare, Cond.instanceMethod yX3_recordSpare, Cond.selects RX3 yX3_recordSpare yX3_recordSpare, Cond.code yX3_recordSpare cX3_recordSpare 2 none]
def wsL_law_r16 : List Cond := [Cond.fieldLink RX3 36 "TicketScales$History" "size" "I", Cond.methodLink RX3 40 yX3_dropOldest, Cond.instanceMethod yX3_dropOldest, Cond.selects RX3 yX3_dropOldest yX3_dropOldest, Cond.code yX3_dropOldest cX3_dropOldest 3 none, Cond.methodLink RL 84 yX9_come, Cond.instanceMethod yX9_come, Cond.selects RX9 yX9_come yX9_come, Cond.code yX9_come cX9_come 2 (some .int), Cond.methodLink RX9 60 yX0_addCustomer, Cond.instanceMethod yX0_addCustomer, Cond.selects RX0 yX0_addCustomer yX0_addCustomer, Cond.code yX0_addCustomer cX0_addCustomer 2 (some .int), Cond.constant RX0 101 (-100003), Cond.methodLink RX0 102 yX1_begin, Cond.instanceMethod yX1_begin, Cond.selects RX1 yX1_begin yX1_begin, Cond.code yX1_begin cX1_begin 2 none, Cond.methodLink RL 88 yX9_addPrize, Cond.instanceMethod yX9_addPrize, Cond.selects RX9 yX9_addPrize yX9_addPrize, Cond.code yX9_addPrize cX9_addPrize 6 (some .int), Cond.methodLink RX9 73 yX0_placePrize, Cond.instanceMethod yX0_placePrize]
def wsL_law_r17 : List Cond := [Cond.selects RX0 yX0_placePrize yX0_placePrize, Cond.code yX0_placePrize cX0_placePrize 6 (some .int), Cond.methodLink RX0 160 yX5_begin, Cond.instanceMethod yX5_begin, Cond.selects RX5 yX5_begin yX5_begin, Cond.code yX5_begin cX5_begin 6 none, Cond.methodLink RL 56 yX9_setScale, Cond.instanceMethod yX9_setScale, Cond.selects RX9 yX9_setScale yX9_setScale, Cond.code yX9_setScale cX9_setScale 3 (some .int), Cond.methodLink RX9 47 yX0_changeScale, Cond.instanceMethod yX0_changeScale, Cond.selects RX0 yX0_changeScale yX0_changeScale, Cond.code yX0_changeScale cX0_changeScale 3 (some .int), Cond.methodLink RX0 98 Lib.Math.max.name, Cond.methodLink RL 92 yX9_setRule, Cond.instanceMethod yX9_setRule, Cond.selects RX9 yX9_setRule yX9_setRule, Cond.code yX9_setRule cX9_setRule 2 (some .int), Cond.methodLink RX9 54 yX0_changeRule, Cond.instanceMethod yX0_changeRule, Cond.selects RX0 yX0_changeRule yX0_changeRule, Cond.code yX0_changeRule cX0_changeRule 3 (some .int), Cond.methodLink RL 95 yL_apart]
def wsL_law_r18 : List Cond := [Cond.static yL_apart, Cond.code yL_apart cL_apart 10 (some .boolean), Cond.methodLink RL 47 yX9_apartUpTo, Cond.instanceMethod yX9_apartUpTo, Cond.selects RX9 yX9_apartUpTo yX9_apartUpTo, Cond.code yX9_apartUpTo cX9_apartUpTo 3 (some .int), Cond.fieldLink RX9 167 "TicketScales$Counter" "scale" "LTicketScales$Scale;", Cond.methodLink RX9 137 yX0_kindAt, Cond.methodLink RX9 191 yX7_lastApart, Cond.instanceMethod yX7_lastApart, Cond.selects RX7 yX7_lastApart yX7_lastApart, Cond.code yX7_lastApart cX7_lastApart 3 (some .int), Cond.methodLink RX7 70 yX7_apartFromNext, Cond.instanceMethod yX7_apartFromNext, Cond.selects RX7 yX7_apartFromNext yX7_apartFromNext, Cond.code yX7_apartFromNext cX7_apartFromNext 6 (some .boolean), Cond.static yX9_readingAt, Cond.code yX9_readingAt cX9_readingAt 2 (some .int), Cond.methodLink RX9 235 Lib.Math.max.name, Cond.methodLink RX9 232 yX9_quotient, Cond.methodLink RL 50 yX9_bestStep, Cond.instanceMethod yX9_bestStep, Cond.selects RX9 yX9_bestStep yX9_bestStep, Cond.code yX9_bestStep cX9_bestStep 4 (some .int)]
def wsL_law_r19 : List Cond := [Cond.methodLink RX9 195 yX7_greatestStep, Cond.instanceMethod yX7_greatestStep, Cond.selects RX7 yX7_greatestStep yX7_greatestStep, Cond.code yX7_greatestStep cX7_greatestStep 4 (some .int), Cond.methodLink RX7 74 yX7_allApart, Cond.instanceMethod yX7_allApart, Cond.selects RX7 yX7_allApart yX7_allApart, Cond.code yX7_allApart cX7_allApart 5 (some .boolean), Cond.methodLink RL 53 yX9_kind, Cond.instanceMethod yX9_kind, Cond.selects RX9 yX9_kind yX9_kind, Cond.code yX9_kind cX9_kind 4 (some .int), Cond.fieldLink RX9 146 "TicketScales$Kind" "weight" "I", Cond.fieldLink RX9 151 "TicketScales$Kind" "spread" "I", Cond.methodLink RL 15 yX9_read, Cond.instanceMethod yX9_read, Cond.selects RX9 yX9_read yX9_read, Cond.code yX9_read cX9_read 2 (some .int), Cond.constant RX9 166 (3000000), Cond.fieldLink RX9 171 "TicketScales$Scale" "step" "I", Cond.methodLink RX9 176 yX9_readingAt, Cond.methodLink RL 18 yX9_allowed, Cond.instanceMethod yX9_allowed, Cond.selects RX9 yX9_allowed yX9_allowed]
def wsL_law_r20 : List Cond := [Cond.code yX9_allowed cX9_allowed 7 (some .int), Cond.constant RX9 186 (-100009), Cond.methodLink RX9 179 yX7_leastCount, Cond.methodLink RX9 183 yX7_greatestCount, Cond.methodLink RL 59 yX9_undo, Cond.instanceMethod yX9_undo, Cond.selects RX9 yX9_undo yX9_undo, Cond.code yX9_undo cX9_undo 1 (some .int), Cond.methodLink RX9 98 yX3_stepBack, Cond.instanceMethod yX3_stepBack, Cond.selects RX3 yX3_stepBack yX3_stepBack, Cond.code yX3_stepBack cX3_stepBack 3 (some .int), Cond.constant RX3 47 (-100002), Cond.methodLink RL 99 yX9_setBias, Cond.instanceMethod yX9_setBias, Cond.selects RX9 yX9_setBias yX9_setBias, Cond.code yX9_setBias cX9_setBias 2 (some .int), Cond.methodLink RX9 51 yX0_changeBias, Cond.instanceMethod yX0_changeBias, Cond.selects RX0 yX0_changeBias yX0_changeBias, Cond.code yX0_changeBias cX0_changeBias 3 (some .int), Cond.methodLink RL 102 yL_claims, Cond.static yL_claims, Cond.code yL_claims cL_claims 8 (some .boolean)]
def wsL_law_r21 : List Cond := [Cond.methodLink RL 66 yX9_claim, Cond.instanceMethod yX9_claim, Cond.selects RX9 yX9_claim yX9_claim, Cond.code yX9_claim cX9_claim 3 (some .int), Cond.methodLink RX9 70 yX0_settleClaim, Cond.instanceMethod yX0_settleClaim, Cond.selects RX0 yX0_settleClaim yX0_settleClaim, Cond.code yX0_settleClaim cX0_settleClaim 5 (some .int), Cond.fieldLink RX0 131 "TicketScales$Customer" "guess" "I", Cond.constant RX0 134 (-100002), Cond.methodLink RX0 106 yX0_customerAt, Cond.methodLink RX0 141 yX0_allows, Cond.instanceMethod yX0_allows, Cond.selects RX0 yX0_allows yX0_allows, Cond.code yX0_allows cX0_allows 4 (some .boolean), Cond.methodLink RX0 152 yX7_leastCount, Cond.methodLink RX0 156 yX7_greatestCount, Cond.methodLink RX0 120 yX1_gain, Cond.instanceMethod yX1_gain, Cond.selects RX1 yX1_gain yX1_gain, Cond.code yX1_gain cX1_gain 2 none, Cond.methodLink RX1 37 Lib.Math.max.name, Cond.methodLink RX0 148 yX1_isNearer, Cond.instanceMethod yX1_isNearer]
def wsL_law_r22 : List Cond := [Cond.selects RX1 yX1_isNearer yX1_isNearer, Cond.code yX1_isNearer cX1_isNearer 2 (some .boolean), Cond.methodLink RX1 31 Lib.Math.abs.name, Cond.methodLink RL 105 yX9_buy, Cond.instanceMethod yX9_buy, Cond.selects RX9 yX9_buy yX9_buy, Cond.code yX9_buy cX9_buy 4 (some .int), Cond.methodLink RX9 83 yX0_sellPrize, Cond.instanceMethod yX0_sellPrize, Cond.selects RX0 yX0_sellPrize yX0_sellPrize, Cond.code yX0_sellPrize cX0_sellPrize 6 (some .int), Cond.methodLink RX0 173 yX5_sell, Cond.methodLink RL 110 yX9_mixed, Cond.instanceMethod yX9_mixed, Cond.selects RX9 yX9_mixed yX9_mixed, Cond.code yX9_mixed cX9_mixed 7 (some .int), Cond.methodLink RX9 199 yX7_mixedPairs, Cond.instanceMethod yX7_mixedPairs, Cond.selects RX7 yX7_mixedPairs yX7_mixedPairs, Cond.code yX7_mixedPairs cX7_mixedPairs 10 (some .int), Cond.methodLink RX7 77 yX7_pairsOf, Cond.instanceMethod yX7_pairsOf, Cond.selects RX7 yX7_pairsOf yX7_pairsOf, Cond.code yX7_pairsOf cX7_pairsOf 10 (some .int)]
def wsL_law_r23 : List Cond := [Cond.methodLink RL 113 yL_weighs, Cond.static yL_weighs, Cond.code yL_weighs cL_weighs 10 (some .boolean), Cond.methodLink RL 62 yX9_weigh, Cond.instanceMethod yX9_weigh, Cond.selects RX9 yX9_weigh yX9_weigh, Cond.code yX9_weigh cX9_weigh 5 (some .int), Cond.methodLink RX9 66 yX0_weighBundle, Cond.instanceMethod yX0_weighBundle, Cond.selects RX0 yX0_weighBundle yX0_weighBundle, Cond.code yX0_weighBundle cX0_weighBundle 10 (some .int), Cond.methodLink RX0 123 yX1_keep, Cond.instanceMethod yX1_keep, Cond.selects RX1 yX1_keep yX1_keep, Cond.code yX1_keep cX1_keep 5 none, Cond.methodLink RL 23 yX9_guess, Cond.instanceMethod yX9_guess, Cond.selects RX9 yX9_guess yX9_guess, Cond.code yX9_guess cX9_guess 5 (some .int), Cond.methodLink RX9 187 yX7_guessFrom, Cond.methodLink RL 116 yL_reading, Cond.static yL_reading, Cond.code yL_reading cL_reading 11 (some .boolean), Cond.methodLink RL 119 yX9_leave]
def wsL_law_r24 : List Cond := [Cond.instanceMethod yX9_leave, Cond.selects RX9 yX9_leave yX9_leave, Cond.code yX9_leave cX9_leave 2 (some .int), Cond.methodLink RX9 63 yX0_dropCustomer, Cond.instanceMethod yX0_dropCustomer, Cond.selects RX0 yX0_dropCustomer yX0_dropCustomer, Cond.code yX0_dropCustomer cX0_dropCustomer 5 (some .int)]
def wsL_law : List Cond := (wsL_law_r1 ++ (wsL_law_r2 ++ (wsL_law_r3 ++ (wsL_law_r4 ++ (wsL_law_r5 ++ (wsL_law_r6 ++ (wsL_law_r7 ++ (wsL_law_r8 ++ (wsL_law_r9 ++ (wsL_law_r10 ++ (wsL_law_r11 ++ (wsL_law_r12 ++ (wsL_law_r13 ++ (wsL_law_r14 ++ (wsL_law_r15 ++ (wsL_law_r16 ++ (wsL_law_r17 ++ (wsL_law_r18 ++ (wsL_law_r19 ++ (wsL_law_r20 ++ (wsL_law_r21 ++ (wsL_law_r22 ++ (wsL_law_r23 ++ wsL_law_r24))))))))))))))))))))))) ++ wsX90 ++ wsX30 ++ wsX60 ++ wsX50 ++ wsX80 ++ wsX00 ++ wsX70 ++ wsX40 ++ wsX10 ++ wsX20 ++ ([] : List Cond)
set_option maxRecDepth 20000 in
theorem gin_wsL_law_r1 : GoodIn lw_tbl wsL_law_r1 := goodIn_p _ [28, 31] rfl (by decide +kernel)
set_option maxRecDepth 20000 in
theorem gin_wsL_law_r2 : GoodIn lw_tbl wsL_law_r2 := goodIn_p _ [36, 43] rfl (by decide +kernel)
set_option maxRecDepth 20000 in
theorem gin_wsL_law_r3 : GoodIn lw_tbl wsL_law_r3 := goodIn_p _ [49, 57] rfl (by decide +kernel)
set_option maxRecDepth 20000 in
theorem gin_wsL_law_r4 : GoodIn lw_tbl wsL_law_r4 := goodIn_p _ [80, 97, 128, 216, 222] rfl (by decide +kernel)
set_option maxRecDepth 20000 in
theorem gin_wsL_law_r5 : GoodIn lw_tbl wsL_law_r5 := goodIn_p _ [564, 435, 439, 299] rfl (by decide +kernel)
set_option maxRecDepth 20000 in
theorem gin_wsL_law_r6 : GoodIn lw_tbl wsL_law_r6 := goodIn_p _ [443, 447, 451, 455] rfl (by decide +kernel)
set_option maxRecDepth 20000 in
theorem gin_wsL_law_r7 : GoodIn lw_tbl wsL_law_r7 := goodIn_p _ [459, 385, 310, 464] rfl (by decide +kernel)
set_option maxRecDepth 20000 in
theorem gin_wsL_law_r8 : GoodIn lw_tbl wsL_law_r8 := goodIn_p _ [568, 572, 341, 576, 580] rfl (by decide +kernel)
set_option maxRecDepth 20000 in
theorem gin_wsL_law_r9 : GoodIn lw_tbl wsL_law_r9 := goodIn_p _ [410, 418, 421, 471, 476] rfl (by decide +kernel)
set_option maxRecDepth 20000 in
theorem gin_wsL_law_r10 : GoodIn lw_tbl wsL_law_r10 := goodIn_p _ [585, 291, 590, 415, 596] rfl (by decide +kernel)
set_option maxRecDepth 20000 in
theorem gin_wsL_law_r11 : GoodIn lw_tbl wsL_law_r11 := goodIn_p _ [600, 609, 605, 307, 554] rfl (by decide +kernel)
set_option maxRecDepth 20000 in
theorem gin_wsL_law_r12 : GoodIn lw_tbl wsL_law_r12 := goodIn_p _ [344, 538, 514, 522, 544] rfl (by decide +kernel)
set_option maxRecDepth 20000 in
theorem gin_wsL_law_r13 : GoodIn lw_tbl wsL_law_r13 := goodIn_p _ [506, 518, 510, 560, 613, 525] rfl (by decide +kernel)
set_option maxRecDepth 20000 in
theorem gin_wsL_law_r14 : GoodIn lw_tbl wsL_law_r14 := goodIn_p _ [267, 271, 275, 279, 283, 287] rfl (by decide +kernel)
set_option maxRecDepth 20000 in
theorem gin_wsL_law_r15 : GoodIn lw_tbl wsL_law_r15 := goodIn_p _ [295, 303, 315, 318, 325] rfl (by decide +kernel)
set_option maxRecDepth 20000 in
theorem gin_wsL_law_r16 : GoodIn lw_tbl wsL_law_r16 := goodIn_p _ [329, 364, 368, 373, 389] rfl (by decide +kernel)
set_option maxRecDepth 20000 in
theorem gin_wsL_law_r17 : GoodIn lw_tbl wsL_law_r17 := goodIn_p _ [393, 398, 334, 338, 356, 360] rfl (by decide +kernel)
set_option maxRecDepth 20000 in
theorem gin_wsL_law_r18 : GoodIn lw_tbl wsL_law_r18 := goodIn_p _ [618, 622, 626, 630, 486, 635] rfl (by decide +kernel)
set_option maxRecDepth 20000 in
theorem gin_wsL_law_r19 : GoodIn lw_tbl wsL_law_r19 := goodIn_p _ [639, 643, 647, 481] rfl (by decide +kernel)
set_option maxRecDepth 20000 in
theorem gin_wsL_law_r20 : GoodIn lw_tbl wsL_law_r20 := goodIn_p _ [534, 426, 430, 348, 352, 671] rfl (by decide +kernel)
set_option maxRecDepth 20000 in
theorem gin_wsL_law_r21 : GoodIn lw_tbl wsL_law_r21 := goodIn_p _ [675, 679, 683, 663] rfl (by decide +kernel)
set_option maxRecDepth 20000 in
theorem gin_wsL_law_r22 : GoodIn lw_tbl wsL_law_r22 := goodIn_p _ [689, 402, 406, 492, 497, 502] rfl (by decide +kernel)
set_option maxRecDepth 20000 in
theorem gin_wsL_law_r23 : GoodIn lw_tbl wsL_law_r23 := goodIn_p _ [650, 654, 658, 668, 550, 530] rfl (by decide +kernel)
set_option maxRecDepth 20000 in
theorem gin_wsL_law_r24 : GoodIn lw_tbl wsL_law_r24 := goodIn_p _ [377, 381] rfl (by decide +kernel)
set_option maxRecDepth 20000 in
theorem gin_wsX90 : GoodIn lw_tbl wsX90 := goodIn_p _ [] rfl (by decide +kernel)
set_option maxRecDepth 20000 in
theorem gin_wsX30 : GoodIn lw_tbl wsX30 := goodIn_p _ [] rfl (by decide +kernel)
set_option maxRecDepth 20000 in
theorem gin_wsX60 : GoodIn lw_tbl wsX60 := goodIn_p _ [] rfl (by decide +kernel)
set_option maxRecDepth 20000 in
theorem gin_wsX50 : GoodIn lw_tbl wsX50 := goodIn_p _ [] rfl (by decide +kernel)
set_option maxRecDepth 20000 in
theorem gin_wsX80 : GoodIn lw_tbl wsX80 := goodIn_p _ [] rfl (by decide +kernel)
set_option maxRecDepth 20000 in
theorem gin_wsX00 : GoodIn lw_tbl wsX00 := goodIn_p _ [] rfl (by decide +kernel)
set_option maxRecDepth 20000 in
theorem gin_wsX70 : GoodIn lw_tbl wsX70 := goodIn_p _ [] rfl (by decide +kernel)
set_option maxRecDepth 20000 in
theorem gin_wsX40 : GoodIn lw_tbl wsX40 := goodIn_p _ [] rfl (by decide +kernel)
set_option maxRecDepth 20000 in
theorem gin_wsX10 : GoodIn lw_tbl wsX10 := goodIn_p _ [] rfl (by decide +kernel)
set_option maxRecDepth 20000 in
theorem gin_wsX20 : GoodIn lw_tbl wsX20 := goodIn_p _ [] rfl (by decide +kernel)
theorem wsL_law_gd : GoodIn lw_tbl wsL_law := (goodIn_app (goodIn_app (goodIn_app (goodIn_app (goodIn_app (goodIn_app (goodIn_app (goodIn_app (goodIn_app (goodIn_app (goodIn_app (goodIn_app gin_wsL_law_r1 (goodIn_app gin_wsL_law_r2 (goodIn_app gin_wsL_law_r3 (goodIn_app gin_wsL_law_r4 (goodIn_app gin_wsL_law_r5 (goodIn_app gin_wsL_law_r6 (goodIn_app gin_wsL_law_r7 (goodIn_app gin_wsL_law_r8 (goodIn_app gin_wsL_law_r9 (goodIn_app gin_wsL_law_r10 (goodIn_app gin_wsL_law_r11 (goodIn_app gin_wsL_law_r12 (goodIn_app gin_wsL_law_r13 (goodIn_app gin_wsL_law_r14 (goodIn_app gin_wsL_law_r15 (goodIn_app gin_wsL_law_r16 (goodIn_app gin_wsL_law_r17 (goodIn_app gin_wsL_law_r18 (goodIn_app gin_wsL_law_r19 (goodIn_app gin_wsL_law_r20 (goodIn_app gin_wsL_law_r21 (goodIn_app gin_wsL_law_r22 (goodIn_app gin_wsL_law_r23 gin_wsL_law_r24))))))))))))))))))))))) gin_wsX90) gin_wsX30) gin_wsX60) gin_wsX50) gin_wsX80) gin_wsX00) gin_wsX70) gin_wsX40) gin_wsX10) gin_wsX20) (fun _ h => absurd h List.not_mem_nil))
theorem wsL_law_in : ∀ w ∈ wsL_law, w ∈ lw_tbl := fun w h => (wsL_law_gd w h).1
theorem inlX0 : ∀ w ∈ wsX00, w ∈ wsL_law := fun _ h => List.mem_append_left _ (List.mem_append_left _ (List.mem_append_left _ (List.mem_append_left _ (List.mem_append_left _ (List.mem_append_right _ h)))))
theorem inX0 : ∀ w ∈ wsX00, w ∈ lw_tbl := fun w h => wsL_law_in w (inlX0 w h)
theorem inlX1 : ∀ w ∈ wsX10, w ∈ wsL_law := fun _ h => List.mem_append_left _ (List.mem_append_left _ (List.mem_append_right _ h))
theorem inX1 : ∀ w ∈ wsX10, w ∈ lw_tbl := fun w h => wsL_law_in w (inlX1 w h)
theorem inlX2 : ∀ w ∈ wsX20, w ∈ wsL_law := fun _ h => List.mem_append_left _ (List.mem_append_right _ h)
theorem inX2 : ∀ w ∈ wsX20, w ∈ lw_tbl := fun w h => wsL_law_in w (inlX2 w h)
theorem inlX3 : ∀ w ∈ wsX30, w ∈ wsL_law := fun _ h => List.mem_append_left _ (List.mem_append_left _ (List.mem_append_left _ (List.mem_append_left _ (List.mem_append_left _ (List.mem_append_left _ (List.mem_append_left _ (List.mem_append_left _ (List.mem_append_left _ (List.mem_append_right _ h)))))))))
theorem inX3 : ∀ w ∈ wsX30, w ∈ lw_tbl := fun w h => wsL_law_in w (inlX3 w h)
theorem inlX4 : ∀ w ∈ wsX40, w ∈ wsL_law := fun _ h => List.mem_append_left _ (List.mem_append_left _ (List.mem_append_left _ (List.mem_append_right _ h)))
theorem inX4 : ∀ w ∈ wsX40, w ∈ lw_tbl := fun w h => wsL_law_in w (inlX4 w h)
theorem inlX5 : ∀ w ∈ wsX50, w ∈ wsL_law := fun _ h => List.mem_append_left _ (List.mem_append_left _ (List.mem_append_left _ (List.mem_append_left _ (List.mem_append_left _ (List.mem_append_left _ (List.mem_append_left _ (List.mem_append_right _ h)))))))
theorem inX5 : ∀ w ∈ wsX50, w ∈ lw_tbl := fun w h => wsL_law_in w (inlX5 w h)
theorem inlX6 : ∀ w ∈ wsX60, w ∈ wsL_law := fun _ h => List.mem_append_left _ (List.mem_append_left _ (List.mem_append_left _ (List.mem_append_left _ (List.mem_append_left _ (List.mem_append_left _ (List.mem_append_left _ (List.mem_append_left _ (List.mem_append_right _ h))))))))
theorem inX6 : ∀ w ∈ wsX60, w ∈ lw_tbl := fun w h => wsL_law_in w (inlX6 w h)
theorem inlX7 : ∀ w ∈ wsX70, w ∈ wsL_law := fun _ h => List.mem_append_left _ (List.mem_append_left _ (List.mem_append_left _ (List.mem_append_left _ (List.mem_append_right _ h))))
theorem inX7 : ∀ w ∈ wsX70, w ∈ lw_tbl := fun w h => wsL_law_in w (inlX7 w h)
theorem inlX8 : ∀ w ∈ wsX80, w ∈ wsL_law := fun _ h => List.mem_append_left _ (List.mem_append_left _ (List.mem_append_left _ (List.mem_append_left _ (List.mem_append_left _ (List.mem_append_left _ (List.mem_append_right _ h))))))
theorem inX8 : ∀ w ∈ wsX80, w ∈ lw_tbl := fun w h => wsL_law_in w (inlX8 w h)
theorem inlX9 : ∀ w ∈ wsX90, w ∈ wsL_law := fun _ h => List.mem_append_left _ (List.mem_append_left _ (List.mem_append_left _ (List.mem_append_left _ (List.mem_append_left _ (List.mem_append_left _ (List.mem_append_left _ (List.mem_append_left _ (List.mem_append_left _ (List.mem_append_left _ (List.mem_append_right _ h))))))))))
theorem inX9 : ∀ w ∈ wsX90, w ∈ lw_tbl := fun w h => wsL_law_in w (inlX9 w h)
theorem inX10 : ∀ w ∈ wsX100, w ∈ lw_tbl := by decide +kernel
theorem inJ9 : ∀ w ∈ wsJ90, w ∈ lw_tbl := by decide +kernel
set_option maxRecDepth 20000 in
theorem ggX0_init_X7_init : GoodIn wsX0_init wsX7_init := goodIn_r _ [22, 23, 2, 3, 24, 25, 46, 47, 48] (by decide +kernel) (by decide +kernel)
set_option maxRecDepth 20000 in
theorem gX0_init_X7_init_n19 : GoodIn wsX0_init (wsX7_init) := ggX0_init_X7_init
set_option maxRecDepth 20000 in
theorem ggX0_init_X4_init : GoodIn wsX0_init wsX4_init := goodIn_r _ [27, 28, 2, 3, 29, 30, 49, 50] (by decide +kernel) (by decide +kernel)
set_option maxRecDepth 20000 in
theorem gX0_init_X4_init_n40 : GoodIn wsX0_init (wsX4_init) := ggX0_init_X4_init
set_option maxRecDepth 20000 in
theorem ggX0_init_X1_init : GoodIn wsX0_init wsX1_init := goodIn_r _ [32, 33, 2, 3] (by decide +kernel) (by decide +kernel)
set_option maxRecDepth 20000 in
theorem gX0_init_X1_init_n41 : GoodIn wsX0_init (wsX1_init) := ggX0_init_X1_init
set_option maxRecDepth 20000 in
theorem ggX0_init_X5_init : GoodIn wsX0_init wsX5_init := goodIn_r _ [35, 36, 2, 3] (by decide +kernel) (by decide +kernel)
set_option maxRecDepth 20000 in
theorem gX0_init_X5_init_n42 : GoodIn wsX0_init (wsX5_init) := ggX0_init_X5_init
theorem dX0_init_0 : decode cX0_init 0 = .ok (.aload_n 0, 1) := by decide +kernel
theorem dX0_init_1 : decode cX0_init 1 = .ok (.invokespecial 3, 3) := by decide +kernel
theorem dX0_init_4 : decode cX0_init 4 = .ok (.aload_n 0, 1) := by decide +kernel
theorem dX0_init_5 : decode cX0_init 5 = .ok (.iconst 4, 1) := by decide +kernel
theorem dX0_init_6 : decode cX0_init 6 = .ok (.anewarray 9, 3) := by decide +kernel
theorem dX0_init_9 : decode cX0_init 9 = .ok (.putfield 11, 3) := by decide +kernel
theorem dX0_init_12 : decode cX0_init 12 = .ok (.aload_n 0, 1) := by decide +kernel
theorem dX0_init_13 : decode cX0_init 13 = .ok (.new 17, 3) := by decide +kernel
theorem dX0_init_16 : decode cX0_init 16 = .ok (.dup, 1) := by decide +kernel
theorem dX0_init_17 : decode cX0_init 17 = .ok (.invokespecial 19, 3) := by decide +kernel
theorem dX0_init_20 : decode cX0_init 20 = .ok (.putfield 20, 3) := by decide +kernel
theorem dX0_init_23 : decode cX0_init 23 = .ok (.aload_n 0, 1) := by decide +kernel
theorem dX0_init_24 : decode cX0_init 24 = .ok (.bipush 6, 2) := by decide +kernel
theorem dX0_init_26 : decode cX0_init 26 = .ok (.anewarray 24, 3) := by decide +kernel
theorem dX0_init_29 : decode cX0_init 29 = .ok (.putfield 26, 3) := by decide +kernel
theorem dX0_init_32 : decode cX0_init 32 = .ok (.aload_n 0, 1) := by decide +kernel
theorem dX0_init_33 : decode cX0_init 33 = .ok (.bipush 6, 2) := by decide +kernel
theorem dX0_init_35 : decode cX0_init 35 = .ok (.anewarray 30, 3) := by decide +kernel
theorem dX0_init_38 : decode cX0_init 38 = .ok (.putfield 32, 3) := by decide +kernel
theorem dX0_init_41 : decode cX0_init 41 = .ok (.aload_n 0, 1) := by decide +kernel
theorem dX0_init_42 : decode cX0_init 42 = .ok (.iconst 5, 1) := by decide +kernel
theorem dX0_init_43 : decode cX0_init 43 = .ok (.putfield 36, 3) := by decide +kernel
theorem dX0_init_46 : decode cX0_init 46 = .ok (.iconst 0, 1) := by decide +kernel
theorem dX0_init_47 : decode cX0_init 47 = .ok (.istore_n 1, 1) := by decide +kernel
theorem dX0_init_48 : decode cX0_init 48 = .ok (.iload_n 1, 1) := by decide +kernel
theorem dX0_init_49 : decode cX0_init 49 = .ok (.iconst 4, 1) := by decide +kernel
theorem dX0_init_50 : decode cX0_init 50 = .ok (.if_icmp .ge 22, 3) := by decide +kernel
theorem dX0_init_53 : decode cX0_init 53 = .ok (.aload_n 0, 1) := by decide +kernel
theorem dX0_init_54 : decode cX0_init 54 = .ok (.getfield 11, 3) := by decide +kernel
theorem dX0_init_57 : decode cX0_init 57 = .ok (.iload_n 1, 1) := by decide +kernel
theorem dX0_init_58 : decode cX0_init 58 = .ok (.new 9, 3) := by decide +kernel
theorem dX0_init_61 : decode cX0_init 61 = .ok (.dup, 1) := by decide +kernel
theorem dX0_init_62 : decode cX0_init 62 = .ok (.invokespecial 40, 3) := by decide +kernel
theorem dX0_init_65 : decode cX0_init 65 = .ok (.aastore, 1) := by decide +kernel
theorem dX0_init_66 : decode cX0_init 66 = .ok (.iinc 1 1, 3) := by decide +kernel
theorem dX0_init_69 : decode cX0_init 69 = .ok (.goto (-21), 3) := by decide +kernel
theorem dX0_init_72 : decode cX0_init 72 = .ok (.iconst 0, 1) := by decide +kernel
theorem dX0_init_73 : decode cX0_init 73 = .ok (.istore_n 1, 1) := by decide +kernel
theorem dX0_init_74 : decode cX0_init 74 = .ok (.iload_n 1, 1) := by decide +kernel
theorem dX0_init_75 : decode cX0_init 75 = .ok (.bipush 6, 2) := by decide +kernel
theorem dX0_init_77 : decode cX0_init 77 = .ok (.if_icmp .ge 22, 3) := by decide +kernel
theorem dX0_init_80 : decode cX0_init 80 = .ok (.aload_n 0, 1) := by decide +kernel
theorem dX0_init_81 : decode cX0_init 81 = .ok (.getfield 26, 3) := by decide +kernel
theorem dX0_init_84 : decode cX0_init 84 = .ok (.iload_n 1, 1) := by decide +kernel
theorem dX0_init_85 : decode cX0_init 85 = .ok (.new 24, 3) := by decide +kernel
theorem dX0_init_88 : decode cX0_init 88 = .ok (.dup, 1) := by decide +kernel
theorem dX0_init_89 : decode cX0_init 89 = .ok (.invokespecial 41, 3) := by decide +kernel
theorem dX0_init_92 : decode cX0_init 92 = .ok (.aastore, 1) := by decide +kernel
theorem dX0_init_93 : decode cX0_init 93 = .ok (.iinc 1 1, 3) := by decide +kernel
theorem dX0_init_96 : decode cX0_init 96 = .ok (.goto (-22), 3) := by decide +kernel
theorem dX0_init_99 : decode cX0_init 99 = .ok (.iconst 0, 1) := by decide +kernel
theorem dX0_init_100 : decode cX0_init 100 = .ok (.istore_n 1, 1) := by decide +kernel
theorem dX0_init_101 : decode cX0_init 101 = .ok (.iload_n 1, 1) := by decide +kernel
theorem dX0_init_102 : decode cX0_init 102 = .ok (.bipush 6, 2) := by decide +kernel
theorem dX0_init_104 : decode cX0_init 104 = .ok (.if_icmp .ge 22, 3) := by decide +kernel
theorem dX0_init_107 : decode cX0_init 107 = .ok (.aload_n 0, 1) := by decide +kernel
theorem dX0_init_108 : decode cX0_init 108 = .ok (.getfield 32, 3) := by decide +kernel
theorem dX0_init_111 : decode cX0_init 111 = .ok (.iload_n 1, 1) := by decide +kernel
theorem dX0_init_112 : decode cX0_init 112 = .ok (.new 30, 3) := by decide +kernel
theorem dX0_init_115 : decode cX0_init 115 = .ok (.dup, 1) := by decide +kernel
theorem dX0_init_116 : decode cX0_init 116 = .ok (.invokespecial 42, 3) := by decide +kernel
theorem dX0_init_119 : decode cX0_init 119 = .ok (.aastore, 1) := by decide +kernel
theorem dX0_init_120 : decode cX0_init 120 = .ok (.iinc 1 1, 3) := by decide +kernel
theorem dX0_init_123 : decode cX0_init 123 = .ok (.goto (-22), 3) := by decide +kernel
theorem dX0_init_126 : decode cX0_init 126 = .ok (.return_, 1) := by decide +kernel
set_option maxRecDepth 20000 in
theorem ggX0_copyFrom_X4_copyFrom : GoodIn wsX0_copyFrom wsX4_copyFrom := goodIn_r _ [14, 15, 16, 57, 58] (by decide +kernel) (by decide +kernel)
set_option maxRecDepth 20000 in
theorem gX0_copyFrom_X4_copyFrom : GoodIn wsX0_copyFrom (wsV RX0 43 RX4 yX4_copyFrom wsX4_copyFrom) := goodIn_app (goodIn_of _ (by decide +kernel)) ggX0_copyFrom_X4_copyFrom
set_option maxRecDepth 20000 in
theorem ggX0_copyFrom_X1_copyFrom : GoodIn wsX0_copyFrom wsX1_copyFrom := goodIn_r _ [21, 22, 23, 24, 25, 26, 27, 59, 60, 61, 62, 63, 64] (by decide +kernel) (by decide +kernel)
set_option maxRecDepth 20000 in
theorem gX0_copyFrom_X1_copyFrom : GoodIn wsX0_copyFrom (wsV RX0 47 RX1 yX1_copyFrom wsX1_copyFrom) := goodIn_app (goodIn_of _ (by decide +kernel)) ggX0_copyFrom_X1_copyFrom
set_option maxRecDepth 20000 in
theorem ggX0_copyFrom_X5_copyFrom : GoodIn wsX0_copyFrom wsX5_copyFrom := goodIn_r _ [32, 33, 34, 35, 36, 37, 38, 39, 65, 66, 67, 68, 69, 70, 71] (by decide +kernel) (by decide +kernel)
set_option maxRecDepth 20000 in
theorem gX0_copyFrom_X5_copyFrom : GoodIn wsX0_copyFrom (wsV RX0 50 RX5 yX5_copyFrom wsX5_copyFrom) := goodIn_app (goodIn_of _ (by decide +kernel)) ggX0_copyFrom_X5_copyFrom
set_option maxRecDepth 20000 in
theorem ggX0_copyFrom_X7_copyFrom : GoodIn wsX0_copyFrom wsX7_copyFrom := goodIn_r _ [44, 45, 46, 47, 72, 73, 74] (by decide +kernel) (by decide +kernel)
set_option maxRecDepth 20000 in
theorem gX0_copyFrom_X7_copyFrom : GoodIn wsX0_copyFrom (wsV RX0 53 RX7 yX7_copyFrom wsX7_copyFrom) := goodIn_app (goodIn_of _ (by decide +kernel)) ggX0_copyFrom_X7_copyFrom
theorem dX0_copyFrom_0 : decode cX0_copyFrom 0 = .ok (.iconst 0, 1) := by decide +kernel
theorem dX0_copyFrom_1 : decode cX0_copyFrom 1 = .ok (.istore_n 2, 1) := by decide +kernel
theorem dX0_copyFrom_2 : decode cX0_copyFrom 2 = .ok (.iload_n 2, 1) := by decide +kernel
theorem dX0_copyFrom_3 : decode cX0_copyFrom 3 = .ok (.iconst 4, 1) := by decide +kernel
theorem dX0_copyFrom_4 : decode cX0_copyFrom 4 = .ok (.if_icmp .ge 24, 3) := by decide +kernel
theorem dX0_copyFrom_7 : decode cX0_copyFrom 7 = .ok (.aload_n 0, 1) := by decide +kernel
theorem dX0_copyFrom_8 : decode cX0_copyFrom 8 = .ok (.getfield 11, 3) := by decide +kernel
theorem dX0_copyFrom_11 : decode cX0_copyFrom 11 = .ok (.iload_n 2, 1) := by decide +kernel
theorem dX0_copyFrom_12 : decode cX0_copyFrom 12 = .ok (.aaload, 1) := by decide +kernel
theorem dX0_copyFrom_13 : decode cX0_copyFrom 13 = .ok (.aload_n 1, 1) := by decide +kernel
theorem dX0_copyFrom_14 : decode cX0_copyFrom 14 = .ok (.getfield 11, 3) := by decide +kernel
theorem dX0_copyFrom_17 : decode cX0_copyFrom 17 = .ok (.iload_n 2, 1) := by decide +kernel
theorem dX0_copyFrom_18 : decode cX0_copyFrom 18 = .ok (.aaload, 1) := by decide +kernel
theorem dX0_copyFrom_19 : decode cX0_copyFrom 19 = .ok (.invokevirtual 43, 3) := by decide +kernel
theorem dX0_copyFrom_22 : decode cX0_copyFrom 22 = .ok (.iinc 2 1, 3) := by decide +kernel
theorem dX0_copyFrom_25 : decode cX0_copyFrom 25 = .ok (.goto (-23), 3) := by decide +kernel
theorem dX0_copyFrom_28 : decode cX0_copyFrom 28 = .ok (.iconst 0, 1) := by decide +kernel
theorem dX0_copyFrom_29 : decode cX0_copyFrom 29 = .ok (.istore_n 2, 1) := by decide +kernel
theorem dX0_copyFrom_30 : decode cX0_copyFrom 30 = .ok (.iload_n 2, 1) := by decide +kernel
theorem dX0_copyFrom_31 : decode cX0_copyFrom 31 = .ok (.bipush 6, 2) := by decide +kernel
theorem dX0_copyFrom_33 : decode cX0_copyFrom 33 = .ok (.if_icmp .ge 24, 3) := by decide +kernel
theorem dX0_copyFrom_36 : decode cX0_copyFrom 36 = .ok (.aload_n 0, 1) := by decide +kernel
theorem dX0_copyFrom_37 : decode cX0_copyFrom 37 = .ok (.getfield 26, 3) := by decide +kernel
theorem dX0_copyFrom_40 : decode cX0_copyFrom 40 = .ok (.iload_n 2, 1) := by decide +kernel
theorem dX0_copyFrom_41 : decode cX0_copyFrom 41 = .ok (.aaload, 1) := by decide +kernel
theorem dX0_copyFrom_42 : decode cX0_copyFrom 42 = .ok (.aload_n 1, 1) := by decide +kernel
theorem dX0_copyFrom_43 : decode cX0_copyFrom 43 = .ok (.getfield 26, 3) := by decide +kernel
theorem dX0_copyFrom_46 : decode cX0_copyFrom 46 = .ok (.iload_n 2, 1) := by decide +kernel
theorem dX0_copyFrom_47 : decode cX0_copyFrom 47 = .ok (.aaload, 1) := by decide +kernel
theorem dX0_copyFrom_48 : decode cX0_copyFrom 48 = .ok (.invokevirtual 47, 3) := by decide +kernel
theorem dX0_copyFrom_51 : decode cX0_copyFrom 51 = .ok (.iinc 2 1, 3) := by decide +kernel
theorem dX0_copyFrom_54 : decode cX0_copyFrom 54 = .ok (.goto (-24), 3) := by decide +kernel
theorem dX0_copyFrom_57 : decode cX0_copyFrom 57 = .ok (.iconst 0, 1) := by decide +kernel
theorem dX0_copyFrom_58 : decode cX0_copyFrom 58 = .ok (.istore_n 2, 1) := by decide +kernel
theorem dX0_copyFrom_59 : decode cX0_copyFrom 59 = .ok (.iload_n 2, 1) := by decide +kernel
theorem dX0_copyFrom_60 : decode cX0_copyFrom 60 = .ok (.bipush 6, 2) := by decide +kernel
theorem dX0_copyFrom_62 : decode cX0_copyFrom 62 = .ok (.if_icmp .ge 24, 3) := by decide +kernel
theorem dX0_copyFrom_65 : decode cX0_copyFrom 65 = .ok (.aload_n 0, 1) := by decide +kernel
theorem dX0_copyFrom_66 : decode cX0_copyFrom 66 = .ok (.getfield 32, 3) := by decide +kernel
theorem dX0_copyFrom_69 : decode cX0_copyFrom 69 = .ok (.iload_n 2, 1) := by decide +kernel
theorem dX0_copyFrom_70 : decode cX0_copyFrom 70 = .ok (.aaload, 1) := by decide +kernel
theorem dX0_copyFrom_71 : decode cX0_copyFrom 71 = .ok (.aload_n 1, 1) := by decide +kernel
theorem dX0_copyFrom_72 : decode cX0_copyFrom 72 = .ok (.getfield 32, 3) := by decide +kernel
theorem dX0_copyFrom_75 : decode cX0_copyFrom 75 = .ok (.iload_n 2, 1) := by decide +kernel
theorem dX0_copyFrom_76 : decode cX0_copyFrom 76 = .ok (.aaload, 1) := by decide +kernel
theorem dX0_copyFrom_77 : decode cX0_copyFrom 77 = .ok (.invokevirtual 50, 3) := by decide +kernel
theorem dX0_copyFrom_80 : decode cX0_copyFrom 80 = .ok (.iinc 2 1, 3) := by decide +kernel
theorem dX0_copyFrom_83 : decode cX0_copyFrom 83 = .ok (.goto (-24), 3) := by decide +kernel
theorem dX0_copyFrom_86 : decode cX0_copyFrom 86 = .ok (.aload_n 0, 1) := by decide +kernel
theorem dX0_copyFrom_87 : decode cX0_copyFrom 87 = .ok (.getfield 20, 3) := by decide +kernel
theorem dX0_copyFrom_90 : decode cX0_copyFrom 90 = .ok (.aload_n 1, 1) := by decide +kernel
theorem dX0_copyFrom_91 : decode cX0_copyFrom 91 = .ok (.getfield 20, 3) := by decide +kernel
theorem dX0_copyFrom_94 : decode cX0_copyFrom 94 = .ok (.invokevirtual 53, 3) := by decide +kernel
theorem dX0_copyFrom_97 : decode cX0_copyFrom 97 = .ok (.aload_n 0, 1) := by decide +kernel
theorem dX0_copyFrom_98 : decode cX0_copyFrom 98 = .ok (.aload_n 1, 1) := by decide +kernel
theorem dX0_copyFrom_99 : decode cX0_copyFrom 99 = .ok (.getfield 56, 3) := by decide +kernel
theorem dX0_copyFrom_102 : decode cX0_copyFrom 102 = .ok (.putfield 56, 3) := by decide +kernel
theorem dX0_copyFrom_105 : decode cX0_copyFrom 105 = .ok (.aload_n 0, 1) := by decide +kernel
theorem dX0_copyFrom_106 : decode cX0_copyFrom 106 = .ok (.aload_n 1, 1) := by decide +kernel
theorem dX0_copyFrom_107 : decode cX0_copyFrom 107 = .ok (.getfield 59, 3) := by decide +kernel
theorem dX0_copyFrom_110 : decode cX0_copyFrom 110 = .ok (.putfield 59, 3) := by decide +kernel
theorem dX0_copyFrom_113 : decode cX0_copyFrom 113 = .ok (.aload_n 0, 1) := by decide +kernel
theorem dX0_copyFrom_114 : decode cX0_copyFrom 114 = .ok (.aload_n 1, 1) := by decide +kernel
theorem dX0_copyFrom_115 : decode cX0_copyFrom 115 = .ok (.getfield 62, 3) := by decide +kernel
theorem dX0_copyFrom_118 : decode cX0_copyFrom 118 = .ok (.putfield 62, 3) := by decide +kernel
theorem dX0_copyFrom_121 : decode cX0_copyFrom 121 = .ok (.aload_n 0, 1) := by decide +kernel
theorem dX0_copyFrom_122 : decode cX0_copyFrom 122 = .ok (.aload_n 1, 1) := by decide +kernel
theorem dX0_copyFrom_123 : decode cX0_copyFrom 123 = .ok (.getfield 36, 3) := by decide +kernel
theorem dX0_copyFrom_126 : decode cX0_copyFrom 126 = .ok (.putfield 36, 3) := by decide +kernel
theorem dX0_copyFrom_129 : decode cX0_copyFrom 129 = .ok (.aload_n 0, 1) := by decide +kernel
theorem dX0_copyFrom_130 : decode cX0_copyFrom 130 = .ok (.aload_n 1, 1) := by decide +kernel
theorem dX0_copyFrom_131 : decode cX0_copyFrom 131 = .ok (.getfield 65, 3) := by decide +kernel
theorem dX0_copyFrom_134 : decode cX0_copyFrom 134 = .ok (.putfield 65, 3) := by decide +kernel
theorem dX0_copyFrom_137 : decode cX0_copyFrom 137 = .ok (.return_, 1) := by decide +kernel
set_option maxRecDepth 20000 in
theorem ggX0_kindAt_X9_within : GoodIn wsX0_kindAt wsX9_within := goodIn_r _ [4] (by decide +kernel) (by decide +kernel)
set_option maxRecDepth 20000 in
theorem gX0_kindAt_X9_within_n68 : GoodIn wsX0_kindAt (wsX9_within) := ggX0_kindAt_X9_within
theorem dX0_kindAt_0 : decode cX0_kindAt 0 = .ok (.iload_n 1, 1) := by decide +kernel
theorem dX0_kindAt_1 : decode cX0_kindAt 1 = .ok (.iconst 0, 1) := by decide +kernel
theorem dX0_kindAt_2 : decode cX0_kindAt 2 = .ok (.iconst 3, 1) := by decide +kernel
theorem dX0_kindAt_3 : decode cX0_kindAt 3 = .ok (.invokestatic 68, 3) := by decide +kernel
theorem dX0_kindAt_6 : decode cX0_kindAt 6 = .ok (.ifCond .eq 12, 3) := by decide +kernel
theorem dX0_kindAt_9 : decode cX0_kindAt 9 = .ok (.aload_n 0, 1) := by decide +kernel
theorem dX0_kindAt_10 : decode cX0_kindAt 10 = .ok (.getfield 11, 3) := by decide +kernel
theorem dX0_kindAt_13 : decode cX0_kindAt 13 = .ok (.iload_n 1, 1) := by decide +kernel
theorem dX0_kindAt_14 : decode cX0_kindAt 14 = .ok (.aaload, 1) := by decide +kernel
theorem dX0_kindAt_15 : decode cX0_kindAt 15 = .ok (.goto 4, 3) := by decide +kernel
theorem dX0_kindAt_18 : decode cX0_kindAt 18 = .ok (.aconst_null, 1) := by decide +kernel
theorem dX0_kindAt_19 : decode cX0_kindAt 19 = .ok (.areturn, 1) := by decide +kernel
set_option maxRecDepth 20000 in
theorem ggX0_customerAt_X9_within : GoodIn wsX0_customerAt wsX9_within := goodIn_r _ [5] (by decide +kernel) (by decide +kernel)
set_option maxRecDepth 20000 in
theorem gX0_customerAt_X9_within_n68 : GoodIn wsX0_customerAt (wsX9_within) := ggX0_customerAt_X9_within
theorem dX0_customerAt_0 : decode cX0_customerAt 0 = .ok (.iload_n 1, 1) := by decide +kernel
theorem dX0_customerAt_1 : decode cX0_customerAt 1 = .ok (.aload_n 0, 1) := by decide +kernel
theorem dX0_customerAt_2 : decode cX0_customerAt 2 = .ok (.getfield 56, 3) := by decide +kernel
theorem dX0_customerAt_5 : decode cX0_customerAt 5 = .ok (.if_icmp .ge 16, 3) := by decide +kernel
theorem dX0_customerAt_8 : decode cX0_customerAt 8 = .ok (.iload_n 1, 1) := by decide +kernel
theorem dX0_customerAt_9 : decode cX0_customerAt 9 = .ok (.iconst 0, 1) := by decide +kernel
theorem dX0_customerAt_10 : decode cX0_customerAt 10 = .ok (.iconst 5, 1) := by decide +kernel
theorem dX0_customerAt_11 : decode cX0_customerAt 11 = .ok (.invokestatic 68, 3) := by decide +kernel
theorem dX0_customerAt_14 : decode cX0_customerAt 14 = .ok (.ifCond .eq 7, 3) := by decide +kernel
theorem dX0_customerAt_17 : decode cX0_customerAt 17 = .ok (.iconst 1, 1) := by decide +kernel
theorem dX0_customerAt_18 : decode cX0_customerAt 18 = .ok (.goto 4, 3) := by decide +kernel
theorem dX0_customerAt_21 : decode cX0_customerAt 21 = .ok (.iconst 0, 1) := by decide +kernel
theorem dX0_customerAt_22 : decode cX0_customerAt 22 = .ok (.istore_n 2, 1) := by decide +kernel
theorem dX0_customerAt_23 : decode cX0_customerAt 23 = .ok (.iload_n 2, 1) := by decide +kernel
theorem dX0_customerAt_24 : decode cX0_customerAt 24 = .ok (.ifCond .eq 12, 3) := by decide +kernel
theorem dX0_customerAt_27 : decode cX0_customerAt 27 = .ok (.aload_n 0, 1) := by decide +kernel
theorem dX0_customerAt_28 : decode cX0_customerAt 28 = .ok (.getfield 26, 3) := by decide +kernel
theorem dX0_customerAt_31 : decode cX0_customerAt 31 = .ok (.iload_n 1, 1) := by decide +kernel
theorem dX0_customerAt_32 : decode cX0_customerAt 32 = .ok (.aaload, 1) := by decide +kernel
theorem dX0_customerAt_33 : decode cX0_customerAt 33 = .ok (.goto 4, 3) := by decide +kernel
theorem dX0_customerAt_36 : decode cX0_customerAt 36 = .ok (.aconst_null, 1) := by decide +kernel
theorem dX0_customerAt_37 : decode cX0_customerAt 37 = .ok (.areturn, 1) := by decide +kernel
set_option maxRecDepth 20000 in
theorem ggX0_prizeAt_X9_within : GoodIn wsX0_prizeAt wsX9_within := goodIn_r _ [5] (by decide +kernel) (by decide +kernel)
set_option maxRecDepth 20000 in
theorem gX0_prizeAt_X9_within_n68 : GoodIn wsX0_prizeAt (wsX9_within) := ggX0_prizeAt_X9_within
theorem dX0_prizeAt_0 : decode cX0_prizeAt 0 = .ok (.iload_n 1, 1) := by decide +kernel
theorem dX0_prizeAt_1 : decode cX0_prizeAt 1 = .ok (.aload_n 0, 1) := by decide +kernel
theorem dX0_prizeAt_2 : decode cX0_prizeAt 2 = .ok (.getfield 59, 3) := by decide +kernel
theorem dX0_prizeAt_5 : decode cX0_prizeAt 5 = .ok (.if_icmp .ge 16, 3) := by decide +kernel
theorem dX0_prizeAt_8 : decode cX0_prizeAt 8 = .ok (.iload_n 1, 1) := by decide +kernel
theorem dX0_prizeAt_9 : decode cX0_prizeAt 9 = .ok (.iconst 0, 1) := by decide +kernel
theorem dX0_prizeAt_10 : decode cX0_prizeAt 10 = .ok (.iconst 5, 1) := by decide +kernel
theorem dX0_prizeAt_11 : decode cX0_prizeAt 11 = .ok (.invokestatic 68, 3) := by decide +kernel
theorem dX0_prizeAt_14 : decode cX0_prizeAt 14 = .ok (.ifCond .eq 7, 3) := by decide +kernel
theorem dX0_prizeAt_17 : decode cX0_prizeAt 17 = .ok (.iconst 1, 1) := by decide +kernel
theorem dX0_prizeAt_18 : decode cX0_prizeAt 18 = .ok (.goto 4, 3) := by decide +kernel
theorem dX0_prizeAt_21 : decode cX0_prizeAt 21 = .ok (.iconst 0, 1) := by decide +kernel
theorem dX0_prizeAt_22 : decode cX0_prizeAt 22 = .ok (.istore_n 2, 1) := by decide +kernel
theorem dX0_prizeAt_23 : decode cX0_prizeAt 23 = .ok (.iload_n 2, 1) := by decide +kernel
theorem dX0_prizeAt_24 : decode cX0_prizeAt 24 = .ok (.ifCond .eq 12, 3) := by decide +kernel
theorem dX0_prizeAt_27 : decode cX0_prizeAt 27 = .ok (.aload_n 0, 1) := by decide +kernel
theorem dX0_prizeAt_28 : decode cX0_prizeAt 28 = .ok (.getfield 32, 3) := by decide +kernel
theorem dX0_prizeAt_31 : decode cX0_prizeAt 31 = .ok (.iload_n 1, 1) := by decide +kernel
theorem dX0_prizeAt_32 : decode cX0_prizeAt 32 = .ok (.aaload, 1) := by decide +kernel
theorem dX0_prizeAt_33 : decode cX0_prizeAt 33 = .ok (.goto 4, 3) := by decide +kernel
theorem dX0_prizeAt_36 : decode cX0_prizeAt 36 = .ok (.aconst_null, 1) := by decide +kernel
theorem dX0_prizeAt_37 : decode cX0_prizeAt 37 = .ok (.areturn, 1) := by decide +kernel
set_option maxRecDepth 20000 in
theorem ggX0_changeKind_X0_kindAt : GoodIn wsX0_changeKind wsX0_kindAt := goodIn_r _ [8, 9, 10, 11, 12, 15, 16, 17, 18, 19, 20, 21, 22, 23] (by decide +kernel) (by decide +kernel)
set_option maxRecDepth 20000 in
theorem gX0_changeKind_X0_kindAt : GoodIn wsX0_changeKind (wsV RX0 72 RX0 yX0_kindAt wsX0_kindAt) := goodIn_app (goodIn_of _ (by decide +kernel)) ggX0_changeKind_X0_kindAt
set_option maxRecDepth 20000 in
theorem ggX0_changeKind_X9_within : GoodIn wsX0_changeKind wsX9_within := goodIn_r _ [12] (by decide +kernel) (by decide +kernel)
set_option maxRecDepth 20000 in
theorem gX0_changeKind_X9_within_n68 : GoodIn wsX0_changeKind (wsX9_within) := ggX0_changeKind_X9_within
theorem dX0_changeKind_0 : decode cX0_changeKind 0 = .ok (.aload_n 0, 1) := by decide +kernel
theorem dX0_changeKind_1 : decode cX0_changeKind 1 = .ok (.iload_n 1, 1) := by decide +kernel
theorem dX0_changeKind_2 : decode cX0_changeKind 2 = .ok (.invokevirtual 72, 3) := by decide +kernel
theorem dX0_changeKind_5 : decode cX0_changeKind 5 = .ok (.astore 4, 2) := by decide +kernel
theorem dX0_changeKind_7 : decode cX0_changeKind 7 = .ok (.aload 4, 2) := by decide +kernel
theorem dX0_changeKind_9 : decode cX0_changeKind 9 = .ok (.ifnull 25, 3) := by decide +kernel
theorem dX0_changeKind_12 : decode cX0_changeKind 12 = .ok (.iload_n 2, 1) := by decide +kernel
theorem dX0_changeKind_13 : decode cX0_changeKind 13 = .ok (.bipush 100, 2) := by decide +kernel
theorem dX0_changeKind_15 : decode cX0_changeKind 15 = .ok (.sipush 5000, 3) := by decide +kernel
theorem dX0_changeKind_18 : decode cX0_changeKind 18 = .ok (.invokestatic 68, 3) := by decide +kernel
theorem dX0_changeKind_21 : decode cX0_changeKind 21 = .ok (.ifCond .eq 13, 3) := by decide +kernel
theorem dX0_changeKind_24 : decode cX0_changeKind 24 = .ok (.iload_n 3, 1) := by decide +kernel
theorem dX0_changeKind_25 : decode cX0_changeKind 25 = .ok (.iconst 0, 1) := by decide +kernel
theorem dX0_changeKind_26 : decode cX0_changeKind 26 = .ok (.bipush 50, 2) := by decide +kernel
theorem dX0_changeKind_28 : decode cX0_changeKind 28 = .ok (.invokestatic 68, 3) := by decide +kernel
theorem dX0_changeKind_31 : decode cX0_changeKind 31 = .ok (.ifCond .ne 6, 3) := by decide +kernel
theorem dX0_changeKind_34 : decode cX0_changeKind 34 = .ok (.ldc 76, 2) := by decide +kernel
theorem dX0_changeKind_36 : decode cX0_changeKind 36 = .ok (.ireturn, 1) := by decide +kernel
theorem dX0_changeKind_37 : decode cX0_changeKind 37 = .ok (.aload 4, 2) := by decide +kernel
theorem dX0_changeKind_39 : decode cX0_changeKind 39 = .ok (.getfield 77, 3) := by decide +kernel
theorem dX0_changeKind_42 : decode cX0_changeKind 42 = .ok (.istore 5, 2) := by decide +kernel
theorem dX0_changeKind_44 : decode cX0_changeKind 44 = .ok (.aload 4, 2) := by decide +kernel
theorem dX0_changeKind_46 : decode cX0_changeKind 46 = .ok (.iload_n 2, 1) := by decide +kernel
theorem dX0_changeKind_47 : decode cX0_changeKind 47 = .ok (.putfield 77, 3) := by decide +kernel
theorem dX0_changeKind_50 : decode cX0_changeKind 50 = .ok (.aload 4, 2) := by decide +kernel
theorem dX0_changeKind_52 : decode cX0_changeKind 52 = .ok (.iload_n 3, 1) := by decide +kernel
theorem dX0_changeKind_53 : decode cX0_changeKind 53 = .ok (.putfield 80, 3) := by decide +kernel
theorem dX0_changeKind_56 : decode cX0_changeKind 56 = .ok (.iload 5, 2) := by decide +kernel
theorem dX0_changeKind_58 : decode cX0_changeKind 58 = .ok (.ireturn, 1) := by decide +kernel
set_option maxRecDepth 20000 in
theorem ggX0_changeScale_X9_within : GoodIn wsX0_changeScale wsX9_within := goodIn_r _ [15] (by decide +kernel) (by decide +kernel)
set_option maxRecDepth 20000 in
theorem gX0_changeScale_X9_within_n68 : GoodIn wsX0_changeScale (wsX9_within) := ggX0_changeScale_X9_within
theorem dX0_changeScale_0 : decode cX0_changeScale 0 = .ok (.iload_n 1, 1) := by decide +kernel
theorem dX0_changeScale_1 : decode cX0_changeScale 1 = .ok (.iconst 1, 1) := by decide +kernel
theorem dX0_changeScale_2 : decode cX0_changeScale 2 = .ok (.sipush 1000, 3) := by decide +kernel
theorem dX0_changeScale_5 : decode cX0_changeScale 5 = .ok (.invokestatic 68, 3) := by decide +kernel
theorem dX0_changeScale_8 : decode cX0_changeScale 8 = .ok (.ifCond .eq 14, 3) := by decide +kernel
theorem dX0_changeScale_11 : decode cX0_changeScale 11 = .ok (.iload_n 2, 1) := by decide +kernel
theorem dX0_changeScale_12 : decode cX0_changeScale 12 = .ok (.iconst 0, 1) := by decide +kernel
theorem dX0_changeScale_13 : decode cX0_changeScale 13 = .ok (.sipush 2000, 3) := by decide +kernel
theorem dX0_changeScale_16 : decode cX0_changeScale 16 = .ok (.invokestatic 68, 3) := by decide +kernel
theorem dX0_changeScale_19 : decode cX0_changeScale 19 = .ok (.ifCond .ne 6, 3) := by decide +kernel
theorem dX0_changeScale_22 : decode cX0_changeScale 22 = .ok (.ldc 76, 2) := by decide +kernel
theorem dX0_changeScale_24 : decode cX0_changeScale 24 = .ok (.ireturn, 1) := by decide +kernel
theorem dX0_changeScale_25 : decode cX0_changeScale 25 = .ok (.aload_n 0, 1) := by decide +kernel
theorem dX0_changeScale_26 : decode cX0_changeScale 26 = .ok (.getfield 20, 3) := by decide +kernel
theorem dX0_changeScale_29 : decode cX0_changeScale 29 = .ok (.iload_n 1, 1) := by decide +kernel
theorem dX0_changeScale_30 : decode cX0_changeScale 30 = .ok (.putfield 83, 3) := by decide +kernel
theorem dX0_changeScale_33 : decode cX0_changeScale 33 = .ok (.aload_n 0, 1) := by decide +kernel
theorem dX0_changeScale_34 : decode cX0_changeScale 34 = .ok (.getfield 20, 3) := by decide +kernel
theorem dX0_changeScale_37 : decode cX0_changeScale 37 = .ok (.iload_n 2, 1) := by decide +kernel
theorem dX0_changeScale_38 : decode cX0_changeScale 38 = .ok (.putfield 86, 3) := by decide +kernel
theorem dX0_changeScale_41 : decode cX0_changeScale 41 = .ok (.aload_n 0, 1) := by decide +kernel
theorem dX0_changeScale_42 : decode cX0_changeScale 42 = .ok (.getfield 20, 3) := by decide +kernel
theorem dX0_changeScale_45 : decode cX0_changeScale 45 = .ok (.iload_n 2, 1) := by decide +kernel
theorem dX0_changeScale_46 : decode cX0_changeScale 46 = .ok (.ineg, 1) := by decide +kernel
theorem dX0_changeScale_47 : decode cX0_changeScale 47 = .ok (.iload_n 2, 1) := by decide +kernel
theorem dX0_changeScale_48 : decode cX0_changeScale 48 = .ok (.aload_n 0, 1) := by decide +kernel
theorem dX0_changeScale_49 : decode cX0_changeScale 49 = .ok (.getfield 20, 3) := by decide +kernel
theorem dX0_changeScale_52 : decode cX0_changeScale 52 = .ok (.getfield 89, 3) := by decide +kernel
theorem dX0_changeScale_55 : decode cX0_changeScale 55 = .ok (.invokestatic 92, 3) := by decide +kernel
theorem dX0_changeScale_58 : decode cX0_changeScale 58 = .ok (.invokestatic 98, 3) := by decide +kernel
theorem dX0_changeScale_61 : decode cX0_changeScale 61 = .ok (.putfield 89, 3) := by decide +kernel
theorem dX0_changeScale_64 : decode cX0_changeScale 64 = .ok (.aload_n 0, 1) := by decide +kernel
theorem dX0_changeScale_65 : decode cX0_changeScale 65 = .ok (.getfield 20, 3) := by decide +kernel
theorem dX0_changeScale_68 : decode cX0_changeScale 68 = .ok (.getfield 89, 3) := by decide +kernel
theorem dX0_changeScale_71 : decode cX0_changeScale 71 = .ok (.ireturn, 1) := by decide +kernel
set_option maxRecDepth 20000 in
theorem ggX0_changeBias_X9_within : GoodIn wsX0_changeBias wsX9_within := goodIn_r _ [7] (by decide +kernel) (by decide +kernel)
set_option maxRecDepth 20000 in
theorem gX0_changeBias_X9_within_n68 : GoodIn wsX0_changeBias (wsX9_within) := ggX0_changeBias_X9_within
theorem dX0_changeBias_0 : decode cX0_changeBias 0 = .ok (.iload_n 1, 1) := by decide +kernel
theorem dX0_changeBias_1 : decode cX0_changeBias 1 = .ok (.aload_n 0, 1) := by decide +kernel
theorem dX0_changeBias_2 : decode cX0_changeBias 2 = .ok (.getfield 20, 3) := by decide +kernel
theorem dX0_changeBias_5 : decode cX0_changeBias 5 = .ok (.getfield 86, 3) := by decide +kernel
theorem dX0_changeBias_8 : decode cX0_changeBias 8 = .ok (.ineg, 1) := by decide +kernel
theorem dX0_changeBias_9 : decode cX0_changeBias 9 = .ok (.aload_n 0, 1) := by decide +kernel
theorem dX0_changeBias_10 : decode cX0_changeBias 10 = .ok (.getfield 20, 3) := by decide +kernel
theorem dX0_changeBias_13 : decode cX0_changeBias 13 = .ok (.getfield 86, 3) := by decide +kernel
theorem dX0_changeBias_16 : decode cX0_changeBias 16 = .ok (.invokestatic 68, 3) := by decide +kernel
theorem dX0_changeBias_19 : decode cX0_changeBias 19 = .ok (.ifCond .ne 6, 3) := by decide +kernel
theorem dX0_changeBias_22 : decode cX0_changeBias 22 = .ok (.ldc 76, 2) := by decide +kernel
theorem dX0_changeBias_24 : decode cX0_changeBias 24 = .ok (.ireturn, 1) := by decide +kernel
theorem dX0_changeBias_25 : decode cX0_changeBias 25 = .ok (.aload_n 0, 1) := by decide +kernel
theorem dX0_changeBias_26 : decode cX0_changeBias 26 = .ok (.getfield 20, 3) := by decide +kernel
theorem dX0_changeBias_29 : decode cX0_changeBias 29 = .ok (.getfield 89, 3) := by decide +kernel
theorem dX0_changeBias_32 : decode cX0_changeBias 32 = .ok (.istore_n 2, 1) := by decide +kernel
theorem dX0_changeBias_33 : decode cX0_changeBias 33 = .ok (.aload_n 0, 1) := by decide +kernel
theorem dX0_changeBias_34 : decode cX0_changeBias 34 = .ok (.getfield 20, 3) := by decide +kernel
theorem dX0_changeBias_37 : decode cX0_changeBias 37 = .ok (.iload_n 1, 1) := by decide +kernel
theorem dX0_changeBias_38 : decode cX0_changeBias 38 = .ok (.putfield 89, 3) := by decide +kernel
theorem dX0_changeBias_41 : decode cX0_changeBias 41 = .ok (.iload_n 2, 1) := by decide +kernel
theorem dX0_changeBias_42 : decode cX0_changeBias 42 = .ok (.ireturn, 1) := by decide +kernel
set_option maxRecDepth 20000 in
theorem ggX0_changeRule_X9_within : GoodIn wsX0_changeRule wsX9_within := goodIn_r _ [5] (by decide +kernel) (by decide +kernel)
set_option maxRecDepth 20000 in
theorem gX0_changeRule_X9_within_n68 : GoodIn wsX0_changeRule (wsX9_within) := ggX0_changeRule_X9_within
theorem dX0_changeRule_0 : decode cX0_changeRule 0 = .ok (.iload_n 1, 1) := by decide +kernel
theorem dX0_changeRule_1 : decode cX0_changeRule 1 = .ok (.iconst 0, 1) := by decide +kernel
theorem dX0_changeRule_2 : decode cX0_changeRule 2 = .ok (.iconst 3, 1) := by decide +kernel
theorem dX0_changeRule_3 : decode cX0_changeRule 3 = .ok (.invokestatic 68, 3) := by decide +kernel
theorem dX0_changeRule_6 : decode cX0_changeRule 6 = .ok (.ifCond .ne 6, 3) := by decide +kernel
theorem dX0_changeRule_9 : decode cX0_changeRule 9 = .ok (.ldc 76, 2) := by decide +kernel
theorem dX0_changeRule_11 : decode cX0_changeRule 11 = .ok (.ireturn, 1) := by decide +kernel
theorem dX0_changeRule_12 : decode cX0_changeRule 12 = .ok (.aload_n 0, 1) := by decide +kernel
theorem dX0_changeRule_13 : decode cX0_changeRule 13 = .ok (.getfield 62, 3) := by decide +kernel
theorem dX0_changeRule_16 : decode cX0_changeRule 16 = .ok (.istore_n 2, 1) := by decide +kernel
theorem dX0_changeRule_17 : decode cX0_changeRule 17 = .ok (.aload_n 0, 1) := by decide +kernel
theorem dX0_changeRule_18 : decode cX0_changeRule 18 = .ok (.iload_n 1, 1) := by decide +kernel
theorem dX0_changeRule_19 : decode cX0_changeRule 19 = .ok (.putfield 62, 3) := by decide +kernel
theorem dX0_changeRule_22 : decode cX0_changeRule 22 = .ok (.iload_n 2, 1) := by decide +kernel
theorem dX0_changeRule_23 : decode cX0_changeRule 23 = .ok (.ireturn, 1) := by decide +kernel
set_option maxRecDepth 20000 in
theorem ggX0_addCustomer_X9_within : GoodIn wsX0_addCustomer wsX9_within := goodIn_r _ [7] (by decide +kernel) (by decide +kernel)
set_option maxRecDepth 20000 in
theorem gX0_addCustomer_X9_within_n68 : GoodIn wsX0_addCustomer (wsX9_within) := ggX0_addCustomer_X9_within
set_option maxRecDepth 20000 in
theorem ggX0_addCustomer_X1_begin : GoodIn wsX0_addCustomer wsX1_begin := goodIn_r _ [12, 13, 14, 24, 25, 26, 27, 28, 29] (by decide +kernel) (by decide +kernel)
set_option maxRecDepth 20000 in
theorem gX0_addCustomer_X1_begin : GoodIn wsX0_addCustomer (wsV RX0 102 RX1 yX1_begin wsX1_begin) := goodIn_app (goodIn_of _ (by decide +kernel)) ggX0_addCustomer_X1_begin
theorem dX0_addCustomer_0 : decode cX0_addCustomer 0 = .ok (.iload_n 1, 1) := by decide +kernel
theorem dX0_addCustomer_1 : decode cX0_addCustomer 1 = .ok (.iconst 0, 1) := by decide +kernel
theorem dX0_addCustomer_2 : decode cX0_addCustomer 2 = .ok (.sipush 9999, 3) := by decide +kernel
theorem dX0_addCustomer_5 : decode cX0_addCustomer 5 = .ok (.invokestatic 68, 3) := by decide +kernel
theorem dX0_addCustomer_8 : decode cX0_addCustomer 8 = .ok (.ifCond .ne 6, 3) := by decide +kernel
theorem dX0_addCustomer_11 : decode cX0_addCustomer 11 = .ok (.ldc 76, 2) := by decide +kernel
theorem dX0_addCustomer_13 : decode cX0_addCustomer 13 = .ok (.ireturn, 1) := by decide +kernel
theorem dX0_addCustomer_14 : decode cX0_addCustomer 14 = .ok (.aload_n 0, 1) := by decide +kernel
theorem dX0_addCustomer_15 : decode cX0_addCustomer 15 = .ok (.getfield 56, 3) := by decide +kernel
theorem dX0_addCustomer_18 : decode cX0_addCustomer 18 = .ok (.iconst 0, 1) := by decide +kernel
theorem dX0_addCustomer_19 : decode cX0_addCustomer 19 = .ok (.iconst 5, 1) := by decide +kernel
theorem dX0_addCustomer_20 : decode cX0_addCustomer 20 = .ok (.invokestatic 68, 3) := by decide +kernel
theorem dX0_addCustomer_23 : decode cX0_addCustomer 23 = .ok (.ifCond .ne 6, 3) := by decide +kernel
theorem dX0_addCustomer_26 : decode cX0_addCustomer 26 = .ok (.ldc 101, 2) := by decide +kernel
theorem dX0_addCustomer_28 : decode cX0_addCustomer 28 = .ok (.ireturn, 1) := by decide +kernel
theorem dX0_addCustomer_29 : decode cX0_addCustomer 29 = .ok (.aload_n 0, 1) := by decide +kernel
theorem dX0_addCustomer_30 : decode cX0_addCustomer 30 = .ok (.getfield 26, 3) := by decide +kernel
theorem dX0_addCustomer_33 : decode cX0_addCustomer 33 = .ok (.aload_n 0, 1) := by decide +kernel
theorem dX0_addCustomer_34 : decode cX0_addCustomer 34 = .ok (.getfield 56, 3) := by decide +kernel
theorem dX0_addCustomer_37 : decode cX0_addCustomer 37 = .ok (.aaload, 1) := by decide +kernel
theorem dX0_addCustomer_38 : decode cX0_addCustomer 38 = .ok (.iload_n 1, 1) := by decide +kernel
theorem dX0_addCustomer_39 : decode cX0_addCustomer 39 = .ok (.invokevirtual 102, 3) := by decide +kernel
theorem dX0_addCustomer_42 : decode cX0_addCustomer 42 = .ok (.aload_n 0, 1) := by decide +kernel
theorem dX0_addCustomer_43 : decode cX0_addCustomer 43 = .ok (.dup, 1) := by decide +kernel
theorem dX0_addCustomer_44 : decode cX0_addCustomer 44 = .ok (.getfield 56, 3) := by decide +kernel
theorem dX0_addCustomer_47 : decode cX0_addCustomer 47 = .ok (.iconst 1, 1) := by decide +kernel
theorem dX0_addCustomer_48 : decode cX0_addCustomer 48 = .ok (.iadd, 1) := by decide +kernel
theorem dX0_addCustomer_49 : decode cX0_addCustomer 49 = .ok (.putfield 56, 3) := by decide +kernel
theorem dX0_addCustomer_52 : decode cX0_addCustomer 52 = .ok (.aload_n 0, 1) := by decide +kernel
theorem dX0_addCustomer_53 : decode cX0_addCustomer 53 = .ok (.getfield 56, 3) := by decide +kernel
theorem dX0_addCustomer_56 : decode cX0_addCustomer 56 = .ok (.iconst 1, 1) := by decide +kernel
theorem dX0_addCustomer_57 : decode cX0_addCustomer 57 = .ok (.isub, 1) := by decide +kernel
theorem dX0_addCustomer_58 : decode cX0_addCustomer 58 = .ok (.ireturn, 1) := by decide +kernel
set_option maxRecDepth 20000 in
theorem ggX0_dropCustomer_X0_customerAt : GoodIn wsX0_dropCustomer wsX0_customerAt := goodIn_r _ [9, 4, 3, 10, 11, 12, 26, 27, 28, 29, 30, 31, 32, 33, 34] (by decide +kernel) (by decide +kernel)
set_option maxRecDepth 20000 in
theorem gX0_dropCustomer_X0_customerAt : GoodIn wsX0_dropCustomer (wsV RX0 106 RX0 yX0_customerAt wsX0_customerAt) := goodIn_app (goodIn_of _ (by decide +kernel)) ggX0_dropCustomer_X0_customerAt
set_option maxRecDepth 20000 in
theorem ggX0_dropCustomer_X1_begin : GoodIn wsX0_dropCustomer wsX1_begin := goodIn_r _ [17, 18, 19, 20, 21, 22, 23, 24, 25] (by decide +kernel) (by decide +kernel)
set_option maxRecDepth 20000 in
theorem gX0_dropCustomer_X1_begin : GoodIn wsX0_dropCustomer (wsV RX0 102 RX1 yX1_begin wsX1_begin) := goodIn_app (goodIn_of _ (by decide +kernel)) ggX0_dropCustomer_X1_begin
theorem dX0_dropCustomer_0 : decode cX0_dropCustomer 0 = .ok (.aload_n 0, 1) := by decide +kernel
theorem dX0_dropCustomer_1 : decode cX0_dropCustomer 1 = .ok (.iload_n 1, 1) := by decide +kernel
theorem dX0_dropCustomer_2 : decode cX0_dropCustomer 2 = .ok (.invokevirtual 106, 3) := by decide +kernel
theorem dX0_dropCustomer_5 : decode cX0_dropCustomer 5 = .ok (.astore_n 2, 1) := by decide +kernel
theorem dX0_dropCustomer_6 : decode cX0_dropCustomer 6 = .ok (.aload_n 2, 1) := by decide +kernel
theorem dX0_dropCustomer_7 : decode cX0_dropCustomer 7 = .ok (.ifnonnull 6, 3) := by decide +kernel
theorem dX0_dropCustomer_10 : decode cX0_dropCustomer 10 = .ok (.ldc 76, 2) := by decide +kernel
theorem dX0_dropCustomer_12 : decode cX0_dropCustomer 12 = .ok (.ireturn, 1) := by decide +kernel
theorem dX0_dropCustomer_13 : decode cX0_dropCustomer 13 = .ok (.aload_n 2, 1) := by decide +kernel
theorem dX0_dropCustomer_14 : decode cX0_dropCustomer 14 = .ok (.getfield 110, 3) := by decide +kernel
theorem dX0_dropCustomer_17 : decode cX0_dropCustomer 17 = .ok (.istore_n 3, 1) := by decide +kernel
theorem dX0_dropCustomer_18 : decode cX0_dropCustomer 18 = .ok (.iload_n 1, 1) := by decide +kernel
theorem dX0_dropCustomer_19 : decode cX0_dropCustomer 19 = .ok (.istore 4, 2) := by decide +kernel
theorem dX0_dropCustomer_21 : decode cX0_dropCustomer 21 = .ok (.iload 4, 2) := by decide +kernel
theorem dX0_dropCustomer_23 : decode cX0_dropCustomer 23 = .ok (.iconst 5, 1) := by decide +kernel
theorem dX0_dropCustomer_24 : decode cX0_dropCustomer 24 = .ok (.if_icmp .ge 25, 3) := by decide +kernel
theorem dX0_dropCustomer_27 : decode cX0_dropCustomer 27 = .ok (.aload_n 0, 1) := by decide +kernel
theorem dX0_dropCustomer_28 : decode cX0_dropCustomer 28 = .ok (.getfield 26, 3) := by decide +kernel
theorem dX0_dropCustomer_31 : decode cX0_dropCustomer 31 = .ok (.iload 4, 2) := by decide +kernel
theorem dX0_dropCustomer_33 : decode cX0_dropCustomer 33 = .ok (.aload_n 0, 1) := by decide +kernel
theorem dX0_dropCustomer_34 : decode cX0_dropCustomer 34 = .ok (.getfield 26, 3) := by decide +kernel
theorem dX0_dropCustomer_37 : decode cX0_dropCustomer 37 = .ok (.iload 4, 2) := by decide +kernel
theorem dX0_dropCustomer_39 : decode cX0_dropCustomer 39 = .ok (.iconst 1, 1) := by decide +kernel
theorem dX0_dropCustomer_40 : decode cX0_dropCustomer 40 = .ok (.iadd, 1) := by decide +kernel
theorem dX0_dropCustomer_41 : decode cX0_dropCustomer 41 = .ok (.aaload, 1) := by decide +kernel
theorem dX0_dropCustomer_42 : decode cX0_dropCustomer 42 = .ok (.aastore, 1) := by decide +kernel
theorem dX0_dropCustomer_43 : decode cX0_dropCustomer 43 = .ok (.iinc 4 1, 3) := by decide +kernel
theorem dX0_dropCustomer_46 : decode cX0_dropCustomer 46 = .ok (.goto (-25), 3) := by decide +kernel
theorem dX0_dropCustomer_49 : decode cX0_dropCustomer 49 = .ok (.aload_n 0, 1) := by decide +kernel
theorem dX0_dropCustomer_50 : decode cX0_dropCustomer 50 = .ok (.getfield 26, 3) := by decide +kernel
theorem dX0_dropCustomer_53 : decode cX0_dropCustomer 53 = .ok (.iconst 5, 1) := by decide +kernel
theorem dX0_dropCustomer_54 : decode cX0_dropCustomer 54 = .ok (.aload_n 2, 1) := by decide +kernel
theorem dX0_dropCustomer_55 : decode cX0_dropCustomer 55 = .ok (.aastore, 1) := by decide +kernel
theorem dX0_dropCustomer_56 : decode cX0_dropCustomer 56 = .ok (.aload_n 2, 1) := by decide +kernel
theorem dX0_dropCustomer_57 : decode cX0_dropCustomer 57 = .ok (.iconst 0, 1) := by decide +kernel
theorem dX0_dropCustomer_58 : decode cX0_dropCustomer 58 = .ok (.invokevirtual 102, 3) := by decide +kernel
theorem dX0_dropCustomer_61 : decode cX0_dropCustomer 61 = .ok (.aload_n 0, 1) := by decide +kernel
theorem dX0_dropCustomer_62 : decode cX0_dropCustomer 62 = .ok (.dup, 1) := by decide +kernel
theorem dX0_dropCustomer_63 : decode cX0_dropCustomer 63 = .ok (.getfield 56, 3) := by decide +kernel
theorem dX0_dropCustomer_66 : decode cX0_dropCustomer 66 = .ok (.iconst 1, 1) := by decide +kernel
theorem dX0_dropCustomer_67 : decode cX0_dropCustomer 67 = .ok (.isub, 1) := by decide +kernel
theorem dX0_dropCustomer_68 : decode cX0_dropCustomer 68 = .ok (.putfield 56, 3) := by decide +kernel
theorem dX0_dropCustomer_71 : decode cX0_dropCustomer 71 = .ok (.iload_n 3, 1) := by decide +kernel
theorem dX0_dropCustomer_72 : decode cX0_dropCustomer 72 = .ok (.ireturn, 1) := by decide +kernel
set_option maxRecDepth 20000 in
theorem ggX0_weighBundle_X0_customerAt : GoodIn wsX0_weighBundle wsX0_customerAt := goodIn_r _ [13, 14, 15, 16, 17, 18, 103, 104, 105, 106, 107, 108, 109, 110, 111] (by decide +kernel) (by decide +kernel)
set_option maxRecDepth 20000 in
theorem gX0_weighBundle_X0_customerAt : GoodIn wsX0_weighBundle (wsV RX0 106 RX0 yX0_customerAt wsX0_customerAt) := goodIn_app (goodIn_of _ (by decide +kernel)) ggX0_weighBundle_X0_customerAt
set_option maxRecDepth 20000 in
theorem ggX0_weighBundle_X0_kindAt : GoodIn wsX0_weighBundle wsX0_kindAt := goodIn_r _ [22, 23, 16, 17, 18, 103, 104, 105, 106, 107, 108, 109, 110, 111] (by decide +kernel) (by decide +kernel)
set_option maxRecDepth 20000 in
theorem gX0_weighBundle_X0_kindAt : GoodIn wsX0_weighBundle (wsV RX0 72 RX0 yX0_kindAt wsX0_kindAt) := goodIn_app (goodIn_of _ (by decide +kernel)) ggX0_weighBundle_X0_kindAt
set_option maxRecDepth 20000 in
theorem ggX0_weighBundle_X9_within : GoodIn wsX0_weighBundle wsX9_within := goodIn_r _ [18] (by decide +kernel) (by decide +kernel)
set_option maxRecDepth 20000 in
theorem gX0_weighBundle_X9_within_n68 : GoodIn wsX0_weighBundle (wsX9_within) := ggX0_weighBundle_X9_within
set_option maxRecDepth 20000 in
theorem ggX0_weighBundle_X9_readingAt : GoodIn wsX0_weighBundle wsX9_readingAt := goodIn_r _ [25, 26, 27, 28, 29, 30, 31, 17, 32, 33, 34, 35, 36] (by decide +kernel) (by decide +kernel)
set_option maxRecDepth 20000 in
theorem gX0_weighBundle_X9_readingAt_n113 : GoodIn wsX0_weighBundle (wsX9_readingAt) := ggX0_weighBundle_X9_readingAt
set_option maxRecDepth 20000 in
theorem ggX0_weighBundle_X7_guessFrom : GoodIn wsX0_weighBundle wsX7_guessFrom := goodIn_r _ [41, 42, 43, 44, 45, 28, 46, 47, 27, 29, 48, 49, 50, 40, 51, 52, 53, 54, 55, 56, 57, 58, 59, 60, 61, 62, 63, 64, 31, 17, 32, 33, 34, 35, 36, 65, 66, 67, 68, 69, 70, 71, 72, 73, 74, 75, 76, 77, 78, 79, 80, 81, 82, 83, 84, 101, 102, 112, 113, 114] (by decide +kernel) (by decide +kernel)
set_option maxRecDepth 20000 in
theorem gX0_weighBundle_X7_guessFrom : GoodIn wsX0_weighBundle (wsV RX0 116 RX7 yX7_guessFrom wsX7_guessFrom) := goodIn_app (goodIn_of _ (by decide +kernel)) ggX0_weighBundle_X7_guessFrom
set_option maxRecDepth 20000 in
theorem ggX0_weighBundle_X1_gain : GoodIn wsX0_weighBundle wsX1_gain := goodIn_r _ [89, 90, 91, 27, 28, 29, 115, 116, 117, 118, 119, 120] (by decide +kernel) (by decide +kernel)
set_option maxRecDepth 20000 in
theorem gX0_weighBundle_X1_gain : GoodIn wsX0_weighBundle (wsV RX0 120 RX1 yX1_gain wsX1_gain) := goodIn_app (goodIn_of _ (by decide +kernel)) ggX0_weighBundle_X1_gain
end
section
set_option maxRecDepth 20000 in
theorem ggX0_weighBundle_X1_keep : GoodIn wsX0_weighBundle wsX1_keep := goodIn_r _ [95, 96, 97, 98, 99, 100, 115, 116, 117, 118, 119, 120] (by decide +kernel) (by decide +kernel)
set_option maxRecDepth 20000 in
theorem gX0_weighBundle_X1_keep : GoodIn wsX0_weighBundle (wsV RX0 123 RX1 yX1_keep wsX1_keep) := goodIn_app (goodIn_of _ (by decide +kernel)) ggX0_weighBundle_X1_keep
theorem dX0_weighBundle_0 : decode cX0_weighBundle 0 = .ok (.aload_n 0, 1) := by decide +kernel
theorem dX0_weighBundle_1 : decode cX0_weighBundle 1 = .ok (.iload_n 1, 1) := by decide +kernel
theorem dX0_weighBundle_2 : decode cX0_weighBundle 2 = .ok (.invokevirtual 106, 3) := by decide +kernel
theorem dX0_weighBundle_5 : decode cX0_weighBundle 5 = .ok (.astore 5, 2) := by decide +kernel
theorem dX0_weighBundle_7 : decode cX0_weighBundle 7 = .ok (.aload_n 0, 1) := by decide +kernel
theorem dX0_weighBundle_8 : decode cX0_weighBundle 8 = .ok (.iload_n 2, 1) := by decide +kernel
theorem dX0_weighBundle_9 : decode cX0_weighBundle 9 = .ok (.invokevirtual 72, 3) := by decide +kernel
theorem dX0_weighBundle_12 : decode cX0_weighBundle 12 = .ok (.astore 6, 2) := by decide +kernel
theorem dX0_weighBundle_14 : decode cX0_weighBundle 14 = .ok (.aload 5, 2) := by decide +kernel
theorem dX0_weighBundle_16 : decode cX0_weighBundle 16 = .ok (.ifnull 19, 3) := by decide +kernel
theorem dX0_weighBundle_19 : decode cX0_weighBundle 19 = .ok (.aload 6, 2) := by decide +kernel
theorem dX0_weighBundle_21 : decode cX0_weighBundle 21 = .ok (.ifnull 14, 3) := by decide +kernel
theorem dX0_weighBundle_24 : decode cX0_weighBundle 24 = .ok (.iload_n 3, 1) := by decide +kernel
theorem dX0_weighBundle_25 : decode cX0_weighBundle 25 = .ok (.iconst 1, 1) := by decide +kernel
theorem dX0_weighBundle_26 : decode cX0_weighBundle 26 = .ok (.sipush 500, 3) := by decide +kernel
theorem dX0_weighBundle_29 : decode cX0_weighBundle 29 = .ok (.invokestatic 68, 3) := by decide +kernel
theorem dX0_weighBundle_32 : decode cX0_weighBundle 32 = .ok (.ifCond .ne 6, 3) := by decide +kernel
theorem dX0_weighBundle_35 : decode cX0_weighBundle 35 = .ok (.ldc 76, 2) := by decide +kernel
theorem dX0_weighBundle_37 : decode cX0_weighBundle 37 = .ok (.ireturn, 1) := by decide +kernel
theorem dX0_weighBundle_38 : decode cX0_weighBundle 38 = .ok (.iload_n 3, 1) := by decide +kernel
theorem dX0_weighBundle_39 : decode cX0_weighBundle 39 = .ok (.aload 6, 2) := by decide +kernel
theorem dX0_weighBundle_41 : decode cX0_weighBundle 41 = .ok (.getfield 80, 3) := by decide +kernel
theorem dX0_weighBundle_44 : decode cX0_weighBundle 44 = .ok (.imul, 1) := by decide +kernel
theorem dX0_weighBundle_45 : decode cX0_weighBundle 45 = .ok (.istore 7, 2) := by decide +kernel
theorem dX0_weighBundle_47 : decode cX0_weighBundle 47 = .ok (.iload 4, 2) := by decide +kernel
theorem dX0_weighBundle_49 : decode cX0_weighBundle 49 = .ok (.iload 7, 2) := by decide +kernel
theorem dX0_weighBundle_51 : decode cX0_weighBundle 51 = .ok (.ineg, 1) := by decide +kernel
theorem dX0_weighBundle_52 : decode cX0_weighBundle 52 = .ok (.iload 7, 2) := by decide +kernel
theorem dX0_weighBundle_54 : decode cX0_weighBundle 54 = .ok (.invokestatic 68, 3) := by decide +kernel
theorem dX0_weighBundle_57 : decode cX0_weighBundle 57 = .ok (.ifCond .ne 6, 3) := by decide +kernel
theorem dX0_weighBundle_60 : decode cX0_weighBundle 60 = .ok (.ldc 76, 2) := by decide +kernel
theorem dX0_weighBundle_62 : decode cX0_weighBundle 62 = .ok (.ireturn, 1) := by decide +kernel
theorem dX0_weighBundle_63 : decode cX0_weighBundle 63 = .ok (.aload_n 0, 1) := by decide +kernel
theorem dX0_weighBundle_64 : decode cX0_weighBundle 64 = .ok (.getfield 20, 3) := by decide +kernel
theorem dX0_weighBundle_67 : decode cX0_weighBundle 67 = .ok (.getfield 83, 3) := by decide +kernel
theorem dX0_weighBundle_70 : decode cX0_weighBundle 70 = .ok (.iload_n 3, 1) := by decide +kernel
theorem dX0_weighBundle_71 : decode cX0_weighBundle 71 = .ok (.aload 6, 2) := by decide +kernel
theorem dX0_weighBundle_73 : decode cX0_weighBundle 73 = .ok (.getfield 77, 3) := by decide +kernel
theorem dX0_weighBundle_76 : decode cX0_weighBundle 76 = .ok (.imul, 1) := by decide +kernel
theorem dX0_weighBundle_77 : decode cX0_weighBundle 77 = .ok (.iload 4, 2) := by decide +kernel
theorem dX0_weighBundle_79 : decode cX0_weighBundle 79 = .ok (.iadd, 1) := by decide +kernel
theorem dX0_weighBundle_80 : decode cX0_weighBundle 80 = .ok (.aload_n 0, 1) := by decide +kernel
theorem dX0_weighBundle_81 : decode cX0_weighBundle 81 = .ok (.getfield 20, 3) := by decide +kernel
theorem dX0_weighBundle_84 : decode cX0_weighBundle 84 = .ok (.getfield 89, 3) := by decide +kernel
theorem dX0_weighBundle_87 : decode cX0_weighBundle 87 = .ok (.iadd, 1) := by decide +kernel
theorem dX0_weighBundle_88 : decode cX0_weighBundle 88 = .ok (.invokestatic 113, 3) := by decide +kernel
theorem dX0_weighBundle_91 : decode cX0_weighBundle 91 = .ok (.istore 8, 2) := by decide +kernel
theorem dX0_weighBundle_93 : decode cX0_weighBundle 93 = .ok (.aload_n 0, 1) := by decide +kernel
theorem dX0_weighBundle_94 : decode cX0_weighBundle 94 = .ok (.getfield 20, 3) := by decide +kernel
theorem dX0_weighBundle_97 : decode cX0_weighBundle 97 = .ok (.iload 8, 2) := by decide +kernel
theorem dX0_weighBundle_99 : decode cX0_weighBundle 99 = .ok (.aload 6, 2) := by decide +kernel
theorem dX0_weighBundle_101 : decode cX0_weighBundle 101 = .ok (.aload_n 0, 1) := by decide +kernel
theorem dX0_weighBundle_102 : decode cX0_weighBundle 102 = .ok (.getfield 62, 3) := by decide +kernel
theorem dX0_weighBundle_105 : decode cX0_weighBundle 105 = .ok (.invokevirtual 116, 3) := by decide +kernel
theorem dX0_weighBundle_108 : decode cX0_weighBundle 108 = .ok (.istore 9, 2) := by decide +kernel
theorem dX0_weighBundle_110 : decode cX0_weighBundle 110 = .ok (.aload 5, 2) := by decide +kernel
theorem dX0_weighBundle_112 : decode cX0_weighBundle 112 = .ok (.iload 9, 2) := by decide +kernel
theorem dX0_weighBundle_114 : decode cX0_weighBundle 114 = .ok (.invokevirtual 120, 3) := by decide +kernel
theorem dX0_weighBundle_117 : decode cX0_weighBundle 117 = .ok (.aload 5, 2) := by decide +kernel
theorem dX0_weighBundle_119 : decode cX0_weighBundle 119 = .ok (.iload_n 2, 1) := by decide +kernel
theorem dX0_weighBundle_120 : decode cX0_weighBundle 120 = .ok (.iload_n 3, 1) := by decide +kernel
theorem dX0_weighBundle_121 : decode cX0_weighBundle 121 = .ok (.iload 8, 2) := by decide +kernel
theorem dX0_weighBundle_123 : decode cX0_weighBundle 123 = .ok (.iload 9, 2) := by decide +kernel
theorem dX0_weighBundle_125 : decode cX0_weighBundle 125 = .ok (.invokevirtual 123, 3) := by decide +kernel
theorem dX0_weighBundle_128 : decode cX0_weighBundle 128 = .ok (.aload_n 0, 1) := by decide +kernel
theorem dX0_weighBundle_129 : decode cX0_weighBundle 129 = .ok (.dup, 1) := by decide +kernel
theorem dX0_weighBundle_130 : decode cX0_weighBundle 130 = .ok (.getfield 65, 3) := by decide +kernel
theorem dX0_weighBundle_133 : decode cX0_weighBundle 133 = .ok (.iload 9, 2) := by decide +kernel
theorem dX0_weighBundle_135 : decode cX0_weighBundle 135 = .ok (.iload_n 3, 1) := by decide +kernel
theorem dX0_weighBundle_136 : decode cX0_weighBundle 136 = .ok (.isub, 1) := by decide +kernel
theorem dX0_weighBundle_137 : decode cX0_weighBundle 137 = .ok (.iadd, 1) := by decide +kernel
theorem dX0_weighBundle_138 : decode cX0_weighBundle 138 = .ok (.putfield 65, 3) := by decide +kernel
theorem dX0_weighBundle_141 : decode cX0_weighBundle 141 = .ok (.iload 9, 2) := by decide +kernel
theorem dX0_weighBundle_143 : decode cX0_weighBundle 143 = .ok (.ireturn, 1) := by decide +kernel
set_option maxRecDepth 20000 in
theorem ggX0_settleClaim_X0_customerAt : GoodIn wsX0_settleClaim wsX0_customerAt := goodIn_r _ [14, 15, 16, 17, 18, 19, 96, 97, 98, 99, 100, 101, 102, 103, 104] (by decide +kernel) (by decide +kernel)
set_option maxRecDepth 20000 in
theorem gX0_settleClaim_X0_customerAt : GoodIn wsX0_settleClaim (wsV RX0 106 RX0 yX0_customerAt wsX0_customerAt) := goodIn_app (goodIn_of _ (by decide +kernel)) ggX0_settleClaim_X0_customerAt
set_option maxRecDepth 20000 in
theorem ggX0_settleClaim_X9_within : GoodIn wsX0_settleClaim wsX9_within := goodIn_r _ [19] (by decide +kernel) (by decide +kernel)
set_option maxRecDepth 20000 in
theorem gX0_settleClaim_X9_within_n68 : GoodIn wsX0_settleClaim (wsX9_within) := ggX0_settleClaim_X9_within
set_option maxRecDepth 20000 in
theorem ggX0_settleClaim_X0_kindAt : GoodIn wsX0_settleClaim wsX0_kindAt := goodIn_r _ [23, 24, 17, 18, 19, 96, 97, 98, 99, 100, 101, 102, 103, 104] (by decide +kernel) (by decide +kernel)
set_option maxRecDepth 20000 in
theorem gX0_settleClaim_X0_kindAt : GoodIn wsX0_settleClaim (wsV RX0 72 RX0 yX0_kindAt wsX0_kindAt) := goodIn_app (goodIn_of _ (by decide +kernel)) ggX0_settleClaim_X0_kindAt
set_option maxRecDepth 20000 in
theorem ggX0_settleClaim_X0_allows : GoodIn wsX0_settleClaim wsX0_allows := goodIn_r _ [28, 29, 30, 31, 32, 33, 34, 35, 36, 37, 38, 39, 40, 41, 42, 43, 44, 45, 46, 47, 48, 49, 50, 51, 52, 18, 53, 54, 55, 56, 57, 58, 59, 60, 61, 62, 63, 64, 65, 66, 67, 68, 69, 70, 71, 72, 73, 17, 19, 96, 97, 98, 99, 100, 101, 102, 103, 104, 105, 106, 107, 108, 109] (by decide +kernel) (by decide +kernel)
set_option maxRecDepth 20000 in
theorem gX0_settleClaim_X0_allows : GoodIn wsX0_settleClaim (wsV RX0 141 RX0 yX0_allows wsX0_allows) := goodIn_app (goodIn_of _ (by decide +kernel)) ggX0_settleClaim_X0_allows
set_option maxRecDepth 20000 in
theorem ggX0_settleClaim_X1_gain : GoodIn wsX0_settleClaim wsX1_gain := goodIn_r _ [78, 79, 80, 37, 38, 39, 90, 91, 92, 93, 94, 95] (by decide +kernel) (by decide +kernel)
set_option maxRecDepth 20000 in
theorem gX0_settleClaim_X1_gain : GoodIn wsX0_settleClaim (wsV RX0 120 RX1 yX1_gain wsX1_gain) := goodIn_app (goodIn_of _ (by decide +kernel)) ggX0_settleClaim_X1_gain
set_option maxRecDepth 20000 in
theorem ggX0_settleClaim_X1_isNearer : GoodIn wsX0_settleClaim wsX1_isNearer := goodIn_r _ [84, 85, 86, 87, 38, 88, 89, 90, 91, 92, 93, 94, 95] (by decide +kernel) (by decide +kernel)
set_option maxRecDepth 20000 in
theorem gX0_settleClaim_X1_isNearer : GoodIn wsX0_settleClaim (wsV RX0 148 RX1 yX1_isNearer wsX1_isNearer) := goodIn_app (goodIn_of _ (by decide +kernel)) ggX0_settleClaim_X1_isNearer
theorem dX0_settleClaim_0 : decode cX0_settleClaim 0 = .ok (.aload_n 0, 1) := by decide +kernel
theorem dX0_settleClaim_1 : decode cX0_settleClaim 1 = .ok (.iload_n 1, 1) := by decide +kernel
theorem dX0_settleClaim_2 : decode cX0_settleClaim 2 = .ok (.invokevirtual 106, 3) := by decide +kernel
theorem dX0_settleClaim_5 : decode cX0_settleClaim 5 = .ok (.astore_n 3, 1) := by decide +kernel
theorem dX0_settleClaim_6 : decode cX0_settleClaim 6 = .ok (.aload_n 3, 1) := by decide +kernel
theorem dX0_settleClaim_7 : decode cX0_settleClaim 7 = .ok (.ifnull 14, 3) := by decide +kernel
theorem dX0_settleClaim_10 : decode cX0_settleClaim 10 = .ok (.iload_n 2, 1) := by decide +kernel
theorem dX0_settleClaim_11 : decode cX0_settleClaim 11 = .ok (.iconst 0, 1) := by decide +kernel
theorem dX0_settleClaim_12 : decode cX0_settleClaim 12 = .ok (.sipush 9999, 3) := by decide +kernel
theorem dX0_settleClaim_15 : decode cX0_settleClaim 15 = .ok (.invokestatic 68, 3) := by decide +kernel
theorem dX0_settleClaim_18 : decode cX0_settleClaim 18 = .ok (.ifCond .ne 6, 3) := by decide +kernel
theorem dX0_settleClaim_21 : decode cX0_settleClaim 21 = .ok (.ldc 76, 2) := by decide +kernel
theorem dX0_settleClaim_23 : decode cX0_settleClaim 23 = .ok (.ireturn, 1) := by decide +kernel
theorem dX0_settleClaim_24 : decode cX0_settleClaim 24 = .ok (.aload_n 3, 1) := by decide +kernel
theorem dX0_settleClaim_25 : decode cX0_settleClaim 25 = .ok (.getfield 127, 3) := by decide +kernel
theorem dX0_settleClaim_28 : decode cX0_settleClaim 28 = .ok (.ifCond .eq 11, 3) := by decide +kernel
theorem dX0_settleClaim_31 : decode cX0_settleClaim 31 = .ok (.iload_n 2, 1) := by decide +kernel
theorem dX0_settleClaim_32 : decode cX0_settleClaim 32 = .ok (.aload_n 3, 1) := by decide +kernel
theorem dX0_settleClaim_33 : decode cX0_settleClaim 33 = .ok (.getfield 131, 3) := by decide +kernel
theorem dX0_settleClaim_36 : decode cX0_settleClaim 36 = .ok (.if_icmp .ne 6, 3) := by decide +kernel
theorem dX0_settleClaim_39 : decode cX0_settleClaim 39 = .ok (.ldc 134, 2) := by decide +kernel
theorem dX0_settleClaim_41 : decode cX0_settleClaim 41 = .ok (.ireturn, 1) := by decide +kernel
theorem dX0_settleClaim_42 : decode cX0_settleClaim 42 = .ok (.aload_n 3, 1) := by decide +kernel
theorem dX0_settleClaim_43 : decode cX0_settleClaim 43 = .ok (.iconst 0, 1) := by decide +kernel
theorem dX0_settleClaim_44 : decode cX0_settleClaim 44 = .ok (.putfield 127, 3) := by decide +kernel
theorem dX0_settleClaim_47 : decode cX0_settleClaim 47 = .ok (.aload_n 0, 1) := by decide +kernel
theorem dX0_settleClaim_48 : decode cX0_settleClaim 48 = .ok (.aload_n 3, 1) := by decide +kernel
theorem dX0_settleClaim_49 : decode cX0_settleClaim 49 = .ok (.getfield 135, 3) := by decide +kernel
theorem dX0_settleClaim_52 : decode cX0_settleClaim 52 = .ok (.invokevirtual 72, 3) := by decide +kernel
theorem dX0_settleClaim_55 : decode cX0_settleClaim 55 = .ok (.astore 4, 2) := by decide +kernel
theorem dX0_settleClaim_57 : decode cX0_settleClaim 57 = .ok (.aload 4, 2) := by decide +kernel
theorem dX0_settleClaim_59 : decode cX0_settleClaim 59 = .ok (.ifnull 17, 3) := by decide +kernel
theorem dX0_settleClaim_62 : decode cX0_settleClaim 62 = .ok (.aload_n 0, 1) := by decide +kernel
theorem dX0_settleClaim_63 : decode cX0_settleClaim 63 = .ok (.aload_n 3, 1) := by decide +kernel
theorem dX0_settleClaim_64 : decode cX0_settleClaim 64 = .ok (.getfield 138, 3) := by decide +kernel
theorem dX0_settleClaim_67 : decode cX0_settleClaim 67 = .ok (.aload 4, 2) := by decide +kernel
theorem dX0_settleClaim_69 : decode cX0_settleClaim 69 = .ok (.iload_n 2, 1) := by decide +kernel
theorem dX0_settleClaim_70 : decode cX0_settleClaim 70 = .ok (.invokevirtual 141, 3) := by decide +kernel
theorem dX0_settleClaim_73 : decode cX0_settleClaim 73 = .ok (.ifCond .ne 5, 3) := by decide +kernel
theorem dX0_settleClaim_76 : decode cX0_settleClaim 76 = .ok (.iconst 0, 1) := by decide +kernel
theorem dX0_settleClaim_77 : decode cX0_settleClaim 77 = .ok (.ireturn, 1) := by decide +kernel
theorem dX0_settleClaim_78 : decode cX0_settleClaim 78 = .ok (.aload_n 3, 1) := by decide +kernel
theorem dX0_settleClaim_79 : decode cX0_settleClaim 79 = .ok (.aload_n 3, 1) := by decide +kernel
theorem dX0_settleClaim_80 : decode cX0_settleClaim 80 = .ok (.getfield 145, 3) := by decide +kernel
theorem dX0_settleClaim_83 : decode cX0_settleClaim 83 = .ok (.aload_n 3, 1) := by decide +kernel
theorem dX0_settleClaim_84 : decode cX0_settleClaim 84 = .ok (.getfield 131, 3) := by decide +kernel
theorem dX0_settleClaim_87 : decode cX0_settleClaim 87 = .ok (.isub, 1) := by decide +kernel
theorem dX0_settleClaim_88 : decode cX0_settleClaim 88 = .ok (.invokevirtual 120, 3) := by decide +kernel
theorem dX0_settleClaim_91 : decode cX0_settleClaim 91 = .ok (.aload_n 0, 1) := by decide +kernel
theorem dX0_settleClaim_92 : decode cX0_settleClaim 92 = .ok (.dup, 1) := by decide +kernel
theorem dX0_settleClaim_93 : decode cX0_settleClaim 93 = .ok (.getfield 65, 3) := by decide +kernel
theorem dX0_settleClaim_96 : decode cX0_settleClaim 96 = .ok (.aload_n 3, 1) := by decide +kernel
theorem dX0_settleClaim_97 : decode cX0_settleClaim 97 = .ok (.getfield 145, 3) := by decide +kernel
theorem dX0_settleClaim_100 : decode cX0_settleClaim 100 = .ok (.aload_n 3, 1) := by decide +kernel
theorem dX0_settleClaim_101 : decode cX0_settleClaim 101 = .ok (.getfield 131, 3) := by decide +kernel
theorem dX0_settleClaim_104 : decode cX0_settleClaim 104 = .ok (.isub, 1) := by decide +kernel
theorem dX0_settleClaim_105 : decode cX0_settleClaim 105 = .ok (.iadd, 1) := by decide +kernel
theorem dX0_settleClaim_106 : decode cX0_settleClaim 106 = .ok (.putfield 65, 3) := by decide +kernel
theorem dX0_settleClaim_109 : decode cX0_settleClaim 109 = .ok (.aload_n 3, 1) := by decide +kernel
theorem dX0_settleClaim_110 : decode cX0_settleClaim 110 = .ok (.iload_n 2, 1) := by decide +kernel
theorem dX0_settleClaim_111 : decode cX0_settleClaim 111 = .ok (.invokevirtual 148, 3) := by decide +kernel
theorem dX0_settleClaim_114 : decode cX0_settleClaim 114 = .ok (.ifCond .eq 5, 3) := by decide +kernel
theorem dX0_settleClaim_117 : decode cX0_settleClaim 117 = .ok (.iconst 1, 1) := by decide +kernel
theorem dX0_settleClaim_118 : decode cX0_settleClaim 118 = .ok (.ireturn, 1) := by decide +kernel
theorem dX0_settleClaim_119 : decode cX0_settleClaim 119 = .ok (.aload_n 3, 1) := by decide +kernel
theorem dX0_settleClaim_120 : decode cX0_settleClaim 120 = .ok (.aload_n 0, 1) := by decide +kernel
theorem dX0_settleClaim_121 : decode cX0_settleClaim 121 = .ok (.getfield 36, 3) := by decide +kernel
theorem dX0_settleClaim_124 : decode cX0_settleClaim 124 = .ok (.ineg, 1) := by decide +kernel
theorem dX0_settleClaim_125 : decode cX0_settleClaim 125 = .ok (.invokevirtual 120, 3) := by decide +kernel
theorem dX0_settleClaim_128 : decode cX0_settleClaim 128 = .ok (.iconst 2, 1) := by decide +kernel
theorem dX0_settleClaim_129 : decode cX0_settleClaim 129 = .ok (.ireturn, 1) := by decide +kernel
set_option maxRecDepth 20000 in
theorem ggX0_allows_X7_leastCount : GoodIn wsX0_allows wsX7_leastCount := goodIn_r _ [6, 7, 8, 9, 10, 11, 12, 13, 14, 15, 16, 17, 18, 19, 20, 21, 5, 22, 23, 24, 25, 26, 27, 28, 29, 30, 58, 59, 60, 61, 62] (by decide +kernel) (by decide +kernel)
set_option maxRecDepth 20000 in
theorem gX0_allows_X7_leastCount : GoodIn wsX0_allows (wsV RX0 152 RX7 yX7_leastCount wsX7_leastCount) := goodIn_app (goodIn_of _ (by decide +kernel)) ggX0_allows_X7_leastCount
set_option maxRecDepth 20000 in
theorem ggX0_allows_X7_greatestCount : GoodIn wsX0_allows wsX7_greatestCount := goodIn_r _ [34, 7, 35, 36, 37, 5, 38, 23, 39, 40, 41, 42, 43, 44, 45, 15, 46, 17, 18, 24, 25, 26, 27, 28, 29, 30, 58, 59, 60, 61, 62] (by decide +kernel) (by decide +kernel)
set_option maxRecDepth 20000 in
theorem gX0_allows_X7_greatestCount : GoodIn wsX0_allows (wsV RX0 156 RX7 yX7_greatestCount wsX7_greatestCount) := goodIn_app (goodIn_of _ (by decide +kernel)) ggX0_allows_X7_greatestCount
set_option maxRecDepth 20000 in
theorem ggX0_allows_X9_within : GoodIn wsX0_allows wsX9_within := goodIn_r _ [48] (by decide +kernel) (by decide +kernel)
set_option maxRecDepth 20000 in
theorem gX0_allows_X9_within_n68 : GoodIn wsX0_allows (wsX9_within) := ggX0_allows_X9_within
theorem dX0_allows_0 : decode cX0_allows 0 = .ok (.iload_n 3, 1) := by decide +kernel
theorem dX0_allows_1 : decode cX0_allows 1 = .ok (.aload_n 0, 1) := by decide +kernel
theorem dX0_allows_2 : decode cX0_allows 2 = .ok (.getfield 20, 3) := by decide +kernel
theorem dX0_allows_5 : decode cX0_allows 5 = .ok (.iload_n 1, 1) := by decide +kernel
theorem dX0_allows_6 : decode cX0_allows 6 = .ok (.aload_n 2, 1) := by decide +kernel
theorem dX0_allows_7 : decode cX0_allows 7 = .ok (.invokevirtual 152, 3) := by decide +kernel
theorem dX0_allows_10 : decode cX0_allows 10 = .ok (.aload_n 0, 1) := by decide +kernel
theorem dX0_allows_11 : decode cX0_allows 11 = .ok (.getfield 20, 3) := by decide +kernel
theorem dX0_allows_14 : decode cX0_allows 14 = .ok (.iload_n 1, 1) := by decide +kernel
theorem dX0_allows_15 : decode cX0_allows 15 = .ok (.aload_n 2, 1) := by decide +kernel
theorem dX0_allows_16 : decode cX0_allows 16 = .ok (.invokevirtual 156, 3) := by decide +kernel
theorem dX0_allows_19 : decode cX0_allows 19 = .ok (.invokestatic 68, 3) := by decide +kernel
theorem dX0_allows_22 : decode cX0_allows 22 = .ok (.ireturn, 1) := by decide +kernel
set_option maxRecDepth 20000 in
theorem ggX0_placePrize_X9_within : GoodIn wsX0_placePrize wsX9_within := goodIn_r _ [8] (by decide +kernel) (by decide +kernel)
set_option maxRecDepth 20000 in
theorem gX0_placePrize_X9_within_n68 : GoodIn wsX0_placePrize (wsX9_within) := ggX0_placePrize_X9_within
set_option maxRecDepth 20000 in
theorem ggX0_placePrize_X5_begin : GoodIn wsX0_placePrize wsX5_begin := goodIn_r _ [13, 14, 15, 16, 17, 18, 19, 20, 30, 31, 32, 33, 34, 35, 36] (by decide +kernel) (by decide +kernel)
set_option maxRecDepth 20000 in
theorem gX0_placePrize_X5_begin : GoodIn wsX0_placePrize (wsV RX0 160 RX5 yX5_begin wsX5_begin) := goodIn_app (goodIn_of _ (by decide +kernel)) ggX0_placePrize_X5_begin
theorem dX0_placePrize_0 : decode cX0_placePrize 0 = .ok (.iload_n 1, 1) := by decide +kernel
theorem dX0_placePrize_1 : decode cX0_placePrize 1 = .ok (.iconst 1, 1) := by decide +kernel
theorem dX0_placePrize_2 : decode cX0_placePrize 2 = .ok (.sipush 5000, 3) := by decide +kernel
theorem dX0_placePrize_5 : decode cX0_placePrize 5 = .ok (.invokestatic 68, 3) := by decide +kernel
theorem dX0_placePrize_8 : decode cX0_placePrize 8 = .ok (.ifCond .eq 24, 3) := by decide +kernel
theorem dX0_placePrize_11 : decode cX0_placePrize 11 = .ok (.iload_n 2, 1) := by decide +kernel
theorem dX0_placePrize_12 : decode cX0_placePrize 12 = .ok (.iconst 1, 1) := by decide +kernel
theorem dX0_placePrize_13 : decode cX0_placePrize 13 = .ok (.sipush 20000, 3) := by decide +kernel
theorem dX0_placePrize_16 : decode cX0_placePrize 16 = .ok (.invokestatic 68, 3) := by decide +kernel
theorem dX0_placePrize_19 : decode cX0_placePrize 19 = .ok (.ifCond .eq 13, 3) := by decide +kernel
theorem dX0_placePrize_22 : decode cX0_placePrize 22 = .ok (.iload_n 3, 1) := by decide +kernel
theorem dX0_placePrize_23 : decode cX0_placePrize 23 = .ok (.iconst 0, 1) := by decide +kernel
theorem dX0_placePrize_24 : decode cX0_placePrize 24 = .ok (.bipush 99, 2) := by decide +kernel
theorem dX0_placePrize_26 : decode cX0_placePrize 26 = .ok (.invokestatic 68, 3) := by decide +kernel
theorem dX0_placePrize_29 : decode cX0_placePrize 29 = .ok (.ifCond .ne 6, 3) := by decide +kernel
theorem dX0_placePrize_32 : decode cX0_placePrize 32 = .ok (.ldc 76, 2) := by decide +kernel
theorem dX0_placePrize_34 : decode cX0_placePrize 34 = .ok (.ireturn, 1) := by decide +kernel
theorem dX0_placePrize_35 : decode cX0_placePrize 35 = .ok (.iload 4, 2) := by decide +kernel
theorem dX0_placePrize_37 : decode cX0_placePrize 37 = .ok (.iconst 1, 1) := by decide +kernel
theorem dX0_placePrize_38 : decode cX0_placePrize 38 = .ok (.ldc 159, 2) := by decide +kernel
theorem dX0_placePrize_40 : decode cX0_placePrize 40 = .ok (.invokestatic 68, 3) := by decide +kernel
theorem dX0_placePrize_43 : decode cX0_placePrize 43 = .ok (.ifCond .eq 14, 3) := by decide +kernel
theorem dX0_placePrize_46 : decode cX0_placePrize 46 = .ok (.iload 5, 2) := by decide +kernel
theorem dX0_placePrize_48 : decode cX0_placePrize 48 = .ok (.iconst 1, 1) := by decide +kernel
theorem dX0_placePrize_49 : decode cX0_placePrize 49 = .ok (.ldc 159, 2) := by decide +kernel
theorem dX0_placePrize_51 : decode cX0_placePrize 51 = .ok (.invokestatic 68, 3) := by decide +kernel
theorem dX0_placePrize_54 : decode cX0_placePrize 54 = .ok (.ifCond .ne 6, 3) := by decide +kernel
theorem dX0_placePrize_57 : decode cX0_placePrize 57 = .ok (.ldc 76, 2) := by decide +kernel
theorem dX0_placePrize_59 : decode cX0_placePrize 59 = .ok (.ireturn, 1) := by decide +kernel
theorem dX0_placePrize_60 : decode cX0_placePrize 60 = .ok (.aload_n 0, 1) := by decide +kernel
theorem dX0_placePrize_61 : decode cX0_placePrize 61 = .ok (.getfield 59, 3) := by decide +kernel
theorem dX0_placePrize_64 : decode cX0_placePrize 64 = .ok (.iconst 0, 1) := by decide +kernel
theorem dX0_placePrize_65 : decode cX0_placePrize 65 = .ok (.iconst 5, 1) := by decide +kernel
theorem dX0_placePrize_66 : decode cX0_placePrize 66 = .ok (.invokestatic 68, 3) := by decide +kernel
theorem dX0_placePrize_69 : decode cX0_placePrize 69 = .ok (.ifCond .ne 6, 3) := by decide +kernel
theorem dX0_placePrize_72 : decode cX0_placePrize 72 = .ok (.ldc 101, 2) := by decide +kernel
theorem dX0_placePrize_74 : decode cX0_placePrize 74 = .ok (.ireturn, 1) := by decide +kernel
theorem dX0_placePrize_75 : decode cX0_placePrize 75 = .ok (.aload_n 0, 1) := by decide +kernel
theorem dX0_placePrize_76 : decode cX0_placePrize 76 = .ok (.getfield 32, 3) := by decide +kernel
theorem dX0_placePrize_79 : decode cX0_placePrize 79 = .ok (.aload_n 0, 1) := by decide +kernel
theorem dX0_placePrize_80 : decode cX0_placePrize 80 = .ok (.getfield 59, 3) := by decide +kernel
theorem dX0_placePrize_83 : decode cX0_placePrize 83 = .ok (.aaload, 1) := by decide +kernel
theorem dX0_placePrize_84 : decode cX0_placePrize 84 = .ok (.iload_n 1, 1) := by decide +kernel
theorem dX0_placePrize_85 : decode cX0_placePrize 85 = .ok (.iload_n 2, 1) := by decide +kernel
theorem dX0_placePrize_86 : decode cX0_placePrize 86 = .ok (.iload_n 3, 1) := by decide +kernel
theorem dX0_placePrize_87 : decode cX0_placePrize 87 = .ok (.iload 4, 2) := by decide +kernel
theorem dX0_placePrize_89 : decode cX0_placePrize 89 = .ok (.iload 5, 2) := by decide +kernel
theorem dX0_placePrize_91 : decode cX0_placePrize 91 = .ok (.invokevirtual 160, 3) := by decide +kernel
theorem dX0_placePrize_94 : decode cX0_placePrize 94 = .ok (.aload_n 0, 1) := by decide +kernel
theorem dX0_placePrize_95 : decode cX0_placePrize 95 = .ok (.dup, 1) := by decide +kernel
theorem dX0_placePrize_96 : decode cX0_placePrize 96 = .ok (.getfield 59, 3) := by decide +kernel
theorem dX0_placePrize_99 : decode cX0_placePrize 99 = .ok (.iconst 1, 1) := by decide +kernel
theorem dX0_placePrize_100 : decode cX0_placePrize 100 = .ok (.iadd, 1) := by decide +kernel
theorem dX0_placePrize_101 : decode cX0_placePrize 101 = .ok (.putfield 59, 3) := by decide +kernel
theorem dX0_placePrize_104 : decode cX0_placePrize 104 = .ok (.aload_n 0, 1) := by decide +kernel
theorem dX0_placePrize_105 : decode cX0_placePrize 105 = .ok (.getfield 59, 3) := by decide +kernel
theorem dX0_placePrize_108 : decode cX0_placePrize 108 = .ok (.iconst 1, 1) := by decide +kernel
theorem dX0_placePrize_109 : decode cX0_placePrize 109 = .ok (.isub, 1) := by decide +kernel
theorem dX0_placePrize_110 : decode cX0_placePrize 110 = .ok (.ireturn, 1) := by decide +kernel
set_option maxRecDepth 20000 in
theorem ggX0_sellPrize_X0_customerAt : GoodIn wsX0_sellPrize wsX0_customerAt := goodIn_r _ [11, 12, 13, 14, 15, 16, 57, 58, 59, 60, 61, 62, 63, 64, 65] (by decide +kernel) (by decide +kernel)
set_option maxRecDepth 20000 in
theorem gX0_sellPrize_X0_customerAt : GoodIn wsX0_sellPrize (wsV RX0 106 RX0 yX0_customerAt wsX0_customerAt) := goodIn_app (goodIn_of _ (by decide +kernel)) ggX0_sellPrize_X0_customerAt
set_option maxRecDepth 20000 in
theorem ggX0_sellPrize_X0_prizeAt : GoodIn wsX0_sellPrize wsX0_prizeAt := goodIn_r _ [20, 21, 22, 14, 15, 16, 57, 58, 59, 60, 61, 62, 63, 64, 65] (by decide +kernel) (by decide +kernel)
set_option maxRecDepth 20000 in
theorem gX0_sellPrize_X0_prizeAt : GoodIn wsX0_sellPrize (wsV RX0 163 RX0 yX0_prizeAt wsX0_prizeAt) := goodIn_app (goodIn_of _ (by decide +kernel)) ggX0_sellPrize_X0_prizeAt
set_option maxRecDepth 20000 in
theorem ggX0_sellPrize_X9_within : GoodIn wsX0_sellPrize wsX9_within := goodIn_r _ [16] (by decide +kernel) (by decide +kernel)
set_option maxRecDepth 20000 in
theorem gX0_sellPrize_X9_within_n68 : GoodIn wsX0_sellPrize (wsX9_within) := ggX0_sellPrize_X9_within
set_option maxRecDepth 20000 in
theorem ggX0_sellPrize_X5_sell : GoodIn wsX0_sellPrize wsX5_sell := goodIn_r _ [27, 28, 29, 30, 31, 32, 33, 34, 35, 36, 37, 38, 15, 39, 40, 41, 42, 43, 50, 51, 52, 53, 54, 55, 56] (by decide +kernel) (by decide +kernel)
set_option maxRecDepth 20000 in
theorem gX0_sellPrize_X5_sell : GoodIn wsX0_sellPrize (wsV RX0 173 RX5 yX5_sell wsX5_sell) := goodIn_app (goodIn_of _ (by decide +kernel)) ggX0_sellPrize_X5_sell
theorem dX0_sellPrize_0 : decode cX0_sellPrize 0 = .ok (.aload_n 0, 1) := by decide +kernel
theorem dX0_sellPrize_1 : decode cX0_sellPrize 1 = .ok (.iload_n 1, 1) := by decide +kernel
theorem dX0_sellPrize_2 : decode cX0_sellPrize 2 = .ok (.invokevirtual 106, 3) := by decide +kernel
theorem dX0_sellPrize_5 : decode cX0_sellPrize 5 = .ok (.astore 4, 2) := by decide +kernel
theorem dX0_sellPrize_7 : decode cX0_sellPrize 7 = .ok (.aload_n 0, 1) := by decide +kernel
theorem dX0_sellPrize_8 : decode cX0_sellPrize 8 = .ok (.iload_n 2, 1) := by decide +kernel
theorem dX0_sellPrize_9 : decode cX0_sellPrize 9 = .ok (.invokevirtual 163, 3) := by decide +kernel
theorem dX0_sellPrize_12 : decode cX0_sellPrize 12 = .ok (.astore 5, 2) := by decide +kernel
theorem dX0_sellPrize_14 : decode cX0_sellPrize 14 = .ok (.aload 4, 2) := by decide +kernel
theorem dX0_sellPrize_16 : decode cX0_sellPrize 16 = .ok (.ifnull 18, 3) := by decide +kernel
theorem dX0_sellPrize_19 : decode cX0_sellPrize 19 = .ok (.aload 5, 2) := by decide +kernel
theorem dX0_sellPrize_21 : decode cX0_sellPrize 21 = .ok (.ifnull 13, 3) := by decide +kernel
theorem dX0_sellPrize_24 : decode cX0_sellPrize 24 = .ok (.iload_n 3, 1) := by decide +kernel
theorem dX0_sellPrize_25 : decode cX0_sellPrize 25 = .ok (.iconst 1, 1) := by decide +kernel
theorem dX0_sellPrize_26 : decode cX0_sellPrize 26 = .ok (.bipush 99, 2) := by decide +kernel
theorem dX0_sellPrize_28 : decode cX0_sellPrize 28 = .ok (.invokestatic 68, 3) := by decide +kernel
theorem dX0_sellPrize_31 : decode cX0_sellPrize 31 = .ok (.ifCond .ne 6, 3) := by decide +kernel
theorem dX0_sellPrize_34 : decode cX0_sellPrize 34 = .ok (.ldc 76, 2) := by decide +kernel
theorem dX0_sellPrize_36 : decode cX0_sellPrize 36 = .ok (.ireturn, 1) := by decide +kernel
theorem dX0_sellPrize_37 : decode cX0_sellPrize 37 = .ok (.aload 4, 2) := by decide +kernel
theorem dX0_sellPrize_39 : decode cX0_sellPrize 39 = .ok (.getfield 110, 3) := by decide +kernel
theorem dX0_sellPrize_42 : decode cX0_sellPrize 42 = .ok (.iload_n 3, 1) := by decide +kernel
theorem dX0_sellPrize_43 : decode cX0_sellPrize 43 = .ok (.aload 5, 2) := by decide +kernel
theorem dX0_sellPrize_45 : decode cX0_sellPrize 45 = .ok (.getfield 170, 3) := by decide +kernel
theorem dX0_sellPrize_48 : decode cX0_sellPrize 48 = .ok (.imul, 1) := by decide +kernel
theorem dX0_sellPrize_49 : decode cX0_sellPrize 49 = .ok (.if_icmp .ge 6, 3) := by decide +kernel
theorem dX0_sellPrize_52 : decode cX0_sellPrize 52 = .ok (.ldc 134, 2) := by decide +kernel
theorem dX0_sellPrize_54 : decode cX0_sellPrize 54 = .ok (.ireturn, 1) := by decide +kernel
theorem dX0_sellPrize_55 : decode cX0_sellPrize 55 = .ok (.aload 5, 2) := by decide +kernel
theorem dX0_sellPrize_57 : decode cX0_sellPrize 57 = .ok (.getfield 167, 3) := by decide +kernel
theorem dX0_sellPrize_60 : decode cX0_sellPrize 60 = .ok (.iload_n 3, 1) := by decide +kernel
theorem dX0_sellPrize_61 : decode cX0_sellPrize 61 = .ok (.if_icmp .ge 6, 3) := by decide +kernel
theorem dX0_sellPrize_64 : decode cX0_sellPrize 64 = .ok (.ldc 101, 2) := by decide +kernel
theorem dX0_sellPrize_66 : decode cX0_sellPrize 66 = .ok (.ireturn, 1) := by decide +kernel
theorem dX0_sellPrize_67 : decode cX0_sellPrize 67 = .ok (.aload 4, 2) := by decide +kernel
theorem dX0_sellPrize_69 : decode cX0_sellPrize 69 = .ok (.dup, 1) := by decide +kernel
theorem dX0_sellPrize_70 : decode cX0_sellPrize 70 = .ok (.getfield 110, 3) := by decide +kernel
theorem dX0_sellPrize_73 : decode cX0_sellPrize 73 = .ok (.iload_n 3, 1) := by decide +kernel
theorem dX0_sellPrize_74 : decode cX0_sellPrize 74 = .ok (.aload 5, 2) := by decide +kernel
theorem dX0_sellPrize_76 : decode cX0_sellPrize 76 = .ok (.getfield 170, 3) := by decide +kernel
theorem dX0_sellPrize_79 : decode cX0_sellPrize 79 = .ok (.imul, 1) := by decide +kernel
theorem dX0_sellPrize_80 : decode cX0_sellPrize 80 = .ok (.isub, 1) := by decide +kernel
theorem dX0_sellPrize_81 : decode cX0_sellPrize 81 = .ok (.putfield 110, 3) := by decide +kernel
theorem dX0_sellPrize_84 : decode cX0_sellPrize 84 = .ok (.aload 5, 2) := by decide +kernel
theorem dX0_sellPrize_86 : decode cX0_sellPrize 86 = .ok (.iload_n 3, 1) := by decide +kernel
theorem dX0_sellPrize_87 : decode cX0_sellPrize 87 = .ok (.invokevirtual 173, 3) := by decide +kernel
theorem dX0_sellPrize_90 : decode cX0_sellPrize 90 = .ok (.aload 4, 2) := by decide +kernel
theorem dX0_sellPrize_92 : decode cX0_sellPrize 92 = .ok (.getfield 110, 3) := by decide +kernel
theorem dX0_sellPrize_95 : decode cX0_sellPrize 95 = .ok (.ireturn, 1) := by decide +kernel
set_option maxRecDepth 20000 in
theorem ggX0_number_X0_keptWeighings : GoodIn wsX0_number wsX0_keptWeighings := goodIn_r _ [15, 16, 17, 29, 30, 31, 32, 33, 34, 35, 36, 37, 41, 42, 43, 44, 45, 46] (by decide +kernel) (by decide +kernel)
set_option maxRecDepth 20000 in
theorem gX0_number_X0_keptWeighings : GoodIn wsX0_number (wsV RX0 176 RX0 yX0_keptWeighings wsX0_keptWeighings) := goodIn_app (goodIn_of _ (by decide +kernel)) ggX0_number_X0_keptWeighings
set_option maxRecDepth 20000 in
theorem ggX0_number_X0_allPoints : GoodIn wsX0_number wsX0_allPoints := goodIn_r _ [21, 16, 22, 29, 30, 31, 32, 33, 34, 35, 36, 37, 41, 42, 43, 44, 45, 46] (by decide +kernel) (by decide +kernel)
set_option maxRecDepth 20000 in
theorem gX0_number_X0_allPoints : GoodIn wsX0_number (wsV RX0 180 RX0 yX0_allPoints wsX0_allPoints) := goodIn_app (goodIn_of _ (by decide +kernel)) ggX0_number_X0_allPoints
set_option maxRecDepth 20000 in
theorem ggX0_number_X0_allStocks : GoodIn wsX0_number wsX0_allStocks := goodIn_r _ [26, 27, 28, 29, 30, 31, 32, 33, 34, 35, 36, 37, 47, 48, 49, 50, 51, 52, 53] (by decide +kernel) (by decide +kernel)
set_option maxRecDepth 20000 in
theorem gX0_number_X0_allStocks : GoodIn wsX0_number (wsV RX0 183 RX0 yX0_allStocks wsX0_allStocks) := goodIn_app (goodIn_of _ (by decide +kernel)) ggX0_number_X0_allStocks
theorem dX0_number_0 : decode cX0_number 0 = .ok (.iload_n 1, 1) := by decide +kernel
theorem dX0_number_1 : decode cX0_number 1 = .ok (.tableswitch 123 0 10 #[59, 67, 75, 83, 88, 93, 98, 103, 108, 113, 118], 59) := by decide +kernel
theorem dX0_number_60 : decode cX0_number 60 = .ok (.aload_n 0, 1) := by decide +kernel
theorem dX0_number_61 : decode cX0_number 61 = .ok (.getfield 20, 3) := by decide +kernel
theorem dX0_number_64 : decode cX0_number 64 = .ok (.getfield 83, 3) := by decide +kernel
theorem dX0_number_67 : decode cX0_number 67 = .ok (.ireturn, 1) := by decide +kernel
theorem dX0_number_68 : decode cX0_number 68 = .ok (.aload_n 0, 1) := by decide +kernel
theorem dX0_number_69 : decode cX0_number 69 = .ok (.getfield 20, 3) := by decide +kernel
theorem dX0_number_72 : decode cX0_number 72 = .ok (.getfield 86, 3) := by decide +kernel
theorem dX0_number_75 : decode cX0_number 75 = .ok (.ireturn, 1) := by decide +kernel
theorem dX0_number_76 : decode cX0_number 76 = .ok (.aload_n 0, 1) := by decide +kernel
theorem dX0_number_77 : decode cX0_number 77 = .ok (.getfield 20, 3) := by decide +kernel
theorem dX0_number_80 : decode cX0_number 80 = .ok (.getfield 89, 3) := by decide +kernel
theorem dX0_number_83 : decode cX0_number 83 = .ok (.ireturn, 1) := by decide +kernel
theorem dX0_number_84 : decode cX0_number 84 = .ok (.aload_n 0, 1) := by decide +kernel
theorem dX0_number_85 : decode cX0_number 85 = .ok (.getfield 62, 3) := by decide +kernel
theorem dX0_number_88 : decode cX0_number 88 = .ok (.ireturn, 1) := by decide +kernel
theorem dX0_number_89 : decode cX0_number 89 = .ok (.aload_n 0, 1) := by decide +kernel
theorem dX0_number_90 : decode cX0_number 90 = .ok (.getfield 36, 3) := by decide +kernel
theorem dX0_number_93 : decode cX0_number 93 = .ok (.ireturn, 1) := by decide +kernel
theorem dX0_number_94 : decode cX0_number 94 = .ok (.aload_n 0, 1) := by decide +kernel
theorem dX0_number_95 : decode cX0_number 95 = .ok (.getfield 56, 3) := by decide +kernel
theorem dX0_number_98 : decode cX0_number 98 = .ok (.ireturn, 1) := by decide +kernel
theorem dX0_number_99 : decode cX0_number 99 = .ok (.aload_n 0, 1) := by decide +kernel
theorem dX0_number_100 : decode cX0_number 100 = .ok (.getfield 59, 3) := by decide +kernel
theorem dX0_number_103 : decode cX0_number 103 = .ok (.ireturn, 1) := by decide +kernel
theorem dX0_number_104 : decode cX0_number 104 = .ok (.aload_n 0, 1) := by decide +kernel
theorem dX0_number_105 : decode cX0_number 105 = .ok (.invokevirtual 176, 3) := by decide +kernel
theorem dX0_number_108 : decode cX0_number 108 = .ok (.ireturn, 1) := by decide +kernel
theorem dX0_number_109 : decode cX0_number 109 = .ok (.aload_n 0, 1) := by decide +kernel
theorem dX0_number_110 : decode cX0_number 110 = .ok (.getfield 65, 3) := by decide +kernel
theorem dX0_number_113 : decode cX0_number 113 = .ok (.ireturn, 1) := by decide +kernel
theorem dX0_number_114 : decode cX0_number 114 = .ok (.aload_n 0, 1) := by decide +kernel
theorem dX0_number_115 : decode cX0_number 115 = .ok (.invokevirtual 180, 3) := by decide +kernel
theorem dX0_number_118 : decode cX0_number 118 = .ok (.ireturn, 1) := by decide +kernel
theorem dX0_number_119 : decode cX0_number 119 = .ok (.aload_n 0, 1) := by decide +kernel
theorem dX0_number_120 : decode cX0_number 120 = .ok (.invokevirtual 183, 3) := by decide +kernel
theorem dX0_number_123 : decode cX0_number 123 = .ok (.ireturn, 1) := by decide +kernel
theorem dX0_number_124 : decode cX0_number 124 = .ok (.ldc 76, 2) := by decide +kernel
theorem dX0_number_126 : decode cX0_number 126 = .ok (.ireturn, 1) := by decide +kernel
theorem dX0_keptWeighings_0 : decode cX0_keptWeighings 0 = .ok (.iconst 0, 1) := by decide +kernel
theorem dX0_keptWeighings_1 : decode cX0_keptWeighings 1 = .ok (.istore_n 1, 1) := by decide +kernel
theorem dX0_keptWeighings_2 : decode cX0_keptWeighings 2 = .ok (.aload_n 0, 1) := by decide +kernel
theorem dX0_keptWeighings_3 : decode cX0_keptWeighings 3 = .ok (.getfield 26, 3) := by decide +kernel
theorem dX0_keptWeighings_6 : decode cX0_keptWeighings 6 = .ok (.astore_n 2, 1) := by decide +kernel
theorem dX0_keptWeighings_7 : decode cX0_keptWeighings 7 = .ok (.aload_n 2, 1) := by decide +kernel
theorem dX0_keptWeighings_8 : decode cX0_keptWeighings 8 = .ok (.arraylength, 1) := by decide +kernel
theorem dX0_keptWeighings_9 : decode cX0_keptWeighings 9 = .ok (.istore_n 3, 1) := by decide +kernel
theorem dX0_keptWeighings_10 : decode cX0_keptWeighings 10 = .ok (.iconst 0, 1) := by decide +kernel
theorem dX0_keptWeighings_11 : decode cX0_keptWeighings 11 = .ok (.istore 4, 2) := by decide +kernel
theorem dX0_keptWeighings_13 : decode cX0_keptWeighings 13 = .ok (.iload 4, 2) := by decide +kernel
theorem dX0_keptWeighings_15 : decode cX0_keptWeighings 15 = .ok (.iload_n 3, 1) := by decide +kernel
theorem dX0_keptWeighings_16 : decode cX0_keptWeighings 16 = .ok (.if_icmp .ge 26, 3) := by decide +kernel
theorem dX0_keptWeighings_19 : decode cX0_keptWeighings 19 = .ok (.aload_n 2, 1) := by decide +kernel
theorem dX0_keptWeighings_20 : decode cX0_keptWeighings 20 = .ok (.iload 4, 2) := by decide +kernel
theorem dX0_keptWeighings_22 : decode cX0_keptWeighings 22 = .ok (.aaload, 1) := by decide +kernel
theorem dX0_keptWeighings_23 : decode cX0_keptWeighings 23 = .ok (.astore 5, 2) := by decide +kernel
theorem dX0_keptWeighings_25 : decode cX0_keptWeighings 25 = .ok (.aload 5, 2) := by decide +kernel
theorem dX0_keptWeighings_27 : decode cX0_keptWeighings 27 = .ok (.getfield 127, 3) := by decide +kernel
theorem dX0_keptWeighings_30 : decode cX0_keptWeighings 30 = .ok (.ifCond .eq 6, 3) := by decide +kernel
theorem dX0_keptWeighings_33 : decode cX0_keptWeighings 33 = .ok (.iinc 1 1, 3) := by decide +kernel
theorem dX0_keptWeighings_36 : decode cX0_keptWeighings 36 = .ok (.iinc 4 1, 3) := by decide +kernel
theorem dX0_keptWeighings_39 : decode cX0_keptWeighings 39 = .ok (.goto (-26), 3) := by decide +kernel
theorem dX0_keptWeighings_42 : decode cX0_keptWeighings 42 = .ok (.iload_n 1, 1) := by decide +kernel
theorem dX0_keptWeighings_43 : decode cX0_keptWeighings 43 = .ok (.ireturn, 1) := by decide +kernel
theorem dX0_allPoints_0 : decode cX0_allPoints 0 = .ok (.iconst 0, 1) := by decide +kernel
theorem dX0_allPoints_1 : decode cX0_allPoints 1 = .ok (.istore_n 1, 1) := by decide +kernel
theorem dX0_allPoints_2 : decode cX0_allPoints 2 = .ok (.aload_n 0, 1) := by decide +kernel
theorem dX0_allPoints_3 : decode cX0_allPoints 3 = .ok (.getfield 26, 3) := by decide +kernel
theorem dX0_allPoints_6 : decode cX0_allPoints 6 = .ok (.astore_n 2, 1) := by decide +kernel
theorem dX0_allPoints_7 : decode cX0_allPoints 7 = .ok (.aload_n 2, 1) := by decide +kernel
theorem dX0_allPoints_8 : decode cX0_allPoints 8 = .ok (.arraylength, 1) := by decide +kernel
theorem dX0_allPoints_9 : decode cX0_allPoints 9 = .ok (.istore_n 3, 1) := by decide +kernel
theorem dX0_allPoints_10 : decode cX0_allPoints 10 = .ok (.iconst 0, 1) := by decide +kernel
theorem dX0_allPoints_11 : decode cX0_allPoints 11 = .ok (.istore 4, 2) := by decide +kernel
theorem dX0_allPoints_13 : decode cX0_allPoints 13 = .ok (.iload 4, 2) := by decide +kernel
theorem dX0_allPoints_15 : decode cX0_allPoints 15 = .ok (.iload_n 3, 1) := by decide +kernel
theorem dX0_allPoints_16 : decode cX0_allPoints 16 = .ok (.if_icmp .ge 23, 3) := by decide +kernel
theorem dX0_allPoints_19 : decode cX0_allPoints 19 = .ok (.aload_n 2, 1) := by decide +kernel
theorem dX0_allPoints_20 : decode cX0_allPoints 20 = .ok (.iload 4, 2) := by decide +kernel
theorem dX0_allPoints_22 : decode cX0_allPoints 22 = .ok (.aaload, 1) := by decide +kernel
theorem dX0_allPoints_23 : decode cX0_allPoints 23 = .ok (.astore 5, 2) := by decide +kernel
theorem dX0_allPoints_25 : decode cX0_allPoints 25 = .ok (.iload_n 1, 1) := by decide +kernel
theorem dX0_allPoints_26 : decode cX0_allPoints 26 = .ok (.aload 5, 2) := by decide +kernel
theorem dX0_allPoints_28 : decode cX0_allPoints 28 = .ok (.getfield 110, 3) := by decide +kernel
theorem dX0_allPoints_31 : decode cX0_allPoints 31 = .ok (.iadd, 1) := by decide +kernel
theorem dX0_allPoints_32 : decode cX0_allPoints 32 = .ok (.istore_n 1, 1) := by decide +kernel
theorem dX0_allPoints_33 : decode cX0_allPoints 33 = .ok (.iinc 4 1, 3) := by decide +kernel
theorem dX0_allPoints_36 : decode cX0_allPoints 36 = .ok (.goto (-23), 3) := by decide +kernel
theorem dX0_allPoints_39 : decode cX0_allPoints 39 = .ok (.iload_n 1, 1) := by decide +kernel
theorem dX0_allPoints_40 : decode cX0_allPoints 40 = .ok (.ireturn, 1) := by decide +kernel
theorem dX0_allStocks_0 : decode cX0_allStocks 0 = .ok (.iconst 0, 1) := by decide +kernel
theorem dX0_allStocks_1 : decode cX0_allStocks 1 = .ok (.istore_n 1, 1) := by decide +kernel
theorem dX0_allStocks_2 : decode cX0_allStocks 2 = .ok (.aload_n 0, 1) := by decide +kernel
theorem dX0_allStocks_3 : decode cX0_allStocks 3 = .ok (.getfield 32, 3) := by decide +kernel
theorem dX0_allStocks_6 : decode cX0_allStocks 6 = .ok (.astore_n 2, 1) := by decide +kernel
theorem dX0_allStocks_7 : decode cX0_allStocks 7 = .ok (.aload_n 2, 1) := by decide +kernel
theorem dX0_allStocks_8 : decode cX0_allStocks 8 = .ok (.arraylength, 1) := by decide +kernel
theorem dX0_allStocks_9 : decode cX0_allStocks 9 = .ok (.istore_n 3, 1) := by decide +kernel
theorem dX0_allStocks_10 : decode cX0_allStocks 10 = .ok (.iconst 0, 1) := by decide +kernel
theorem dX0_allStocks_11 : decode cX0_allStocks 11 = .ok (.istore 4, 2) := by decide +kernel
theorem dX0_allStocks_13 : decode cX0_allStocks 13 = .ok (.iload 4, 2) := by decide +kernel
theorem dX0_allStocks_15 : decode cX0_allStocks 15 = .ok (.iload_n 3, 1) := by decide +kernel
theorem dX0_allStocks_16 : decode cX0_allStocks 16 = .ok (.if_icmp .ge 23, 3) := by decide +kernel
theorem dX0_allStocks_19 : decode cX0_allStocks 19 = .ok (.aload_n 2, 1) := by decide +kernel
theorem dX0_allStocks_20 : decode cX0_allStocks 20 = .ok (.iload 4, 2) := by decide +kernel
theorem dX0_allStocks_22 : decode cX0_allStocks 22 = .ok (.aaload, 1) := by decide +kernel
theorem dX0_allStocks_23 : decode cX0_allStocks 23 = .ok (.astore 5, 2) := by decide +kernel
theorem dX0_allStocks_25 : decode cX0_allStocks 25 = .ok (.iload_n 1, 1) := by decide +kernel
theorem dX0_allStocks_26 : decode cX0_allStocks 26 = .ok (.aload 5, 2) := by decide +kernel
theorem dX0_allStocks_28 : decode cX0_allStocks 28 = .ok (.getfield 167, 3) := by decide +kernel
theorem dX0_allStocks_31 : decode cX0_allStocks 31 = .ok (.iadd, 1) := by decide +kernel
theorem dX0_allStocks_32 : decode cX0_allStocks 32 = .ok (.istore_n 1, 1) := by decide +kernel
theorem dX0_allStocks_33 : decode cX0_allStocks 33 = .ok (.iinc 4 1, 3) := by decide +kernel
theorem dX0_allStocks_36 : decode cX0_allStocks 36 = .ok (.goto (-23), 3) := by decide +kernel
theorem dX0_allStocks_39 : decode cX0_allStocks 39 = .ok (.iload_n 1, 1) := by decide +kernel
theorem dX0_allStocks_40 : decode cX0_allStocks 40 = .ok (.ireturn, 1) := by decide +kernel
set_option maxRecDepth 20000 in
theorem ggX0_given_X0_kindAt : GoodIn wsX0_given wsX0_kindAt := goodIn_r _ [13, 14, 15, 16, 17, 75, 76, 77, 78, 79, 80, 81, 82, 83] (by decide +kernel) (by decide +kernel)
set_option maxRecDepth 20000 in
theorem gX0_given_X0_kindAt : GoodIn wsX0_given (wsV RX0 72 RX0 yX0_kindAt wsX0_kindAt) := goodIn_app (goodIn_of _ (by decide +kernel)) ggX0_given_X0_kindAt
set_option maxRecDepth 20000 in
theorem ggX0_given_X7_guessFrom : GoodIn wsX0_given wsX7_guessFrom := goodIn_r _ [22, 23, 24, 25, 26, 27, 28, 29, 30, 31, 32, 33, 34, 21, 35, 36, 37, 38, 39, 40, 41, 42, 43, 44, 45, 46, 47, 48, 49, 16, 50, 51, 52, 53, 54, 55, 56, 57, 58, 59, 60, 61, 62, 63, 64, 65, 66, 67, 68, 69, 70, 71, 72, 73, 74, 90, 91, 92, 93, 94] (by decide +kernel) (by decide +kernel)
set_option maxRecDepth 20000 in
theorem gX0_given_X7_guessFrom : GoodIn wsX0_given (wsV RX0 116 RX7 yX7_guessFrom wsX7_guessFrom) := goodIn_app (goodIn_of _ (by decide +kernel)) ggX0_given_X7_guessFrom
theorem dX0_given_0 : decode cX0_given 0 = .ok (.ldc 159, 2) := by decide +kernel
theorem dX0_given_2 : decode cX0_given 2 = .ok (.istore_n 2, 1) := by decide +kernel
theorem dX0_given_3 : decode cX0_given 3 = .ok (.aload_n 0, 1) := by decide +kernel
theorem dX0_given_4 : decode cX0_given 4 = .ok (.getfield 26, 3) := by decide +kernel
theorem dX0_given_7 : decode cX0_given 7 = .ok (.astore_n 3, 1) := by decide +kernel
theorem dX0_given_8 : decode cX0_given 8 = .ok (.aload_n 3, 1) := by decide +kernel
theorem dX0_given_9 : decode cX0_given 9 = .ok (.arraylength, 1) := by decide +kernel
theorem dX0_given_10 : decode cX0_given 10 = .ok (.istore 4, 2) := by decide +kernel
theorem dX0_given_12 : decode cX0_given 12 = .ok (.iconst 0, 1) := by decide +kernel
theorem dX0_given_13 : decode cX0_given 13 = .ok (.istore 5, 2) := by decide +kernel
theorem dX0_given_15 : decode cX0_given 15 = .ok (.iload 5, 2) := by decide +kernel
theorem dX0_given_17 : decode cX0_given 17 = .ok (.iload 4, 2) := by decide +kernel
theorem dX0_given_19 : decode cX0_given 19 = .ok (.if_icmp .ge 82, 3) := by decide +kernel
theorem dX0_given_22 : decode cX0_given 22 = .ok (.aload_n 3, 1) := by decide +kernel
theorem dX0_given_23 : decode cX0_given 23 = .ok (.iload 5, 2) := by decide +kernel
theorem dX0_given_25 : decode cX0_given 25 = .ok (.aaload, 1) := by decide +kernel
theorem dX0_given_26 : decode cX0_given 26 = .ok (.astore 6, 2) := by decide +kernel
theorem dX0_given_28 : decode cX0_given 28 = .ok (.aload 6, 2) := by decide +kernel
theorem dX0_given_30 : decode cX0_given 30 = .ok (.getfield 127, 3) := by decide +kernel
theorem dX0_given_33 : decode cX0_given 33 = .ok (.ifCond .eq 62, 3) := by decide +kernel
theorem dX0_given_36 : decode cX0_given 36 = .ok (.aload_n 0, 1) := by decide +kernel
theorem dX0_given_37 : decode cX0_given 37 = .ok (.aload 6, 2) := by decide +kernel
theorem dX0_given_39 : decode cX0_given 39 = .ok (.getfield 135, 3) := by decide +kernel
theorem dX0_given_42 : decode cX0_given 42 = .ok (.invokevirtual 72, 3) := by decide +kernel
theorem dX0_given_45 : decode cX0_given 45 = .ok (.astore 7, 2) := by decide +kernel
theorem dX0_given_47 : decode cX0_given 47 = .ok (.aload 7, 2) := by decide +kernel
theorem dX0_given_49 : decode cX0_given 49 = .ok (.ifnonnull 8, 3) := by decide +kernel
theorem dX0_given_52 : decode cX0_given 52 = .ok (.ldc 186, 2) := by decide +kernel
theorem dX0_given_54 : decode cX0_given 54 = .ok (.goto 18, 3) := by decide +kernel
theorem dX0_given_57 : decode cX0_given 57 = .ok (.aload_n 0, 1) := by decide +kernel
theorem dX0_given_58 : decode cX0_given 58 = .ok (.getfield 20, 3) := by decide +kernel
theorem dX0_given_61 : decode cX0_given 61 = .ok (.aload 6, 2) := by decide +kernel
theorem dX0_given_63 : decode cX0_given 63 = .ok (.getfield 138, 3) := by decide +kernel
theorem dX0_given_66 : decode cX0_given 66 = .ok (.aload 7, 2) := by decide +kernel
theorem dX0_given_68 : decode cX0_given 68 = .ok (.iload_n 1, 1) := by decide +kernel
theorem dX0_given_69 : decode cX0_given 69 = .ok (.invokevirtual 116, 3) := by decide +kernel
theorem dX0_given_72 : decode cX0_given 72 = .ok (.istore 8, 2) := by decide +kernel
theorem dX0_given_74 : decode cX0_given 74 = .ok (.iload 8, 2) := by decide +kernel
theorem dX0_given_76 : decode cX0_given 76 = .ok (.ldc 186, 2) := by decide +kernel
theorem dX0_given_78 : decode cX0_given 78 = .ok (.if_icmp .ne 6, 3) := by decide +kernel
theorem dX0_given_81 : decode cX0_given 81 = .ok (.ldc 186, 2) := by decide +kernel
theorem dX0_given_83 : decode cX0_given 83 = .ok (.ireturn, 1) := by decide +kernel
theorem dX0_given_84 : decode cX0_given 84 = .ok (.iload_n 2, 1) := by decide +kernel
theorem dX0_given_85 : decode cX0_given 85 = .ok (.iload 8, 2) := by decide +kernel
theorem dX0_given_87 : decode cX0_given 87 = .ok (.aload 6, 2) := by decide +kernel
theorem dX0_given_89 : decode cX0_given 89 = .ok (.getfield 145, 3) := by decide +kernel
theorem dX0_given_92 : decode cX0_given 92 = .ok (.isub, 1) := by decide +kernel
theorem dX0_given_93 : decode cX0_given 93 = .ok (.iadd, 1) := by decide +kernel
theorem dX0_given_94 : decode cX0_given 94 = .ok (.istore_n 2, 1) := by decide +kernel
theorem dX0_given_95 : decode cX0_given 95 = .ok (.iinc 5 1, 3) := by decide +kernel
theorem dX0_given_98 : decode cX0_given 98 = .ok (.goto (-83), 3) := by decide +kernel
theorem dX0_given_101 : decode cX0_given 101 = .ok (.iload_n 2, 1) := by decide +kernel
theorem dX0_given_102 : decode cX0_given 102 = .ok (.ireturn, 1) := by decide +kernel
set_option maxRecDepth 20000 in
theorem ggX0_fairestRule_X0_given : GoodIn wsX0_fairestRule wsX0_given := goodIn_r _ [11, 2, 12, 13, 14, 1, 15, 16, 17, 18, 19, 20, 10, 21, 22, 23, 24, 25, 26, 27, 28, 29, 30, 31, 32, 33, 34, 5, 35, 36, 37, 38, 39, 40, 41, 42, 43, 44, 45, 46, 47, 48, 49, 50, 51, 52, 53, 54, 55, 56, 57, 58, 59, 60, 61, 62, 63, 64, 65, 66, 67, 68, 69, 70, 71, 72, 73, 74, 75, 76, 77, 78, 79, 80, 81, 82, 83, 84, 85, 86, 87, 88, 89, 90, 91, 92, 93, 94, 95, 96, 97, 98, 99, 100, 101] (by decide +kernel) (by decide +kernel)
set_option maxRecDepth 20000 in
theorem gX0_fairestRule_X0_given : GoodIn wsX0_fairestRule (wsV RX0 187 RX0 yX0_given wsX0_given) := goodIn_app (goodIn_of _ (by decide +kernel)) ggX0_fairestRule_X0_given
theorem dX0_fairestRule_0 : decode cX0_fairestRule 0 = .ok (.ldc 186, 2) := by decide +kernel
theorem dX0_fairestRule_2 : decode cX0_fairestRule 2 = .ok (.istore_n 1, 1) := by decide +kernel
theorem dX0_fairestRule_3 : decode cX0_fairestRule 3 = .ok (.iconst 0, 1) := by decide +kernel
theorem dX0_fairestRule_4 : decode cX0_fairestRule 4 = .ok (.istore_n 2, 1) := by decide +kernel
theorem dX0_fairestRule_5 : decode cX0_fairestRule 5 = .ok (.iconst 0, 1) := by decide +kernel
theorem dX0_fairestRule_6 : decode cX0_fairestRule 6 = .ok (.istore_n 3, 1) := by decide +kernel
theorem dX0_fairestRule_7 : decode cX0_fairestRule 7 = .ok (.iload_n 3, 1) := by decide +kernel
theorem dX0_fairestRule_8 : decode cX0_fairestRule 8 = .ok (.iconst 4, 1) := by decide +kernel
theorem dX0_fairestRule_9 : decode cX0_fairestRule 9 = .ok (.if_icmp .ge 53, 3) := by decide +kernel
theorem dX0_fairestRule_12 : decode cX0_fairestRule 12 = .ok (.aload_n 0, 1) := by decide +kernel
theorem dX0_fairestRule_13 : decode cX0_fairestRule 13 = .ok (.iload_n 3, 1) := by decide +kernel
theorem dX0_fairestRule_14 : decode cX0_fairestRule 14 = .ok (.invokevirtual 187, 3) := by decide +kernel
theorem dX0_fairestRule_17 : decode cX0_fairestRule 17 = .ok (.istore 4, 2) := by decide +kernel
theorem dX0_fairestRule_19 : decode cX0_fairestRule 19 = .ok (.iload 4, 2) := by decide +kernel
theorem dX0_fairestRule_21 : decode cX0_fairestRule 21 = .ok (.ldc 186, 2) := by decide +kernel
theorem dX0_fairestRule_23 : decode cX0_fairestRule 23 = .ok (.if_icmp .ne 6, 3) := by decide +kernel
theorem dX0_fairestRule_26 : decode cX0_fairestRule 26 = .ok (.ldc 186, 2) := by decide +kernel
theorem dX0_fairestRule_28 : decode cX0_fairestRule 28 = .ok (.ireturn, 1) := by decide +kernel
theorem dX0_fairestRule_29 : decode cX0_fairestRule 29 = .ok (.iload 4, 2) := by decide +kernel
theorem dX0_fairestRule_31 : decode cX0_fairestRule 31 = .ok (.ldc 159, 2) := by decide +kernel
theorem dX0_fairestRule_33 : decode cX0_fairestRule 33 = .ok (.isub, 1) := by decide +kernel
theorem dX0_fairestRule_34 : decode cX0_fairestRule 34 = .ok (.invokestatic 191, 3) := by decide +kernel
theorem dX0_fairestRule_37 : decode cX0_fairestRule 37 = .ok (.istore 5, 2) := by decide +kernel
theorem dX0_fairestRule_39 : decode cX0_fairestRule 39 = .ok (.iload_n 1, 1) := by decide +kernel
theorem dX0_fairestRule_40 : decode cX0_fairestRule 40 = .ok (.ldc 186, 2) := by decide +kernel
theorem dX0_fairestRule_42 : decode cX0_fairestRule 42 = .ok (.if_icmp .eq 9, 3) := by decide +kernel
theorem dX0_fairestRule_45 : decode cX0_fairestRule 45 = .ok (.iload 5, 2) := by decide +kernel
theorem dX0_fairestRule_47 : decode cX0_fairestRule 47 = .ok (.iload_n 2, 1) := by decide +kernel
theorem dX0_fairestRule_48 : decode cX0_fairestRule 48 = .ok (.if_icmp .ge 8, 3) := by decide +kernel
theorem dX0_fairestRule_51 : decode cX0_fairestRule 51 = .ok (.iload_n 3, 1) := by decide +kernel
theorem dX0_fairestRule_52 : decode cX0_fairestRule 52 = .ok (.istore_n 1, 1) := by decide +kernel
theorem dX0_fairestRule_53 : decode cX0_fairestRule 53 = .ok (.iload 5, 2) := by decide +kernel
theorem dX0_fairestRule_55 : decode cX0_fairestRule 55 = .ok (.istore_n 2, 1) := by decide +kernel
theorem dX0_fairestRule_56 : decode cX0_fairestRule 56 = .ok (.iinc 3 1, 3) := by decide +kernel
theorem dX0_fairestRule_59 : decode cX0_fairestRule 59 = .ok (.goto (-52), 3) := by decide +kernel
theorem dX0_fairestRule_62 : decode cX0_fairestRule 62 = .ok (.iload_n 1, 1) := by decide +kernel
theorem dX0_fairestRule_63 : decode cX0_fairestRule 63 = .ok (.ireturn, 1) := by decide +kernel
set_option maxRecDepth 20000 in
theorem ggX0_shopWith_X0_nextByPrice : GoodIn wsX0_shopWith wsX0_nextByPrice := goodIn_r _ [12, 13, 14, 15, 16, 11, 17, 2, 18, 19, 20, 21, 22, 23, 24, 25, 39, 40, 41, 42, 43, 44, 45, 46, 47, 32, 33, 34, 35, 36, 37, 38] (by decide +kernel) (by decide +kernel)
set_option maxRecDepth 20000 in
theorem gX0_shopWith_X0_nextByPrice : GoodIn wsX0_shopWith (wsV RX0 194 RX0 yX0_nextByPrice wsX0_nextByPrice) := goodIn_app (goodIn_of _ (by decide +kernel)) ggX0_shopWith_X0_nextByPrice
set_option maxRecDepth 20000 in
theorem ggX0_shopWith_X0_prizeAt : GoodIn wsX0_shopWith wsX0_prizeAt := goodIn_r _ [21, 13, 22, 23, 24, 25, 39, 40, 41, 42, 43, 44, 45, 46, 47] (by decide +kernel) (by decide +kernel)
set_option maxRecDepth 20000 in
theorem gX0_shopWith_X0_prizeAt : GoodIn wsX0_shopWith (wsV RX0 163 RX0 yX0_prizeAt wsX0_prizeAt) := goodIn_app (goodIn_of _ (by decide +kernel)) ggX0_shopWith_X0_prizeAt
set_option maxRecDepth 20000 in
theorem ggX0_shopWith_X9_quotient : GoodIn wsX0_shopWith wsX9_quotient := goodIn_r _ [27, 28, 29, 30, 31] (by decide +kernel) (by decide +kernel)
set_option maxRecDepth 20000 in
theorem gX0_shopWith_X9_quotient_n197 : GoodIn wsX0_shopWith (wsX9_quotient) := ggX0_shopWith_X9_quotient
theorem dX0_shopWith_0 : decode cX0_shopWith 0 = .ok (.iload_n 1, 1) := by decide +kernel
theorem dX0_shopWith_1 : decode cX0_shopWith 1 = .ok (.istore_n 3, 1) := by decide +kernel
theorem dX0_shopWith_2 : decode cX0_shopWith 2 = .ok (.iconst 0, 1) := by decide +kernel
theorem dX0_shopWith_3 : decode cX0_shopWith 3 = .ok (.istore 4, 2) := by decide +kernel
theorem dX0_shopWith_5 : decode cX0_shopWith 5 = .ok (.iconst 0, 1) := by decide +kernel
theorem dX0_shopWith_6 : decode cX0_shopWith 6 = .ok (.istore 5, 2) := by decide +kernel
theorem dX0_shopWith_8 : decode cX0_shopWith 8 = .ok (.iconst (-1), 1) := by decide +kernel
theorem dX0_shopWith_9 : decode cX0_shopWith 9 = .ok (.istore 6, 2) := by decide +kernel
theorem dX0_shopWith_11 : decode cX0_shopWith 11 = .ok (.iconst 0, 1) := by decide +kernel
theorem dX0_shopWith_12 : decode cX0_shopWith 12 = .ok (.istore 7, 2) := by decide +kernel
theorem dX0_shopWith_14 : decode cX0_shopWith 14 = .ok (.iload 7, 2) := by decide +kernel
theorem dX0_shopWith_16 : decode cX0_shopWith 16 = .ok (.bipush 6, 2) := by decide +kernel
theorem dX0_shopWith_18 : decode cX0_shopWith 18 = .ok (.if_icmp .ge 80, 3) := by decide +kernel
theorem dX0_shopWith_21 : decode cX0_shopWith 21 = .ok (.aload_n 0, 1) := by decide +kernel
theorem dX0_shopWith_22 : decode cX0_shopWith 22 = .ok (.iload 6, 2) := by decide +kernel
theorem dX0_shopWith_24 : decode cX0_shopWith 24 = .ok (.invokevirtual 194, 3) := by decide +kernel
theorem dX0_shopWith_27 : decode cX0_shopWith 27 = .ok (.istore 6, 2) := by decide +kernel
theorem dX0_shopWith_29 : decode cX0_shopWith 29 = .ok (.aload_n 0, 1) := by decide +kernel
theorem dX0_shopWith_30 : decode cX0_shopWith 30 = .ok (.iload 6, 2) := by decide +kernel
theorem dX0_shopWith_32 : decode cX0_shopWith 32 = .ok (.invokevirtual 163, 3) := by decide +kernel
theorem dX0_shopWith_35 : decode cX0_shopWith 35 = .ok (.astore 8, 2) := by decide +kernel
theorem dX0_shopWith_37 : decode cX0_shopWith 37 = .ok (.aload 8, 2) := by decide +kernel
theorem dX0_shopWith_39 : decode cX0_shopWith 39 = .ok (.ifnull 53, 3) := by decide +kernel
theorem dX0_shopWith_42 : decode cX0_shopWith 42 = .ok (.aload 8, 2) := by decide +kernel
theorem dX0_shopWith_44 : decode cX0_shopWith 44 = .ok (.getfield 167, 3) := by decide +kernel
theorem dX0_shopWith_47 : decode cX0_shopWith 47 = .ok (.iload_n 3, 1) := by decide +kernel
theorem dX0_shopWith_48 : decode cX0_shopWith 48 = .ok (.aload 8, 2) := by decide +kernel
theorem dX0_shopWith_50 : decode cX0_shopWith 50 = .ok (.getfield 170, 3) := by decide +kernel
theorem dX0_shopWith_53 : decode cX0_shopWith 53 = .ok (.invokestatic 197, 3) := by decide +kernel
theorem dX0_shopWith_56 : decode cX0_shopWith 56 = .ok (.invokestatic 92, 3) := by decide +kernel
theorem dX0_shopWith_59 : decode cX0_shopWith 59 = .ok (.istore 9, 2) := by decide +kernel
theorem dX0_shopWith_61 : decode cX0_shopWith 61 = .ok (.iload_n 3, 1) := by decide +kernel
theorem dX0_shopWith_62 : decode cX0_shopWith 62 = .ok (.iload 9, 2) := by decide +kernel
theorem dX0_shopWith_64 : decode cX0_shopWith 64 = .ok (.aload 8, 2) := by decide +kernel
theorem dX0_shopWith_66 : decode cX0_shopWith 66 = .ok (.getfield 170, 3) := by decide +kernel
theorem dX0_shopWith_69 : decode cX0_shopWith 69 = .ok (.imul, 1) := by decide +kernel
theorem dX0_shopWith_70 : decode cX0_shopWith 70 = .ok (.isub, 1) := by decide +kernel
theorem dX0_shopWith_71 : decode cX0_shopWith 71 = .ok (.istore_n 3, 1) := by decide +kernel
theorem dX0_shopWith_72 : decode cX0_shopWith 72 = .ok (.iload 4, 2) := by decide +kernel
theorem dX0_shopWith_74 : decode cX0_shopWith 74 = .ok (.iload 9, 2) := by decide +kernel
theorem dX0_shopWith_76 : decode cX0_shopWith 76 = .ok (.iadd, 1) := by decide +kernel
theorem dX0_shopWith_77 : decode cX0_shopWith 77 = .ok (.istore 4, 2) := by decide +kernel
theorem dX0_shopWith_79 : decode cX0_shopWith 79 = .ok (.iload 5, 2) := by decide +kernel
theorem dX0_shopWith_81 : decode cX0_shopWith 81 = .ok (.iload 9, 2) := by decide +kernel
theorem dX0_shopWith_83 : decode cX0_shopWith 83 = .ok (.aload 8, 2) := by decide +kernel
theorem dX0_shopWith_85 : decode cX0_shopWith 85 = .ok (.getfield 200, 3) := by decide +kernel
theorem dX0_shopWith_88 : decode cX0_shopWith 88 = .ok (.imul, 1) := by decide +kernel
theorem dX0_shopWith_89 : decode cX0_shopWith 89 = .ok (.iadd, 1) := by decide +kernel
theorem dX0_shopWith_90 : decode cX0_shopWith 90 = .ok (.istore 5, 2) := by decide +kernel
theorem dX0_shopWith_92 : decode cX0_shopWith 92 = .ok (.iinc 7 1, 3) := by decide +kernel
theorem dX0_shopWith_95 : decode cX0_shopWith 95 = .ok (.goto (-81), 3) := by decide +kernel
theorem dX0_shopWith_98 : decode cX0_shopWith 98 = .ok (.iload_n 2, 1) := by decide +kernel
theorem dX0_shopWith_99 : decode cX0_shopWith 99 = .ok (.lookupswitch 30 #[(0, 25), (1, 28)], 25) := by decide +kernel
theorem dX0_shopWith_124 : decode cX0_shopWith 124 = .ok (.iload 4, 2) := by decide +kernel
theorem dX0_shopWith_126 : decode cX0_shopWith 126 = .ok (.ireturn, 1) := by decide +kernel
theorem dX0_shopWith_127 : decode cX0_shopWith 127 = .ok (.iload_n 3, 1) := by decide +kernel
theorem dX0_shopWith_128 : decode cX0_shopWith 128 = .ok (.ireturn, 1) := by decide +kernel
theorem dX0_shopWith_129 : decode cX0_shopWith 129 = .ok (.iload 5, 2) := by decide +kernel
theorem dX0_shopWith_131 : decode cX0_shopWith 131 = .ok (.ireturn, 1) := by decide +kernel
set_option maxRecDepth 20000 in
theorem ggX0_nextByPrice_X0_isBehind : GoodIn wsX0_nextByPrice wsX0_isBehind := goodIn_r _ [6, 7, 8, 9, 10, 5, 11, 1, 12, 13, 14, 15, 25, 26, 27, 28, 29, 30, 31, 16, 17, 18, 19, 20, 21, 22, 23, 24] (by decide +kernel) (by decide +kernel)
set_option maxRecDepth 20000 in
theorem gX0_nextByPrice_X0_isBehind : GoodIn wsX0_nextByPrice (wsV RX0 201 RX0 yX0_isBehind wsX0_isBehind) := goodIn_app (goodIn_of _ (by decide +kernel)) ggX0_nextByPrice_X0_isBehind
theorem dX0_nextByPrice_0 : decode cX0_nextByPrice 0 = .ok (.aload_n 0, 1) := by decide +kernel
theorem dX0_nextByPrice_1 : decode cX0_nextByPrice 1 = .ok (.getfield 59, 3) := by decide +kernel
theorem dX0_nextByPrice_4 : decode cX0_nextByPrice 4 = .ok (.istore_n 2, 1) := by decide +kernel
theorem dX0_nextByPrice_5 : decode cX0_nextByPrice 5 = .ok (.iconst 0, 1) := by decide +kernel
theorem dX0_nextByPrice_6 : decode cX0_nextByPrice 6 = .ok (.istore_n 3, 1) := by decide +kernel
theorem dX0_nextByPrice_7 : decode cX0_nextByPrice 7 = .ok (.iload_n 3, 1) := by decide +kernel
theorem dX0_nextByPrice_8 : decode cX0_nextByPrice 8 = .ok (.bipush 6, 2) := by decide +kernel
theorem dX0_nextByPrice_10 : decode cX0_nextByPrice 10 = .ok (.if_icmp .ge 37, 3) := by decide +kernel
theorem dX0_nextByPrice_13 : decode cX0_nextByPrice 13 = .ok (.aload_n 0, 1) := by decide +kernel
theorem dX0_nextByPrice_14 : decode cX0_nextByPrice 14 = .ok (.iload_n 3, 1) := by decide +kernel
theorem dX0_nextByPrice_15 : decode cX0_nextByPrice 15 = .ok (.iload_n 1, 1) := by decide +kernel
theorem dX0_nextByPrice_16 : decode cX0_nextByPrice 16 = .ok (.invokevirtual 201, 3) := by decide +kernel
theorem dX0_nextByPrice_19 : decode cX0_nextByPrice 19 = .ok (.ifCond .eq 22, 3) := by decide +kernel
theorem dX0_nextByPrice_22 : decode cX0_nextByPrice 22 = .ok (.iload_n 2, 1) := by decide +kernel
theorem dX0_nextByPrice_23 : decode cX0_nextByPrice 23 = .ok (.aload_n 0, 1) := by decide +kernel
theorem dX0_nextByPrice_24 : decode cX0_nextByPrice 24 = .ok (.getfield 59, 3) := by decide +kernel
theorem dX0_nextByPrice_27 : decode cX0_nextByPrice 27 = .ok (.if_icmp .eq 12, 3) := by decide +kernel
theorem dX0_nextByPrice_30 : decode cX0_nextByPrice 30 = .ok (.aload_n 0, 1) := by decide +kernel
theorem dX0_nextByPrice_31 : decode cX0_nextByPrice 31 = .ok (.iload_n 2, 1) := by decide +kernel
theorem dX0_nextByPrice_32 : decode cX0_nextByPrice 32 = .ok (.iload_n 3, 1) := by decide +kernel
theorem dX0_nextByPrice_33 : decode cX0_nextByPrice 33 = .ok (.invokevirtual 201, 3) := by decide +kernel
theorem dX0_nextByPrice_36 : decode cX0_nextByPrice 36 = .ok (.ifCond .eq 5, 3) := by decide +kernel
theorem dX0_nextByPrice_39 : decode cX0_nextByPrice 39 = .ok (.iload_n 3, 1) := by decide +kernel
theorem dX0_nextByPrice_40 : decode cX0_nextByPrice 40 = .ok (.istore_n 2, 1) := by decide +kernel
theorem dX0_nextByPrice_41 : decode cX0_nextByPrice 41 = .ok (.iinc 3 1, 3) := by decide +kernel
theorem dX0_nextByPrice_44 : decode cX0_nextByPrice 44 = .ok (.goto (-37), 3) := by decide +kernel
theorem dX0_nextByPrice_47 : decode cX0_nextByPrice 47 = .ok (.iload_n 2, 1) := by decide +kernel
theorem dX0_nextByPrice_48 : decode cX0_nextByPrice 48 = .ok (.ireturn, 1) := by decide +kernel
set_option maxRecDepth 20000 in
theorem ggX0_isBehind_X0_prizeAt : GoodIn wsX0_isBehind wsX0_prizeAt := goodIn_r _ [6, 7, 8, 9, 10, 11, 19, 20, 21, 22, 23, 24, 25, 26, 27] (by decide +kernel) (by decide +kernel)
set_option maxRecDepth 20000 in
theorem gX0_isBehind_X0_prizeAt : GoodIn wsX0_isBehind (wsV RX0 163 RX0 yX0_prizeAt wsX0_prizeAt) := goodIn_app (goodIn_of _ (by decide +kernel)) ggX0_isBehind_X0_prizeAt
theorem dX0_isBehind_0 : decode cX0_isBehind 0 = .ok (.aload_n 0, 1) := by decide +kernel
theorem dX0_isBehind_1 : decode cX0_isBehind 1 = .ok (.iload_n 1, 1) := by decide +kernel
theorem dX0_isBehind_2 : decode cX0_isBehind 2 = .ok (.invokevirtual 163, 3) := by decide +kernel
theorem dX0_isBehind_5 : decode cX0_isBehind 5 = .ok (.astore_n 3, 1) := by decide +kernel
theorem dX0_isBehind_6 : decode cX0_isBehind 6 = .ok (.aload_n 0, 1) := by decide +kernel
theorem dX0_isBehind_7 : decode cX0_isBehind 7 = .ok (.iload_n 2, 1) := by decide +kernel
theorem dX0_isBehind_8 : decode cX0_isBehind 8 = .ok (.invokevirtual 163, 3) := by decide +kernel
theorem dX0_isBehind_11 : decode cX0_isBehind 11 = .ok (.astore 4, 2) := by decide +kernel
theorem dX0_isBehind_13 : decode cX0_isBehind 13 = .ok (.aload_n 3, 1) := by decide +kernel
theorem dX0_isBehind_14 : decode cX0_isBehind 14 = .ok (.ifnonnull 5, 3) := by decide +kernel
theorem dX0_isBehind_17 : decode cX0_isBehind 17 = .ok (.iconst 0, 1) := by decide +kernel
theorem dX0_isBehind_18 : decode cX0_isBehind 18 = .ok (.ireturn, 1) := by decide +kernel
theorem dX0_isBehind_19 : decode cX0_isBehind 19 = .ok (.aload 4, 2) := by decide +kernel
theorem dX0_isBehind_21 : decode cX0_isBehind 21 = .ok (.ifnonnull 13, 3) := by decide +kernel
theorem dX0_isBehind_24 : decode cX0_isBehind 24 = .ok (.iload_n 2, 1) := by decide +kernel
theorem dX0_isBehind_25 : decode cX0_isBehind 25 = .ok (.ifCond .ge 7, 3) := by decide +kernel
theorem dX0_isBehind_28 : decode cX0_isBehind 28 = .ok (.iconst 1, 1) := by decide +kernel
theorem dX0_isBehind_29 : decode cX0_isBehind 29 = .ok (.goto 4, 3) := by decide +kernel
theorem dX0_isBehind_32 : decode cX0_isBehind 32 = .ok (.iconst 0, 1) := by decide +kernel
theorem dX0_isBehind_33 : decode cX0_isBehind 33 = .ok (.ireturn, 1) := by decide +kernel
theorem dX0_isBehind_34 : decode cX0_isBehind 34 = .ok (.aload_n 3, 1) := by decide +kernel
theorem dX0_isBehind_35 : decode cX0_isBehind 35 = .ok (.getfield 170, 3) := by decide +kernel
theorem dX0_isBehind_38 : decode cX0_isBehind 38 = .ok (.aload 4, 2) := by decide +kernel
theorem dX0_isBehind_40 : decode cX0_isBehind 40 = .ok (.getfield 170, 3) := by decide +kernel
theorem dX0_isBehind_43 : decode cX0_isBehind 43 = .ok (.if_icmp .gt 20, 3) := by decide +kernel
theorem dX0_isBehind_46 : decode cX0_isBehind 46 = .ok (.aload_n 3, 1) := by decide +kernel
theorem dX0_isBehind_47 : decode cX0_isBehind 47 = .ok (.getfield 170, 3) := by decide +kernel
theorem dX0_isBehind_50 : decode cX0_isBehind 50 = .ok (.aload 4, 2) := by decide +kernel
theorem dX0_isBehind_52 : decode cX0_isBehind 52 = .ok (.getfield 170, 3) := by decide +kernel
theorem dX0_isBehind_55 : decode cX0_isBehind 55 = .ok (.if_icmp .ne 12, 3) := by decide +kernel
theorem dX0_isBehind_58 : decode cX0_isBehind 58 = .ok (.iload_n 1, 1) := by decide +kernel
theorem dX0_isBehind_59 : decode cX0_isBehind 59 = .ok (.iload_n 2, 1) := by decide +kernel
theorem dX0_isBehind_60 : decode cX0_isBehind 60 = .ok (.if_icmp .le 7, 3) := by decide +kernel
theorem dX0_isBehind_63 : decode cX0_isBehind 63 = .ok (.iconst 1, 1) := by decide +kernel
theorem dX0_isBehind_64 : decode cX0_isBehind 64 = .ok (.goto 4, 3) := by decide +kernel
theorem dX0_isBehind_67 : decode cX0_isBehind 67 = .ok (.iconst 0, 1) := by decide +kernel
theorem dX0_isBehind_68 : decode cX0_isBehind 68 = .ok (.ireturn, 1) := by decide +kernel
theorem dX1_init_0 : decode cX1_init 0 = .ok (.aload_n 0, 1) := by decide +kernel
theorem dX1_init_1 : decode cX1_init 1 = .ok (.invokespecial 3, 3) := by decide +kernel
theorem dX1_init_4 : decode cX1_init 4 = .ok (.return_, 1) := by decide +kernel
theorem dX1_copyFrom_0 : decode cX1_copyFrom 0 = .ok (.aload_n 0, 1) := by decide +kernel
theorem dX1_copyFrom_1 : decode cX1_copyFrom 1 = .ok (.aload_n 1, 1) := by decide +kernel
theorem dX1_copyFrom_2 : decode cX1_copyFrom 2 = .ok (.getfield 9, 3) := by decide +kernel
theorem dX1_copyFrom_5 : decode cX1_copyFrom 5 = .ok (.putfield 9, 3) := by decide +kernel
theorem dX1_copyFrom_8 : decode cX1_copyFrom 8 = .ok (.aload_n 0, 1) := by decide +kernel
theorem dX1_copyFrom_9 : decode cX1_copyFrom 9 = .ok (.aload_n 1, 1) := by decide +kernel
theorem dX1_copyFrom_10 : decode cX1_copyFrom 10 = .ok (.getfield 15, 3) := by decide +kernel
theorem dX1_copyFrom_13 : decode cX1_copyFrom 13 = .ok (.putfield 15, 3) := by decide +kernel
theorem dX1_copyFrom_16 : decode cX1_copyFrom 16 = .ok (.aload_n 0, 1) := by decide +kernel
theorem dX1_copyFrom_17 : decode cX1_copyFrom 17 = .ok (.aload_n 1, 1) := by decide +kernel
theorem dX1_copyFrom_18 : decode cX1_copyFrom 18 = .ok (.getfield 19, 3) := by decide +kernel
theorem dX1_copyFrom_21 : decode cX1_copyFrom 21 = .ok (.putfield 19, 3) := by decide +kernel
theorem dX1_copyFrom_24 : decode cX1_copyFrom 24 = .ok (.aload_n 0, 1) := by decide +kernel
theorem dX1_copyFrom_25 : decode cX1_copyFrom 25 = .ok (.aload_n 1, 1) := by decide +kernel
theorem dX1_copyFrom_26 : decode cX1_copyFrom 26 = .ok (.getfield 22, 3) := by decide +kernel
theorem dX1_copyFrom_29 : decode cX1_copyFrom 29 = .ok (.putfield 22, 3) := by decide +kernel
theorem dX1_copyFrom_32 : decode cX1_copyFrom 32 = .ok (.aload_n 0, 1) := by decide +kernel
theorem dX1_copyFrom_33 : decode cX1_copyFrom 33 = .ok (.aload_n 1, 1) := by decide +kernel
theorem dX1_copyFrom_34 : decode cX1_copyFrom 34 = .ok (.getfield 25, 3) := by decide +kernel
theorem dX1_copyFrom_37 : decode cX1_copyFrom 37 = .ok (.putfield 25, 3) := by decide +kernel
theorem dX1_copyFrom_40 : decode cX1_copyFrom 40 = .ok (.aload_n 0, 1) := by decide +kernel
theorem dX1_copyFrom_41 : decode cX1_copyFrom 41 = .ok (.aload_n 1, 1) := by decide +kernel
theorem dX1_copyFrom_42 : decode cX1_copyFrom 42 = .ok (.getfield 28, 3) := by decide +kernel
theorem dX1_copyFrom_45 : decode cX1_copyFrom 45 = .ok (.putfield 28, 3) := by decide +kernel
theorem dX1_copyFrom_48 : decode cX1_copyFrom 48 = .ok (.return_, 1) := by decide +kernel
theorem dX1_begin_0 : decode cX1_begin 0 = .ok (.aload_n 0, 1) := by decide +kernel
theorem dX1_begin_1 : decode cX1_begin 1 = .ok (.iload_n 1, 1) := by decide +kernel
theorem dX1_begin_2 : decode cX1_begin 2 = .ok (.putfield 9, 3) := by decide +kernel
theorem dX1_begin_5 : decode cX1_begin 5 = .ok (.aload_n 0, 1) := by decide +kernel
theorem dX1_begin_6 : decode cX1_begin 6 = .ok (.iconst 0, 1) := by decide +kernel
theorem dX1_begin_7 : decode cX1_begin 7 = .ok (.putfield 15, 3) := by decide +kernel
theorem dX1_begin_10 : decode cX1_begin 10 = .ok (.return_, 1) := by decide +kernel
theorem dX1_keep_0 : decode cX1_keep 0 = .ok (.aload_n 0, 1) := by decide +kernel
theorem dX1_keep_1 : decode cX1_keep 1 = .ok (.iconst 1, 1) := by decide +kernel
theorem dX1_keep_2 : decode cX1_keep 2 = .ok (.putfield 15, 3) := by decide +kernel
theorem dX1_keep_5 : decode cX1_keep 5 = .ok (.aload_n 0, 1) := by decide +kernel
theorem dX1_keep_6 : decode cX1_keep 6 = .ok (.iload_n 1, 1) := by decide +kernel
theorem dX1_keep_7 : decode cX1_keep 7 = .ok (.putfield 19, 3) := by decide +kernel
theorem dX1_keep_10 : decode cX1_keep 10 = .ok (.aload_n 0, 1) := by decide +kernel
theorem dX1_keep_11 : decode cX1_keep 11 = .ok (.iload_n 2, 1) := by decide +kernel
theorem dX1_keep_12 : decode cX1_keep 12 = .ok (.putfield 22, 3) := by decide +kernel
theorem dX1_keep_15 : decode cX1_keep 15 = .ok (.aload_n 0, 1) := by decide +kernel
theorem dX1_keep_16 : decode cX1_keep 16 = .ok (.iload_n 3, 1) := by decide +kernel
theorem dX1_keep_17 : decode cX1_keep 17 = .ok (.putfield 25, 3) := by decide +kernel
theorem dX1_keep_20 : decode cX1_keep 20 = .ok (.aload_n 0, 1) := by decide +kernel
theorem dX1_keep_21 : decode cX1_keep 21 = .ok (.iload 4, 2) := by decide +kernel
theorem dX1_keep_23 : decode cX1_keep 23 = .ok (.putfield 28, 3) := by decide +kernel
theorem dX1_keep_26 : decode cX1_keep 26 = .ok (.return_, 1) := by decide +kernel
theorem dX1_isNearer_0 : decode cX1_isNearer 0 = .ok (.iload_n 1, 1) := by decide +kernel
theorem dX1_isNearer_1 : decode cX1_isNearer 1 = .ok (.aload_n 0, 1) := by decide +kernel
theorem dX1_isNearer_2 : decode cX1_isNearer 2 = .ok (.getfield 22, 3) := by decide +kernel
theorem dX1_isNearer_5 : decode cX1_isNearer 5 = .ok (.isub, 1) := by decide +kernel
theorem dX1_isNearer_6 : decode cX1_isNearer 6 = .ok (.invokestatic 31, 3) := by decide +kernel
theorem dX1_isNearer_9 : decode cX1_isNearer 9 = .ok (.aload_n 0, 1) := by decide +kernel
theorem dX1_isNearer_10 : decode cX1_isNearer 10 = .ok (.getfield 28, 3) := by decide +kernel
theorem dX1_isNearer_13 : decode cX1_isNearer 13 = .ok (.aload_n 0, 1) := by decide +kernel
theorem dX1_isNearer_14 : decode cX1_isNearer 14 = .ok (.getfield 22, 3) := by decide +kernel
theorem dX1_isNearer_17 : decode cX1_isNearer 17 = .ok (.isub, 1) := by decide +kernel
theorem dX1_isNearer_18 : decode cX1_isNearer 18 = .ok (.invokestatic 31, 3) := by decide +kernel
theorem dX1_isNearer_21 : decode cX1_isNearer 21 = .ok (.if_icmp .ge 7, 3) := by decide +kernel
theorem dX1_isNearer_24 : decode cX1_isNearer 24 = .ok (.iconst 1, 1) := by decide +kernel
theorem dX1_isNearer_25 : decode cX1_isNearer 25 = .ok (.goto 4, 3) := by decide +kernel
theorem dX1_isNearer_28 : decode cX1_isNearer 28 = .ok (.iconst 0, 1) := by decide +kernel
theorem dX1_isNearer_29 : decode cX1_isNearer 29 = .ok (.ireturn, 1) := by decide +kernel
theorem dX1_gain_0 : decode cX1_gain 0 = .ok (.aload_n 0, 1) := by decide +kernel
theorem dX1_gain_1 : decode cX1_gain 1 = .ok (.iconst 0, 1) := by decide +kernel
theorem dX1_gain_2 : decode cX1_gain 2 = .ok (.aload_n 0, 1) := by decide +kernel
theorem dX1_gain_3 : decode cX1_gain 3 = .ok (.getfield 9, 3) := by decide +kernel
theorem dX1_gain_6 : decode cX1_gain 6 = .ok (.iload_n 1, 1) := by decide +kernel
theorem dX1_gain_7 : decode cX1_gain 7 = .ok (.iadd, 1) := by decide +kernel
theorem dX1_gain_8 : decode cX1_gain 8 = .ok (.invokestatic 37, 3) := by decide +kernel
theorem dX1_gain_11 : decode cX1_gain 11 = .ok (.putfield 9, 3) := by decide +kernel
theorem dX1_gain_14 : decode cX1_gain 14 = .ok (.return_, 1) := by decide +kernel
set_option maxRecDepth 20000 in
theorem ggX1_part_X9_within : GoodIn wsX1_part wsX9_within := goodIn_r _ [11] (by decide +kernel) (by decide +kernel)
set_option maxRecDepth 20000 in
theorem gX1_part_X9_within_n41 : GoodIn wsX1_part (wsX9_within) := ggX1_part_X9_within
theorem dX1_part_0 : decode cX1_part 0 = .ok (.iload_n 1, 1) := by decide +kernel
theorem dX1_part_1 : decode cX1_part 1 = .ok (.iconst 0, 1) := by decide +kernel
theorem dX1_part_2 : decode cX1_part 2 = .ok (.iconst 4, 1) := by decide +kernel
theorem dX1_part_3 : decode cX1_part 3 = .ok (.invokestatic 41, 3) := by decide +kernel
theorem dX1_part_6 : decode cX1_part 6 = .ok (.ifCond .ne 6, 3) := by decide +kernel
theorem dX1_part_9 : decode cX1_part 9 = .ok (.ldc 45, 2) := by decide +kernel
theorem dX1_part_11 : decode cX1_part 11 = .ok (.ireturn, 1) := by decide +kernel
theorem dX1_part_12 : decode cX1_part 12 = .ok (.iload_n 1, 1) := by decide +kernel
theorem dX1_part_13 : decode cX1_part 13 = .ok (.ifCond .ne 8, 3) := by decide +kernel
theorem dX1_part_16 : decode cX1_part 16 = .ok (.aload_n 0, 1) := by decide +kernel
theorem dX1_part_17 : decode cX1_part 17 = .ok (.getfield 9, 3) := by decide +kernel
theorem dX1_part_20 : decode cX1_part 20 = .ok (.ireturn, 1) := by decide +kernel
theorem dX1_part_21 : decode cX1_part 21 = .ok (.aload_n 0, 1) := by decide +kernel
theorem dX1_part_22 : decode cX1_part 22 = .ok (.getfield 15, 3) := by decide +kernel
theorem dX1_part_25 : decode cX1_part 25 = .ok (.ifCond .ne 6, 3) := by decide +kernel
theorem dX1_part_28 : decode cX1_part 28 = .ok (.ldc 46, 2) := by decide +kernel
theorem dX1_part_30 : decode cX1_part 30 = .ok (.ireturn, 1) := by decide +kernel
theorem dX1_part_31 : decode cX1_part 31 = .ok (.iload_n 1, 1) := by decide +kernel
theorem dX1_part_32 : decode cX1_part 32 = .ok (.tableswitch 43 1 3 #[28, 33, 38], 28) := by decide +kernel
theorem dX1_part_60 : decode cX1_part 60 = .ok (.aload_n 0, 1) := by decide +kernel
theorem dX1_part_61 : decode cX1_part 61 = .ok (.getfield 19, 3) := by decide +kernel
theorem dX1_part_64 : decode cX1_part 64 = .ok (.ireturn, 1) := by decide +kernel
theorem dX1_part_65 : decode cX1_part 65 = .ok (.aload_n 0, 1) := by decide +kernel
theorem dX1_part_66 : decode cX1_part 66 = .ok (.getfield 22, 3) := by decide +kernel
theorem dX1_part_69 : decode cX1_part 69 = .ok (.ireturn, 1) := by decide +kernel
theorem dX1_part_70 : decode cX1_part 70 = .ok (.aload_n 0, 1) := by decide +kernel
theorem dX1_part_71 : decode cX1_part 71 = .ok (.getfield 25, 3) := by decide +kernel
theorem dX1_part_74 : decode cX1_part 74 = .ok (.ireturn, 1) := by decide +kernel
theorem dX1_part_75 : decode cX1_part 75 = .ok (.aload_n 0, 1) := by decide +kernel
theorem dX1_part_76 : decode cX1_part 76 = .ok (.getfield 28, 3) := by decide +kernel
theorem dX1_part_79 : decode cX1_part 79 = .ok (.ireturn, 1) := by decide +kernel
theorem dX2_init_0 : decode cX2_init 0 = .ok (.aload_n 0, 1) := by decide +kernel
theorem dX2_init_1 : decode cX2_init 1 = .ok (.invokespecial 3, 3) := by decide +kernel
theorem dX2_init_4 : decode cX2_init 4 = .ok (.return_, 1) := by decide +kernel
set_option maxRecDepth 20000 in
theorem ggX3_init_X8_init : GoodIn wsX3_init wsX8_init := goodIn_r _ [12, 13, 2, 3, 14, 15, 16, 17, 18, 19, 20, 21, 22, 23, 24, 25, 26, 27, 28, 29, 30, 31, 32, 33, 34, 35, 36, 37, 38, 39, 40, 41, 42, 43, 44, 45, 46, 47, 48, 49, 50, 51, 52, 53, 54, 55, 56, 57, 65, 66, 67, 68, 69, 70, 71, 72, 73, 62, 63, 64, 74, 75, 76, 77, 78, 79, 80, 81, 82, 83, 84, 85, 86, 87, 88, 89, 90, 91] (by decide +kernel) (by decide +kernel)
set_option maxRecDepth 20000 in
theorem gX3_init_X8_init : GoodIn wsX3_init (wsX8_init) := ggX3_init_X8_init
theorem dX3_init_0 : decode cX3_init 0 = .ok (.aload_n 0, 1) := by decide +kernel
theorem dX3_init_1 : decode cX3_init 1 = .ok (.invokespecial 3, 3) := by decide +kernel
theorem dX3_init_4 : decode cX3_init 4 = .ok (.aload_n 0, 1) := by decide +kernel
theorem dX3_init_5 : decode cX3_init 5 = .ok (.iconst 5, 1) := by decide +kernel
theorem dX3_init_6 : decode cX3_init 6 = .ok (.anewarray 9, 3) := by decide +kernel
theorem dX3_init_9 : decode cX3_init 9 = .ok (.putfield 11, 3) := by decide +kernel
theorem dX3_init_12 : decode cX3_init 12 = .ok (.aload_n 0, 1) := by decide +kernel
theorem dX3_init_13 : decode cX3_init 13 = .ok (.new 9, 3) := by decide +kernel
theorem dX3_init_16 : decode cX3_init 16 = .ok (.dup, 1) := by decide +kernel
theorem dX3_init_17 : decode cX3_init 17 = .ok (.invokespecial 17, 3) := by decide +kernel
theorem dX3_init_20 : decode cX3_init 20 = .ok (.putfield 18, 3) := by decide +kernel
theorem dX3_init_23 : decode cX3_init 23 = .ok (.aload_n 0, 1) := by decide +kernel
theorem dX3_init_24 : decode cX3_init 24 = .ok (.new 9, 3) := by decide +kernel
theorem dX3_init_27 : decode cX3_init 27 = .ok (.dup, 1) := by decide +kernel
theorem dX3_init_28 : decode cX3_init 28 = .ok (.invokespecial 17, 3) := by decide +kernel
theorem dX3_init_31 : decode cX3_init 31 = .ok (.putfield 22, 3) := by decide +kernel
theorem dX3_init_34 : decode cX3_init 34 = .ok (.iconst 0, 1) := by decide +kernel
theorem dX3_init_35 : decode cX3_init 35 = .ok (.istore_n 1, 1) := by decide +kernel
theorem dX3_init_36 : decode cX3_init 36 = .ok (.iload_n 1, 1) := by decide +kernel
theorem dX3_init_37 : decode cX3_init 37 = .ok (.iconst 5, 1) := by decide +kernel
theorem dX3_init_38 : decode cX3_init 38 = .ok (.if_icmp .ge 22, 3) := by decide +kernel
theorem dX3_init_41 : decode cX3_init 41 = .ok (.aload_n 0, 1) := by decide +kernel
theorem dX3_init_42 : decode cX3_init 42 = .ok (.getfield 11, 3) := by decide +kernel
theorem dX3_init_45 : decode cX3_init 45 = .ok (.iload_n 1, 1) := by decide +kernel
theorem dX3_init_46 : decode cX3_init 46 = .ok (.new 9, 3) := by decide +kernel
theorem dX3_init_49 : decode cX3_init 49 = .ok (.dup, 1) := by decide +kernel
theorem dX3_init_50 : decode cX3_init 50 = .ok (.invokespecial 17, 3) := by decide +kernel
theorem dX3_init_53 : decode cX3_init 53 = .ok (.aastore, 1) := by decide +kernel
theorem dX3_init_54 : decode cX3_init 54 = .ok (.iinc 1 1, 3) := by decide +kernel
theorem dX3_init_57 : decode cX3_init 57 = .ok (.goto (-21), 3) := by decide +kernel
theorem dX3_init_60 : decode cX3_init 60 = .ok (.return_, 1) := by decide +kernel
set_option maxRecDepth 20000 in
theorem ggX3_prepare_X8_copyFrom : GoodIn wsX3_prepare wsX8_copyFrom := goodIn_r _ [7, 8, 9, 10, 11, 12, 13, 14, 15, 16, 17, 18, 19, 20, 21, 22, 23, 24, 25, 26, 27, 28, 29, 30, 31, 32, 33, 34, 35, 36, 37, 38, 39, 40, 41, 42, 43, 44, 45, 46, 47, 48, 49, 50, 51, 52, 53, 54, 55, 56, 57, 58, 59, 60, 61, 62, 67, 68, 69, 70, 71, 72, 73, 74, 75, 76, 77, 78, 79, 80, 81, 82, 83, 84, 85, 86, 87, 88, 89, 90, 91, 92, 93, 94, 95, 96] (by decide +kernel) (by decide +kernel)
set_option maxRecDepth 20000 in
theorem gX3_prepare_X8_copyFrom : GoodIn wsX3_prepare (wsV RX3 25 RX8 yX8_copyFrom wsX8_copyFrom) := goodIn_app (goodIn_of _ (by decide +kernel)) ggX3_prepare_X8_copyFrom
theorem dX3_prepare_0 : decode cX3_prepare 0 = .ok (.aload_n 0, 1) := by decide +kernel
theorem dX3_prepare_1 : decode cX3_prepare 1 = .ok (.getfield 22, 3) := by decide +kernel
theorem dX3_prepare_4 : decode cX3_prepare 4 = .ok (.aload_n 0, 1) := by decide +kernel
theorem dX3_prepare_5 : decode cX3_prepare 5 = .ok (.getfield 18, 3) := by decide +kernel
theorem dX3_prepare_8 : decode cX3_prepare 8 = .ok (.invokevirtual 25, 3) := by decide +kernel
theorem dX3_prepare_11 : decode cX3_prepare 11 = .ok (.return_, 1) := by decide +kernel
set_option maxRecDepth 20000 in
theorem ggX3_settle_X9_isError : GoodIn wsX3_settle wsX9_isError := goodIn_r _ [3, 4, 5, 6] (by decide +kernel) (by decide +kernel)
set_option maxRecDepth 20000 in
theorem gX3_settle_X9_isError_n29 : GoodIn wsX3_settle (wsX9_isError) := ggX3_settle_X9_isError
set_option maxRecDepth 20000 in
theorem ggX3_settle_X3_recordSpare : GoodIn wsX3_settle wsX3_recordSpare := goodIn_r _ [11, 12, 13, 14, 15, 16, 17, 10, 18, 19, 2, 20, 21, 22, 23, 24] (by decide +kernel) (by decide +kernel)
set_option maxRecDepth 20000 in
theorem gX3_settle_X3_recordSpare : GoodIn wsX3_settle (wsV RX3 33 RX3 yX3_recordSpare wsX3_recordSpare) := goodIn_app (goodIn_of _ (by decide +kernel)) ggX3_settle_X3_recordSpare
theorem dX3_settle_0 : decode cX3_settle 0 = .ok (.iload_n 1, 1) := by decide +kernel
theorem dX3_settle_1 : decode cX3_settle 1 = .ok (.invokestatic 29, 3) := by decide +kernel
theorem dX3_settle_4 : decode cX3_settle 4 = .ok (.ifCond .ne 7, 3) := by decide +kernel
theorem dX3_settle_7 : decode cX3_settle 7 = .ok (.aload_n 0, 1) := by decide +kernel
theorem dX3_settle_8 : decode cX3_settle 8 = .ok (.invokevirtual 33, 3) := by decide +kernel
theorem dX3_settle_11 : decode cX3_settle 11 = .ok (.iload_n 1, 1) := by decide +kernel
theorem dX3_settle_12 : decode cX3_settle 12 = .ok (.ireturn, 1) := by decide +kernel
set_option maxRecDepth 20000 in
theorem ggX3_recordSpare_X3_dropOldest : GoodIn wsX3_recordSpare wsX3_dropOldest := goodIn_r _ [8, 2, 1, 12, 13, 14, 15] (by decide +kernel) (by decide +kernel)
set_option maxRecDepth 20000 in
theorem gX3_recordSpare_X3_dropOldest : GoodIn wsX3_recordSpare (wsV RX3 40 RX3 yX3_dropOldest wsX3_dropOldest) := goodIn_app (goodIn_of _ (by decide +kernel)) ggX3_recordSpare_X3_dropOldest
set_option maxRecDepth 20000 in
theorem ggX3_recordSpare_X9_within : GoodIn wsX3_recordSpare wsX9_within := goodIn_r _ [11] (by decide +kernel) (by decide +kernel)
set_option maxRecDepth 20000 in
theorem gX3_recordSpare_X9_within_n43 : GoodIn wsX3_recordSpare (wsX9_within) := ggX3_recordSpare_X9_within
theorem dX3_recordSpare_0 : decode cX3_recordSpare 0 = .ok (.aload_n 0, 1) := by decide +kernel
theorem dX3_recordSpare_1 : decode cX3_recordSpare 1 = .ok (.getfield 36, 3) := by decide +kernel
theorem dX3_recordSpare_4 : decode cX3_recordSpare 4 = .ok (.iconst 5, 1) := by decide +kernel
theorem dX3_recordSpare_5 : decode cX3_recordSpare 5 = .ok (.if_icmp .lt 7, 3) := by decide +kernel
theorem dX3_recordSpare_8 : decode cX3_recordSpare 8 = .ok (.aload_n 0, 1) := by decide +kernel
theorem dX3_recordSpare_9 : decode cX3_recordSpare 9 = .ok (.invokevirtual 40, 3) := by decide +kernel
theorem dX3_recordSpare_12 : decode cX3_recordSpare 12 = .ok (.aload_n 0, 1) := by decide +kernel
theorem dX3_recordSpare_13 : decode cX3_recordSpare 13 = .ok (.getfield 36, 3) := by decide +kernel
theorem dX3_recordSpare_16 : decode cX3_recordSpare 16 = .ok (.iconst 0, 1) := by decide +kernel
theorem dX3_recordSpare_17 : decode cX3_recordSpare 17 = .ok (.iconst 4, 1) := by decide +kernel
theorem dX3_recordSpare_18 : decode cX3_recordSpare 18 = .ok (.invokestatic 43, 3) := by decide +kernel
theorem dX3_recordSpare_21 : decode cX3_recordSpare 21 = .ok (.ifCond .eq 41, 3) := by decide +kernel
theorem dX3_recordSpare_24 : decode cX3_recordSpare 24 = .ok (.aload_n 0, 1) := by decide +kernel
theorem dX3_recordSpare_25 : decode cX3_recordSpare 25 = .ok (.getfield 11, 3) := by decide +kernel
theorem dX3_recordSpare_28 : decode cX3_recordSpare 28 = .ok (.aload_n 0, 1) := by decide +kernel
theorem dX3_recordSpare_29 : decode cX3_recordSpare 29 = .ok (.getfield 36, 3) := by decide +kernel
theorem dX3_recordSpare_32 : decode cX3_recordSpare 32 = .ok (.aaload, 1) := by decide +kernel
theorem dX3_recordSpare_33 : decode cX3_recordSpare 33 = .ok (.astore_n 1, 1) := by decide +kernel
theorem dX3_recordSpare_34 : decode cX3_recordSpare 34 = .ok (.aload_n 0, 1) := by decide +kernel
theorem dX3_recordSpare_35 : decode cX3_recordSpare 35 = .ok (.getfield 11, 3) := by decide +kernel
theorem dX3_recordSpare_38 : decode cX3_recordSpare 38 = .ok (.aload_n 0, 1) := by decide +kernel
theorem dX3_recordSpare_39 : decode cX3_recordSpare 39 = .ok (.getfield 36, 3) := by decide +kernel
theorem dX3_recordSpare_42 : decode cX3_recordSpare 42 = .ok (.aload_n 0, 1) := by decide +kernel
theorem dX3_recordSpare_43 : decode cX3_recordSpare 43 = .ok (.getfield 22, 3) := by decide +kernel
theorem dX3_recordSpare_46 : decode cX3_recordSpare 46 = .ok (.aastore, 1) := by decide +kernel
theorem dX3_recordSpare_47 : decode cX3_recordSpare 47 = .ok (.aload_n 0, 1) := by decide +kernel
theorem dX3_recordSpare_48 : decode cX3_recordSpare 48 = .ok (.aload_n 1, 1) := by decide +kernel
theorem dX3_recordSpare_49 : decode cX3_recordSpare 49 = .ok (.putfield 22, 3) := by decide +kernel
theorem dX3_recordSpare_52 : decode cX3_recordSpare 52 = .ok (.aload_n 0, 1) := by decide +kernel
theorem dX3_recordSpare_53 : decode cX3_recordSpare 53 = .ok (.dup, 1) := by decide +kernel
theorem dX3_recordSpare_54 : decode cX3_recordSpare 54 = .ok (.getfield 36, 3) := by decide +kernel
theorem dX3_recordSpare_57 : decode cX3_recordSpare 57 = .ok (.iconst 1, 1) := by decide +kernel
theorem dX3_recordSpare_58 : decode cX3_recordSpare 58 = .ok (.iadd, 1) := by decide +kernel
theorem dX3_recordSpare_59 : decode cX3_recordSpare 59 = .ok (.putfield 36, 3) := by decide +kernel
theorem dX3_recordSpare_62 : decode cX3_recordSpare 62 = .ok (.return_, 1) := by decide +kernel
theorem dX3_dropOldest_0 : decode cX3_dropOldest 0 = .ok (.aload_n 0, 1) := by decide +kernel
theorem dX3_dropOldest_1 : decode cX3_dropOldest 1 = .ok (.getfield 11, 3) := by decide +kernel
theorem dX3_dropOldest_4 : decode cX3_dropOldest 4 = .ok (.iconst 0, 1) := by decide +kernel
theorem dX3_dropOldest_5 : decode cX3_dropOldest 5 = .ok (.aaload, 1) := by decide +kernel
theorem dX3_dropOldest_6 : decode cX3_dropOldest 6 = .ok (.astore_n 1, 1) := by decide +kernel
theorem dX3_dropOldest_7 : decode cX3_dropOldest 7 = .ok (.iconst 0, 1) := by decide +kernel
theorem dX3_dropOldest_8 : decode cX3_dropOldest 8 = .ok (.istore_n 2, 1) := by decide +kernel
theorem dX3_dropOldest_9 : decode cX3_dropOldest 9 = .ok (.iload_n 2, 1) := by decide +kernel
theorem dX3_dropOldest_10 : decode cX3_dropOldest 10 = .ok (.iconst 4, 1) := by decide +kernel
theorem dX3_dropOldest_11 : decode cX3_dropOldest 11 = .ok (.if_icmp .ge 23, 3) := by decide +kernel
theorem dX3_dropOldest_14 : decode cX3_dropOldest 14 = .ok (.aload_n 0, 1) := by decide +kernel
theorem dX3_dropOldest_15 : decode cX3_dropOldest 15 = .ok (.getfield 11, 3) := by decide +kernel
theorem dX3_dropOldest_18 : decode cX3_dropOldest 18 = .ok (.iload_n 2, 1) := by decide +kernel
theorem dX3_dropOldest_19 : decode cX3_dropOldest 19 = .ok (.aload_n 0, 1) := by decide +kernel
theorem dX3_dropOldest_20 : decode cX3_dropOldest 20 = .ok (.getfield 11, 3) := by decide +kernel
theorem dX3_dropOldest_23 : decode cX3_dropOldest 23 = .ok (.iload_n 2, 1) := by decide +kernel
theorem dX3_dropOldest_24 : decode cX3_dropOldest 24 = .ok (.iconst 1, 1) := by decide +kernel
theorem dX3_dropOldest_25 : decode cX3_dropOldest 25 = .ok (.iadd, 1) := by decide +kernel
theorem dX3_dropOldest_26 : decode cX3_dropOldest 26 = .ok (.aaload, 1) := by decide +kernel
theorem dX3_dropOldest_27 : decode cX3_dropOldest 27 = .ok (.aastore, 1) := by decide +kernel
theorem dX3_dropOldest_28 : decode cX3_dropOldest 28 = .ok (.iinc 2 1, 3) := by decide +kernel
theorem dX3_dropOldest_31 : decode cX3_dropOldest 31 = .ok (.goto (-22), 3) := by decide +kernel
theorem dX3_dropOldest_34 : decode cX3_dropOldest 34 = .ok (.aload_n 0, 1) := by decide +kernel
theorem dX3_dropOldest_35 : decode cX3_dropOldest 35 = .ok (.getfield 11, 3) := by decide +kernel
theorem dX3_dropOldest_38 : decode cX3_dropOldest 38 = .ok (.iconst 4, 1) := by decide +kernel
theorem dX3_dropOldest_39 : decode cX3_dropOldest 39 = .ok (.aload_n 1, 1) := by decide +kernel
theorem dX3_dropOldest_40 : decode cX3_dropOldest 40 = .ok (.aastore, 1) := by decide +kernel
theorem dX3_dropOldest_41 : decode cX3_dropOldest 41 = .ok (.aload_n 0, 1) := by decide +kernel
theorem dX3_dropOldest_42 : decode cX3_dropOldest 42 = .ok (.iconst 4, 1) := by decide +kernel
theorem dX3_dropOldest_43 : decode cX3_dropOldest 43 = .ok (.putfield 36, 3) := by decide +kernel
theorem dX3_dropOldest_46 : decode cX3_dropOldest 46 = .ok (.return_, 1) := by decide +kernel
set_option maxRecDepth 20000 in
theorem ggX3_stepBack_X9_within : GoodIn wsX3_stepBack wsX9_within := goodIn_r _ [7] (by decide +kernel) (by decide +kernel)
set_option maxRecDepth 20000 in
theorem gX3_stepBack_X9_within_n43 : GoodIn wsX3_stepBack (wsX9_within) := ggX3_stepBack_X9_within
theorem dX3_stepBack_0 : decode cX3_stepBack 0 = .ok (.aload_n 0, 1) := by decide +kernel
theorem dX3_stepBack_1 : decode cX3_stepBack 1 = .ok (.getfield 36, 3) := by decide +kernel
theorem dX3_stepBack_4 : decode cX3_stepBack 4 = .ok (.iconst 1, 1) := by decide +kernel
theorem dX3_stepBack_5 : decode cX3_stepBack 5 = .ok (.isub, 1) := by decide +kernel
theorem dX3_stepBack_6 : decode cX3_stepBack 6 = .ok (.istore_n 1, 1) := by decide +kernel
theorem dX3_stepBack_7 : decode cX3_stepBack 7 = .ok (.iload_n 1, 1) := by decide +kernel
theorem dX3_stepBack_8 : decode cX3_stepBack 8 = .ok (.iconst 0, 1) := by decide +kernel
theorem dX3_stepBack_9 : decode cX3_stepBack 9 = .ok (.iconst 4, 1) := by decide +kernel
theorem dX3_stepBack_10 : decode cX3_stepBack 10 = .ok (.invokestatic 43, 3) := by decide +kernel
theorem dX3_stepBack_13 : decode cX3_stepBack 13 = .ok (.ifCond .ne 6, 3) := by decide +kernel
theorem dX3_stepBack_16 : decode cX3_stepBack 16 = .ok (.ldc 47, 2) := by decide +kernel
theorem dX3_stepBack_18 : decode cX3_stepBack 18 = .ok (.ireturn, 1) := by decide +kernel
theorem dX3_stepBack_19 : decode cX3_stepBack 19 = .ok (.aload_n 0, 1) := by decide +kernel
theorem dX3_stepBack_20 : decode cX3_stepBack 20 = .ok (.getfield 18, 3) := by decide +kernel
theorem dX3_stepBack_23 : decode cX3_stepBack 23 = .ok (.astore_n 2, 1) := by decide +kernel
theorem dX3_stepBack_24 : decode cX3_stepBack 24 = .ok (.aload_n 0, 1) := by decide +kernel
theorem dX3_stepBack_25 : decode cX3_stepBack 25 = .ok (.aload_n 0, 1) := by decide +kernel
theorem dX3_stepBack_26 : decode cX3_stepBack 26 = .ok (.getfield 11, 3) := by decide +kernel
theorem dX3_stepBack_29 : decode cX3_stepBack 29 = .ok (.iload_n 1, 1) := by decide +kernel
theorem dX3_stepBack_30 : decode cX3_stepBack 30 = .ok (.aaload, 1) := by decide +kernel
theorem dX3_stepBack_31 : decode cX3_stepBack 31 = .ok (.putfield 18, 3) := by decide +kernel
theorem dX3_stepBack_34 : decode cX3_stepBack 34 = .ok (.aload_n 0, 1) := by decide +kernel
theorem dX3_stepBack_35 : decode cX3_stepBack 35 = .ok (.getfield 11, 3) := by decide +kernel
theorem dX3_stepBack_38 : decode cX3_stepBack 38 = .ok (.iload_n 1, 1) := by decide +kernel
theorem dX3_stepBack_39 : decode cX3_stepBack 39 = .ok (.aload_n 2, 1) := by decide +kernel
theorem dX3_stepBack_40 : decode cX3_stepBack 40 = .ok (.aastore, 1) := by decide +kernel
theorem dX3_stepBack_41 : decode cX3_stepBack 41 = .ok (.aload_n 0, 1) := by decide +kernel
theorem dX3_stepBack_42 : decode cX3_stepBack 42 = .ok (.iload_n 1, 1) := by decide +kernel
theorem dX3_stepBack_43 : decode cX3_stepBack 43 = .ok (.putfield 36, 3) := by decide +kernel
theorem dX3_stepBack_46 : decode cX3_stepBack 46 = .ok (.aload_n 0, 1) := by decide +kernel
theorem dX3_stepBack_47 : decode cX3_stepBack 47 = .ok (.getfield 36, 3) := by decide +kernel
theorem dX3_stepBack_50 : decode cX3_stepBack 50 = .ok (.ireturn, 1) := by decide +kernel
theorem dX4_init_0 : decode cX4_init 0 = .ok (.aload_n 0, 1) := by decide +kernel
theorem dX4_init_1 : decode cX4_init 1 = .ok (.invokespecial 1, 3) := by decide +kernel
theorem dX4_init_4 : decode cX4_init 4 = .ok (.aload_n 0, 1) := by decide +kernel
theorem dX4_init_5 : decode cX4_init 5 = .ok (.sipush 1000, 3) := by decide +kernel
theorem dX4_init_8 : decode cX4_init 8 = .ok (.putfield 7, 3) := by decide +kernel
theorem dX4_init_11 : decode cX4_init 11 = .ok (.aload_n 0, 1) := by decide +kernel
theorem dX4_init_12 : decode cX4_init 12 = .ok (.bipush 10, 2) := by decide +kernel
theorem dX4_init_14 : decode cX4_init 14 = .ok (.putfield 13, 3) := by decide +kernel
theorem dX4_init_17 : decode cX4_init 17 = .ok (.return_, 1) := by decide +kernel
theorem dX4_copyFrom_0 : decode cX4_copyFrom 0 = .ok (.aload_n 0, 1) := by decide +kernel
theorem dX4_copyFrom_1 : decode cX4_copyFrom 1 = .ok (.aload_n 1, 1) := by decide +kernel
theorem dX4_copyFrom_2 : decode cX4_copyFrom 2 = .ok (.getfield 7, 3) := by decide +kernel
theorem dX4_copyFrom_5 : decode cX4_copyFrom 5 = .ok (.putfield 7, 3) := by decide +kernel
theorem dX4_copyFrom_8 : decode cX4_copyFrom 8 = .ok (.aload_n 0, 1) := by decide +kernel
theorem dX4_copyFrom_9 : decode cX4_copyFrom 9 = .ok (.aload_n 1, 1) := by decide +kernel
theorem dX4_copyFrom_10 : decode cX4_copyFrom 10 = .ok (.getfield 13, 3) := by decide +kernel
theorem dX4_copyFrom_13 : decode cX4_copyFrom 13 = .ok (.putfield 13, 3) := by decide +kernel
theorem dX4_copyFrom_16 : decode cX4_copyFrom 16 = .ok (.return_, 1) := by decide +kernel
theorem dX4_lightest_0 : decode cX4_lightest 0 = .ok (.aload_n 0, 1) := by decide +kernel
theorem dX4_lightest_1 : decode cX4_lightest 1 = .ok (.getfield 7, 3) := by decide +kernel
theorem dX4_lightest_4 : decode cX4_lightest 4 = .ok (.aload_n 0, 1) := by decide +kernel
theorem dX4_lightest_5 : decode cX4_lightest 5 = .ok (.getfield 13, 3) := by decide +kernel
theorem dX4_lightest_8 : decode cX4_lightest 8 = .ok (.isub, 1) := by decide +kernel
theorem dX4_lightest_9 : decode cX4_lightest 9 = .ok (.ireturn, 1) := by decide +kernel
theorem dX4_heaviest_0 : decode cX4_heaviest 0 = .ok (.aload_n 0, 1) := by decide +kernel
theorem dX4_heaviest_1 : decode cX4_heaviest 1 = .ok (.getfield 7, 3) := by decide +kernel
theorem dX4_heaviest_4 : decode cX4_heaviest 4 = .ok (.aload_n 0, 1) := by decide +kernel
theorem dX4_heaviest_5 : decode cX4_heaviest 5 = .ok (.getfield 13, 3) := by decide +kernel
theorem dX4_heaviest_8 : decode cX4_heaviest 8 = .ok (.iadd, 1) := by decide +kernel
theorem dX4_heaviest_9 : decode cX4_heaviest 9 = .ok (.ireturn, 1) := by decide +kernel
theorem dX5_init_0 : decode cX5_init 0 = .ok (.aload_n 0, 1) := by decide +kernel
theorem dX5_init_1 : decode cX5_init 1 = .ok (.invokespecial 3, 3) := by decide +kernel
theorem dX5_init_4 : decode cX5_init 4 = .ok (.return_, 1) := by decide +kernel
theorem dX5_copyFrom_0 : decode cX5_copyFrom 0 = .ok (.aload_n 0, 1) := by decide +kernel
theorem dX5_copyFrom_1 : decode cX5_copyFrom 1 = .ok (.aload_n 1, 1) := by decide +kernel
theorem dX5_copyFrom_2 : decode cX5_copyFrom 2 = .ok (.getfield 9, 3) := by decide +kernel
theorem dX5_copyFrom_5 : decode cX5_copyFrom 5 = .ok (.putfield 9, 3) := by decide +kernel
theorem dX5_copyFrom_8 : decode cX5_copyFrom 8 = .ok (.aload_n 0, 1) := by decide +kernel
theorem dX5_copyFrom_9 : decode cX5_copyFrom 9 = .ok (.aload_n 1, 1) := by decide +kernel
theorem dX5_copyFrom_10 : decode cX5_copyFrom 10 = .ok (.getfield 15, 3) := by decide +kernel
theorem dX5_copyFrom_13 : decode cX5_copyFrom 13 = .ok (.putfield 15, 3) := by decide +kernel
theorem dX5_copyFrom_16 : decode cX5_copyFrom 16 = .ok (.aload_n 0, 1) := by decide +kernel
theorem dX5_copyFrom_17 : decode cX5_copyFrom 17 = .ok (.aload_n 1, 1) := by decide +kernel
theorem dX5_copyFrom_18 : decode cX5_copyFrom 18 = .ok (.getfield 18, 3) := by decide +kernel
theorem dX5_copyFrom_21 : decode cX5_copyFrom 21 = .ok (.putfield 18, 3) := by decide +kernel
theorem dX5_copyFrom_24 : decode cX5_copyFrom 24 = .ok (.aload_n 0, 1) := by decide +kernel
theorem dX5_copyFrom_25 : decode cX5_copyFrom 25 = .ok (.aload_n 1, 1) := by decide +kernel
theorem dX5_copyFrom_26 : decode cX5_copyFrom 26 = .ok (.getfield 21, 3) := by decide +kernel
theorem dX5_copyFrom_29 : decode cX5_copyFrom 29 = .ok (.putfield 21, 3) := by decide +kernel
theorem dX5_copyFrom_32 : decode cX5_copyFrom 32 = .ok (.aload_n 0, 1) := by decide +kernel
theorem dX5_copyFrom_33 : decode cX5_copyFrom 33 = .ok (.aload_n 1, 1) := by decide +kernel
theorem dX5_copyFrom_34 : decode cX5_copyFrom 34 = .ok (.getfield 24, 3) := by decide +kernel
theorem dX5_copyFrom_37 : decode cX5_copyFrom 37 = .ok (.putfield 24, 3) := by decide +kernel
theorem dX5_copyFrom_40 : decode cX5_copyFrom 40 = .ok (.aload_n 0, 1) := by decide +kernel
theorem dX5_copyFrom_41 : decode cX5_copyFrom 41 = .ok (.aload_n 1, 1) := by decide +kernel
theorem dX5_copyFrom_42 : decode cX5_copyFrom 42 = .ok (.getfield 27, 3) := by decide +kernel
theorem dX5_copyFrom_45 : decode cX5_copyFrom 45 = .ok (.putfield 27, 3) := by decide +kernel
theorem dX5_copyFrom_48 : decode cX5_copyFrom 48 = .ok (.aload_n 0, 1) := by decide +kernel
theorem dX5_copyFrom_49 : decode cX5_copyFrom 49 = .ok (.aload_n 1, 1) := by decide +kernel
theorem dX5_copyFrom_50 : decode cX5_copyFrom 50 = .ok (.getfield 30, 3) := by decide +kernel
theorem dX5_copyFrom_53 : decode cX5_copyFrom 53 = .ok (.putfield 30, 3) := by decide +kernel
theorem dX5_copyFrom_56 : decode cX5_copyFrom 56 = .ok (.return_, 1) := by decide +kernel
theorem dX5_begin_0 : decode cX5_begin 0 = .ok (.aload_n 0, 1) := by decide +kernel
theorem dX5_begin_1 : decode cX5_begin 1 = .ok (.iload_n 1, 1) := by decide +kernel
theorem dX5_begin_2 : decode cX5_begin 2 = .ok (.putfield 9, 3) := by decide +kernel
theorem dX5_begin_5 : decode cX5_begin 5 = .ok (.aload_n 0, 1) := by decide +kernel
theorem dX5_begin_6 : decode cX5_begin 6 = .ok (.iload_n 2, 1) := by decide +kernel
theorem dX5_begin_7 : decode cX5_begin 7 = .ok (.putfield 15, 3) := by decide +kernel
theorem dX5_begin_10 : decode cX5_begin 10 = .ok (.aload_n 0, 1) := by decide +kernel
theorem dX5_begin_11 : decode cX5_begin 11 = .ok (.iload_n 3, 1) := by decide +kernel
theorem dX5_begin_12 : decode cX5_begin 12 = .ok (.putfield 18, 3) := by decide +kernel
theorem dX5_begin_15 : decode cX5_begin 15 = .ok (.aload_n 0, 1) := by decide +kernel
theorem dX5_begin_16 : decode cX5_begin 16 = .ok (.iload 4, 2) := by decide +kernel
theorem dX5_begin_18 : decode cX5_begin 18 = .ok (.putfield 21, 3) := by decide +kernel
theorem dX5_begin_21 : decode cX5_begin 21 = .ok (.aload_n 0, 1) := by decide +kernel
theorem dX5_begin_22 : decode cX5_begin 22 = .ok (.iload 5, 2) := by decide +kernel
theorem dX5_begin_24 : decode cX5_begin 24 = .ok (.putfield 24, 3) := by decide +kernel
theorem dX5_begin_27 : decode cX5_begin 27 = .ok (.aload_n 0, 1) := by decide +kernel
theorem dX5_begin_28 : decode cX5_begin 28 = .ok (.iconst 0, 1) := by decide +kernel
theorem dX5_begin_29 : decode cX5_begin 29 = .ok (.putfield 27, 3) := by decide +kernel
theorem dX5_begin_32 : decode cX5_begin 32 = .ok (.aload_n 0, 1) := by decide +kernel
theorem dX5_begin_33 : decode cX5_begin 33 = .ok (.iconst 0, 1) := by decide +kernel
theorem dX5_begin_34 : decode cX5_begin 34 = .ok (.putfield 30, 3) := by decide +kernel
theorem dX5_begin_37 : decode cX5_begin 37 = .ok (.return_, 1) := by decide +kernel
set_option maxRecDepth 20000 in
theorem ggX5_sell_X9_quotient : GoodIn wsX5_sell wsX9_quotient := goodIn_r _ [13, 14, 15, 16, 17] (by decide +kernel) (by decide +kernel)
set_option maxRecDepth 20000 in
theorem gX5_sell_X9_quotient_n33 : GoodIn wsX5_sell (wsX9_quotient) := ggX5_sell_X9_quotient
theorem dX5_sell_0 : decode cX5_sell 0 = .ok (.aload_n 0, 1) := by decide +kernel
theorem dX5_sell_1 : decode cX5_sell 1 = .ok (.dup, 1) := by decide +kernel
theorem dX5_sell_2 : decode cX5_sell 2 = .ok (.getfield 18, 3) := by decide +kernel
theorem dX5_sell_5 : decode cX5_sell 5 = .ok (.iload_n 1, 1) := by decide +kernel
theorem dX5_sell_6 : decode cX5_sell 6 = .ok (.isub, 1) := by decide +kernel
theorem dX5_sell_7 : decode cX5_sell 7 = .ok (.putfield 18, 3) := by decide +kernel
theorem dX5_sell_10 : decode cX5_sell 10 = .ok (.aload_n 0, 1) := by decide +kernel
theorem dX5_sell_11 : decode cX5_sell 11 = .ok (.dup, 1) := by decide +kernel
theorem dX5_sell_12 : decode cX5_sell 12 = .ok (.getfield 27, 3) := by decide +kernel
theorem dX5_sell_15 : decode cX5_sell 15 = .ok (.iload_n 1, 1) := by decide +kernel
theorem dX5_sell_16 : decode cX5_sell 16 = .ok (.aload_n 0, 1) := by decide +kernel
theorem dX5_sell_17 : decode cX5_sell 17 = .ok (.getfield 15, 3) := by decide +kernel
theorem dX5_sell_20 : decode cX5_sell 20 = .ok (.imul, 1) := by decide +kernel
theorem dX5_sell_21 : decode cX5_sell 21 = .ok (.iadd, 1) := by decide +kernel
theorem dX5_sell_22 : decode cX5_sell 22 = .ok (.putfield 27, 3) := by decide +kernel
theorem dX5_sell_25 : decode cX5_sell 25 = .ok (.aload_n 0, 1) := by decide +kernel
theorem dX5_sell_26 : decode cX5_sell 26 = .ok (.getfield 27, 3) := by decide +kernel
theorem dX5_sell_29 : decode cX5_sell 29 = .ok (.aload_n 0, 1) := by decide +kernel
theorem dX5_sell_30 : decode cX5_sell 30 = .ok (.getfield 21, 3) := by decide +kernel
theorem dX5_sell_33 : decode cX5_sell 33 = .ok (.invokestatic 33, 3) := by decide +kernel
theorem dX5_sell_36 : decode cX5_sell 36 = .ok (.istore_n 2, 1) := by decide +kernel
theorem dX5_sell_37 : decode cX5_sell 37 = .ok (.aload_n 0, 1) := by decide +kernel
theorem dX5_sell_38 : decode cX5_sell 38 = .ok (.dup, 1) := by decide +kernel
theorem dX5_sell_39 : decode cX5_sell 39 = .ok (.getfield 27, 3) := by decide +kernel
theorem dX5_sell_42 : decode cX5_sell 42 = .ok (.iload_n 2, 1) := by decide +kernel
theorem dX5_sell_43 : decode cX5_sell 43 = .ok (.aload_n 0, 1) := by decide +kernel
theorem dX5_sell_44 : decode cX5_sell 44 = .ok (.getfield 21, 3) := by decide +kernel
theorem dX5_sell_47 : decode cX5_sell 47 = .ok (.imul, 1) := by decide +kernel
theorem dX5_sell_48 : decode cX5_sell 48 = .ok (.isub, 1) := by decide +kernel
theorem dX5_sell_49 : decode cX5_sell 49 = .ok (.putfield 27, 3) := by decide +kernel
theorem dX5_sell_52 : decode cX5_sell 52 = .ok (.aload_n 0, 1) := by decide +kernel
theorem dX5_sell_53 : decode cX5_sell 53 = .ok (.dup, 1) := by decide +kernel
theorem dX5_sell_54 : decode cX5_sell 54 = .ok (.getfield 30, 3) := by decide +kernel
theorem dX5_sell_57 : decode cX5_sell 57 = .ok (.iload_n 2, 1) := by decide +kernel
theorem dX5_sell_58 : decode cX5_sell 58 = .ok (.iadd, 1) := by decide +kernel
theorem dX5_sell_59 : decode cX5_sell 59 = .ok (.putfield 30, 3) := by decide +kernel
theorem dX5_sell_62 : decode cX5_sell 62 = .ok (.aload_n 0, 1) := by decide +kernel
theorem dX5_sell_63 : decode cX5_sell 63 = .ok (.bipush 99, 2) := by decide +kernel
theorem dX5_sell_65 : decode cX5_sell 65 = .ok (.aload_n 0, 1) := by decide +kernel
theorem dX5_sell_66 : decode cX5_sell 66 = .ok (.getfield 18, 3) := by decide +kernel
theorem dX5_sell_69 : decode cX5_sell 69 = .ok (.iload_n 2, 1) := by decide +kernel
theorem dX5_sell_70 : decode cX5_sell 70 = .ok (.aload_n 0, 1) := by decide +kernel
theorem dX5_sell_71 : decode cX5_sell 71 = .ok (.getfield 24, 3) := by decide +kernel
theorem dX5_sell_74 : decode cX5_sell 74 = .ok (.aload_n 0, 1) := by decide +kernel
theorem dX5_sell_75 : decode cX5_sell 75 = .ok (.getfield 15, 3) := by decide +kernel
theorem dX5_sell_78 : decode cX5_sell 78 = .ok (.invokestatic 33, 3) := by decide +kernel
theorem dX5_sell_81 : decode cX5_sell 81 = .ok (.imul, 1) := by decide +kernel
theorem dX5_sell_82 : decode cX5_sell 82 = .ok (.iadd, 1) := by decide +kernel
theorem dX5_sell_83 : decode cX5_sell 83 = .ok (.invokestatic 37, 3) := by decide +kernel
theorem dX5_sell_86 : decode cX5_sell 86 = .ok (.putfield 18, 3) := by decide +kernel
theorem dX5_sell_89 : decode cX5_sell 89 = .ok (.return_, 1) := by decide +kernel
set_option maxRecDepth 20000 in
theorem ggX5_sellOut_X5_sell : GoodIn wsX5_sellOut wsX5_sell := goodIn_r _ [7, 1, 8, 9, 10, 11, 12, 13, 14, 15, 16, 17, 18, 19, 20, 21, 22, 23, 24, 25, 26, 27, 28, 29, 30] (by decide +kernel) (by decide +kernel)
set_option maxRecDepth 20000 in
theorem gX5_sellOut_X5_sell : GoodIn wsX5_sellOut (wsV RX5 42 RX5 yX5_sell wsX5_sell) := goodIn_app (goodIn_of _ (by decide +kernel)) ggX5_sellOut_X5_sell
theorem dX5_sellOut_0 : decode cX5_sellOut 0 = .ok (.iconst 0, 1) := by decide +kernel
theorem dX5_sellOut_1 : decode cX5_sellOut 1 = .ok (.istore_n 1, 1) := by decide +kernel
theorem dX5_sellOut_2 : decode cX5_sellOut 2 = .ok (.iload_n 1, 1) := by decide +kernel
theorem dX5_sellOut_3 : decode cX5_sellOut 3 = .ok (.sipush 999, 3) := by decide +kernel
theorem dX5_sellOut_6 : decode cX5_sellOut 6 = .ok (.if_icmp .gt 23, 3) := by decide +kernel
theorem dX5_sellOut_9 : decode cX5_sellOut 9 = .ok (.aload_n 0, 1) := by decide +kernel
theorem dX5_sellOut_10 : decode cX5_sellOut 10 = .ok (.getfield 18, 3) := by decide +kernel
theorem dX5_sellOut_13 : decode cX5_sellOut 13 = .ok (.ifCond .ne 5, 3) := by decide +kernel
theorem dX5_sellOut_16 : decode cX5_sellOut 16 = .ok (.iload_n 1, 1) := by decide +kernel
theorem dX5_sellOut_17 : decode cX5_sellOut 17 = .ok (.ireturn, 1) := by decide +kernel
theorem dX5_sellOut_18 : decode cX5_sellOut 18 = .ok (.aload_n 0, 1) := by decide +kernel
theorem dX5_sellOut_19 : decode cX5_sellOut 19 = .ok (.iconst 1, 1) := by decide +kernel
theorem dX5_sellOut_20 : decode cX5_sellOut 20 = .ok (.invokevirtual 42, 3) := by decide +kernel
theorem dX5_sellOut_23 : decode cX5_sellOut 23 = .ok (.iinc 1 1, 3) := by decide +kernel
theorem dX5_sellOut_26 : decode cX5_sellOut 26 = .ok (.goto (-24), 3) := by decide +kernel
theorem dX5_sellOut_29 : decode cX5_sellOut 29 = .ok (.ldc 46, 2) := by decide +kernel
theorem dX5_sellOut_31 : decode cX5_sellOut 31 = .ok (.ireturn, 1) := by decide +kernel
theorem dX5_part_0 : decode cX5_part 0 = .ok (.iload_n 1, 1) := by decide +kernel
theorem dX5_part_1 : decode cX5_part 1 = .ok (.tableswitch 78 0 6 #[43, 48, 53, 58, 63, 68, 73], 43) := by decide +kernel
theorem dX5_part_44 : decode cX5_part 44 = .ok (.aload_n 0, 1) := by decide +kernel
theorem dX5_part_45 : decode cX5_part 45 = .ok (.getfield 9, 3) := by decide +kernel
theorem dX5_part_48 : decode cX5_part 48 = .ok (.ireturn, 1) := by decide +kernel
theorem dX5_part_49 : decode cX5_part 49 = .ok (.aload_n 0, 1) := by decide +kernel
theorem dX5_part_50 : decode cX5_part 50 = .ok (.getfield 15, 3) := by decide +kernel
theorem dX5_part_53 : decode cX5_part 53 = .ok (.ireturn, 1) := by decide +kernel
theorem dX5_part_54 : decode cX5_part 54 = .ok (.aload_n 0, 1) := by decide +kernel
theorem dX5_part_55 : decode cX5_part 55 = .ok (.getfield 18, 3) := by decide +kernel
theorem dX5_part_58 : decode cX5_part 58 = .ok (.ireturn, 1) := by decide +kernel
theorem dX5_part_59 : decode cX5_part 59 = .ok (.aload_n 0, 1) := by decide +kernel
theorem dX5_part_60 : decode cX5_part 60 = .ok (.getfield 21, 3) := by decide +kernel
theorem dX5_part_63 : decode cX5_part 63 = .ok (.ireturn, 1) := by decide +kernel
theorem dX5_part_64 : decode cX5_part 64 = .ok (.aload_n 0, 1) := by decide +kernel
theorem dX5_part_65 : decode cX5_part 65 = .ok (.getfield 24, 3) := by decide +kernel
theorem dX5_part_68 : decode cX5_part 68 = .ok (.ireturn, 1) := by decide +kernel
theorem dX5_part_69 : decode cX5_part 69 = .ok (.aload_n 0, 1) := by decide +kernel
theorem dX5_part_70 : decode cX5_part 70 = .ok (.getfield 27, 3) := by decide +kernel
theorem dX5_part_73 : decode cX5_part 73 = .ok (.ireturn, 1) := by decide +kernel
theorem dX5_part_74 : decode cX5_part 74 = .ok (.aload_n 0, 1) := by decide +kernel
theorem dX5_part_75 : decode cX5_part 75 = .ok (.getfield 30, 3) := by decide +kernel
theorem dX5_part_78 : decode cX5_part 78 = .ok (.ireturn, 1) := by decide +kernel
theorem dX5_part_79 : decode cX5_part 79 = .ok (.ldc 47, 2) := by decide +kernel
theorem dX5_part_81 : decode cX5_part 81 = .ok (.ireturn, 1) := by decide +kernel
set_option maxRecDepth 20000 in
theorem ggX6_init_X2_init : GoodIn wsX6_init wsX2_init := goodIn_r _ [13, 14, 2, 3] (by decide +kernel) (by decide +kernel)
set_option maxRecDepth 20000 in
theorem gX6_init_X2_init_n21 : GoodIn wsX6_init (wsX2_init) := ggX6_init_X2_init
theorem dX6_init_0 : decode cX6_init 0 = .ok (.aload_n 0, 1) := by decide +kernel
theorem dX6_init_1 : decode cX6_init 1 = .ok (.invokespecial 3, 3) := by decide +kernel
theorem dX6_init_4 : decode cX6_init 4 = .ok (.aload_n 0, 1) := by decide +kernel
theorem dX6_init_5 : decode cX6_init 5 = .ok (.sipush 140, 3) := by decide +kernel
theorem dX6_init_8 : decode cX6_init 8 = .ok (.newarray .char, 2) := by decide +kernel
theorem dX6_init_10 : decode cX6_init 10 = .ok (.putfield 9, 3) := by decide +kernel
theorem dX6_init_13 : decode cX6_init 13 = .ok (.aload_n 0, 1) := by decide +kernel
theorem dX6_init_14 : decode cX6_init 14 = .ok (.iconst 5, 1) := by decide +kernel
theorem dX6_init_15 : decode cX6_init 15 = .ok (.newarray .int, 2) := by decide +kernel
theorem dX6_init_17 : decode cX6_init 17 = .ok (.putfield 15, 3) := by decide +kernel
theorem dX6_init_20 : decode cX6_init 20 = .ok (.aload_n 0, 1) := by decide +kernel
theorem dX6_init_21 : decode cX6_init 21 = .ok (.new 19, 3) := by decide +kernel
theorem dX6_init_24 : decode cX6_init 24 = .ok (.dup, 1) := by decide +kernel
theorem dX6_init_25 : decode cX6_init 25 = .ok (.invokespecial 21, 3) := by decide +kernel
theorem dX6_init_28 : decode cX6_init 28 = .ok (.putfield 22, 3) := by decide +kernel
theorem dX6_init_31 : decode cX6_init 31 = .ok (.return_, 1) := by decide +kernel
theorem dX7_init_0 : decode cX7_init 0 = .ok (.aload_n 0, 1) := by decide +kernel
theorem dX7_init_1 : decode cX7_init 1 = .ok (.invokespecial 3, 3) := by decide +kernel
theorem dX7_init_4 : decode cX7_init 4 = .ok (.aload_n 0, 1) := by decide +kernel
theorem dX7_init_5 : decode cX7_init 5 = .ok (.bipush 100, 2) := by decide +kernel
theorem dX7_init_7 : decode cX7_init 7 = .ok (.putfield 9, 3) := by decide +kernel
theorem dX7_init_10 : decode cX7_init 10 = .ok (.aload_n 0, 1) := by decide +kernel
theorem dX7_init_11 : decode cX7_init 11 = .ok (.bipush 50, 2) := by decide +kernel
theorem dX7_init_13 : decode cX7_init 13 = .ok (.putfield 15, 3) := by decide +kernel
theorem dX7_init_16 : decode cX7_init 16 = .ok (.return_, 1) := by decide +kernel
theorem dX7_copyFrom_0 : decode cX7_copyFrom 0 = .ok (.aload_n 0, 1) := by decide +kernel
theorem dX7_copyFrom_1 : decode cX7_copyFrom 1 = .ok (.aload_n 1, 1) := by decide +kernel
theorem dX7_copyFrom_2 : decode cX7_copyFrom 2 = .ok (.getfield 9, 3) := by decide +kernel
theorem dX7_copyFrom_5 : decode cX7_copyFrom 5 = .ok (.putfield 9, 3) := by decide +kernel
theorem dX7_copyFrom_8 : decode cX7_copyFrom 8 = .ok (.aload_n 0, 1) := by decide +kernel
theorem dX7_copyFrom_9 : decode cX7_copyFrom 9 = .ok (.aload_n 1, 1) := by decide +kernel
theorem dX7_copyFrom_10 : decode cX7_copyFrom 10 = .ok (.getfield 15, 3) := by decide +kernel
theorem dX7_copyFrom_13 : decode cX7_copyFrom 13 = .ok (.putfield 15, 3) := by decide +kernel
theorem dX7_copyFrom_16 : decode cX7_copyFrom 16 = .ok (.aload_n 0, 1) := by decide +kernel
theorem dX7_copyFrom_17 : decode cX7_copyFrom 17 = .ok (.aload_n 1, 1) := by decide +kernel
theorem dX7_copyFrom_18 : decode cX7_copyFrom 18 = .ok (.getfield 18, 3) := by decide +kernel
theorem dX7_copyFrom_21 : decode cX7_copyFrom 21 = .ok (.putfield 18, 3) := by decide +kernel
theorem dX7_copyFrom_24 : decode cX7_copyFrom 24 = .ok (.return_, 1) := by decide +kernel
theorem dX7_shows_0 : decode cX7_shows 0 = .ok (.aload_n 0, 1) := by decide +kernel
theorem dX7_shows_1 : decode cX7_shows 1 = .ok (.getfield 9, 3) := by decide +kernel
theorem dX7_shows_4 : decode cX7_shows 4 = .ok (.iconst 1, 1) := by decide +kernel
theorem dX7_shows_5 : decode cX7_shows 5 = .ok (.if_icmp .lt 16, 3) := by decide +kernel
theorem dX7_shows_8 : decode cX7_shows 8 = .ok (.iload_n 1, 1) := by decide +kernel
theorem dX7_shows_9 : decode cX7_shows 9 = .ok (.aload_n 0, 1) := by decide +kernel
theorem dX7_shows_10 : decode cX7_shows 10 = .ok (.getfield 9, 3) := by decide +kernel
theorem dX7_shows_13 : decode cX7_shows 13 = .ok (.irem, 1) := by decide +kernel
theorem dX7_shows_14 : decode cX7_shows 14 = .ok (.ifCond .ne 7, 3) := by decide +kernel
theorem dX7_shows_17 : decode cX7_shows 17 = .ok (.iconst 1, 1) := by decide +kernel
theorem dX7_shows_18 : decode cX7_shows 18 = .ok (.goto 4, 3) := by decide +kernel
theorem dX7_shows_21 : decode cX7_shows 21 = .ok (.iconst 0, 1) := by decide +kernel
theorem dX7_shows_22 : decode cX7_shows 22 = .ok (.ireturn, 1) := by decide +kernel
theorem dX7_loadFrom_0 : decode cX7_loadFrom 0 = .ok (.iload_n 1, 1) := by decide +kernel
theorem dX7_loadFrom_1 : decode cX7_loadFrom 1 = .ok (.aload_n 0, 1) := by decide +kernel
theorem dX7_loadFrom_2 : decode cX7_loadFrom 2 = .ok (.getfield 9, 3) := by decide +kernel
theorem dX7_loadFrom_5 : decode cX7_loadFrom 5 = .ok (.iconst 2, 1) := by decide +kernel
theorem dX7_loadFrom_6 : decode cX7_loadFrom 6 = .ok (.idiv, 1) := by decide +kernel
theorem dX7_loadFrom_7 : decode cX7_loadFrom 7 = .ok (.isub, 1) := by decide +kernel
theorem dX7_loadFrom_8 : decode cX7_loadFrom 8 = .ok (.ireturn, 1) := by decide +kernel
theorem dX7_loadTo_0 : decode cX7_loadTo 0 = .ok (.iload_n 1, 1) := by decide +kernel
theorem dX7_loadTo_1 : decode cX7_loadTo 1 = .ok (.aload_n 0, 1) := by decide +kernel
theorem dX7_loadTo_2 : decode cX7_loadTo 2 = .ok (.getfield 9, 3) := by decide +kernel
theorem dX7_loadTo_5 : decode cX7_loadTo 5 = .ok (.iconst 1, 1) := by decide +kernel
theorem dX7_loadTo_6 : decode cX7_loadTo 6 = .ok (.isub, 1) := by decide +kernel
theorem dX7_loadTo_7 : decode cX7_loadTo 7 = .ok (.iconst 2, 1) := by decide +kernel
theorem dX7_loadTo_8 : decode cX7_loadTo 8 = .ok (.idiv, 1) := by decide +kernel
theorem dX7_loadTo_9 : decode cX7_loadTo 9 = .ok (.iadd, 1) := by decide +kernel
theorem dX7_loadTo_10 : decode cX7_loadTo 10 = .ok (.ireturn, 1) := by decide +kernel
set_option maxRecDepth 20000 in
theorem ggX7_leastCount_X4_heaviest : GoodIn wsX7_leastCount wsX4_heaviest := goodIn_r _ [10, 11, 12, 29, 30] (by decide +kernel) (by decide +kernel)
set_option maxRecDepth 20000 in
theorem gX7_leastCount_X4_heaviest : GoodIn wsX7_leastCount (wsV RX7 21 RX4 yX4_heaviest wsX4_heaviest) := goodIn_app (goodIn_of _ (by decide +kernel)) ggX7_leastCount_X4_heaviest
set_option maxRecDepth 20000 in
theorem ggX7_leastCount_X7_loadFrom : GoodIn wsX7_leastCount wsX7_loadFrom := goodIn_r _ [17, 18, 26, 27, 28] (by decide +kernel) (by decide +kernel)
set_option maxRecDepth 20000 in
theorem gX7_leastCount_X7_loadFrom : GoodIn wsX7_leastCount (wsV RX7 27 RX7 yX7_loadFrom wsX7_loadFrom) := goodIn_app (goodIn_of _ (by decide +kernel)) ggX7_leastCount_X7_loadFrom
set_option maxRecDepth 20000 in
theorem ggX7_leastCount_X9_quotient : GoodIn wsX7_leastCount wsX9_quotient := goodIn_r _ [21, 22, 23, 24, 25] (by decide +kernel) (by decide +kernel)
set_option maxRecDepth 20000 in
theorem gX7_leastCount_X9_quotient_n31 : GoodIn wsX7_leastCount (wsX9_quotient) := ggX7_leastCount_X9_quotient
theorem dX7_leastCount_0 : decode cX7_leastCount 0 = .ok (.aload_n 2, 1) := by decide +kernel
theorem dX7_leastCount_1 : decode cX7_leastCount 1 = .ok (.invokevirtual 21, 3) := by decide +kernel
theorem dX7_leastCount_4 : decode cX7_leastCount 4 = .ok (.istore_n 3, 1) := by decide +kernel
theorem dX7_leastCount_5 : decode cX7_leastCount 5 = .ok (.aload_n 0, 1) := by decide +kernel
theorem dX7_leastCount_6 : decode cX7_leastCount 6 = .ok (.iload_n 1, 1) := by decide +kernel
theorem dX7_leastCount_7 : decode cX7_leastCount 7 = .ok (.invokevirtual 27, 3) := by decide +kernel
theorem dX7_leastCount_10 : decode cX7_leastCount 10 = .ok (.aload_n 0, 1) := by decide +kernel
theorem dX7_leastCount_11 : decode cX7_leastCount 11 = .ok (.getfield 15, 3) := by decide +kernel
theorem dX7_leastCount_14 : decode cX7_leastCount 14 = .ok (.isub, 1) := by decide +kernel
theorem dX7_leastCount_15 : decode cX7_leastCount 15 = .ok (.istore 4, 2) := by decide +kernel
theorem dX7_leastCount_17 : decode cX7_leastCount 17 = .ok (.iconst 0, 1) := by decide +kernel
theorem dX7_leastCount_18 : decode cX7_leastCount 18 = .ok (.iload 4, 2) := by decide +kernel
theorem dX7_leastCount_20 : decode cX7_leastCount 20 = .ok (.iload_n 3, 1) := by decide +kernel
theorem dX7_leastCount_21 : decode cX7_leastCount 21 = .ok (.iadd, 1) := by decide +kernel
theorem dX7_leastCount_22 : decode cX7_leastCount 22 = .ok (.iconst 1, 1) := by decide +kernel
theorem dX7_leastCount_23 : decode cX7_leastCount 23 = .ok (.isub, 1) := by decide +kernel
theorem dX7_leastCount_24 : decode cX7_leastCount 24 = .ok (.iload_n 3, 1) := by decide +kernel
theorem dX7_leastCount_25 : decode cX7_leastCount 25 = .ok (.invokestatic 31, 3) := by decide +kernel
theorem dX7_leastCount_28 : decode cX7_leastCount 28 = .ok (.invokestatic 35, 3) := by decide +kernel
theorem dX7_leastCount_31 : decode cX7_leastCount 31 = .ok (.ireturn, 1) := by decide +kernel
set_option maxRecDepth 20000 in
theorem ggX7_greatestCount_X7_shows : GoodIn wsX7_greatestCount wsX7_shows := goodIn_r _ [6, 7, 26, 27, 28] (by decide +kernel) (by decide +kernel)
set_option maxRecDepth 20000 in
theorem gX7_greatestCount_X7_shows : GoodIn wsX7_greatestCount (wsV RX7 40 RX7 yX7_shows wsX7_shows) := goodIn_app (goodIn_of _ (by decide +kernel)) ggX7_greatestCount_X7_shows
set_option maxRecDepth 20000 in
theorem ggX7_greatestCount_X7_loadTo : GoodIn wsX7_greatestCount wsX7_loadTo := goodIn_r _ [11, 7, 26, 27, 28] (by decide +kernel) (by decide +kernel)
set_option maxRecDepth 20000 in
theorem gX7_greatestCount_X7_loadTo : GoodIn wsX7_greatestCount (wsV RX7 44 RX7 yX7_loadTo wsX7_loadTo) := goodIn_app (goodIn_of _ (by decide +kernel)) ggX7_greatestCount_X7_loadTo
set_option maxRecDepth 20000 in
theorem ggX7_greatestCount_X4_lightest : GoodIn wsX7_greatestCount wsX4_lightest := goodIn_r _ [16, 17, 18, 29, 30] (by decide +kernel) (by decide +kernel)
set_option maxRecDepth 20000 in
theorem gX7_greatestCount_X4_lightest : GoodIn wsX7_greatestCount (wsV RX7 47 RX4 yX4_lightest wsX4_lightest) := goodIn_app (goodIn_of _ (by decide +kernel)) ggX7_greatestCount_X4_lightest
set_option maxRecDepth 20000 in
theorem ggX7_greatestCount_X9_quotient : GoodIn wsX7_greatestCount wsX9_quotient := goodIn_r _ [21, 22, 23, 24, 25] (by decide +kernel) (by decide +kernel)
set_option maxRecDepth 20000 in
theorem gX7_greatestCount_X9_quotient_n31 : GoodIn wsX7_greatestCount (wsX9_quotient) := ggX7_greatestCount_X9_quotient
theorem dX7_greatestCount_0 : decode cX7_greatestCount 0 = .ok (.aload_n 0, 1) := by decide +kernel
theorem dX7_greatestCount_1 : decode cX7_greatestCount 1 = .ok (.iload_n 1, 1) := by decide +kernel
theorem dX7_greatestCount_2 : decode cX7_greatestCount 2 = .ok (.invokevirtual 40, 3) := by decide +kernel
theorem dX7_greatestCount_5 : decode cX7_greatestCount 5 = .ok (.ifCond .ne 5, 3) := by decide +kernel
theorem dX7_greatestCount_8 : decode cX7_greatestCount 8 = .ok (.iconst (-1), 1) := by decide +kernel
theorem dX7_greatestCount_9 : decode cX7_greatestCount 9 = .ok (.ireturn, 1) := by decide +kernel
theorem dX7_greatestCount_10 : decode cX7_greatestCount 10 = .ok (.aload_n 0, 1) := by decide +kernel
theorem dX7_greatestCount_11 : decode cX7_greatestCount 11 = .ok (.iload_n 1, 1) := by decide +kernel
theorem dX7_greatestCount_12 : decode cX7_greatestCount 12 = .ok (.invokevirtual 44, 3) := by decide +kernel
theorem dX7_greatestCount_15 : decode cX7_greatestCount 15 = .ok (.aload_n 0, 1) := by decide +kernel
theorem dX7_greatestCount_16 : decode cX7_greatestCount 16 = .ok (.getfield 15, 3) := by decide +kernel
theorem dX7_greatestCount_19 : decode cX7_greatestCount 19 = .ok (.iadd, 1) := by decide +kernel
theorem dX7_greatestCount_20 : decode cX7_greatestCount 20 = .ok (.aload_n 2, 1) := by decide +kernel
theorem dX7_greatestCount_21 : decode cX7_greatestCount 21 = .ok (.invokevirtual 47, 3) := by decide +kernel
theorem dX7_greatestCount_24 : decode cX7_greatestCount 24 = .ok (.invokestatic 31, 3) := by decide +kernel
theorem dX7_greatestCount_27 : decode cX7_greatestCount 27 = .ok (.ireturn, 1) := by decide +kernel
set_option maxRecDepth 20000 in
theorem ggX7_guessFrom_X7_leastCount : GoodIn wsX7_guessFrom wsX7_leastCount := goodIn_r _ [14, 15, 7, 8, 5, 9, 16, 17, 18, 19, 20, 21, 22, 23, 24, 25, 13, 26, 27, 28, 29, 30, 31, 32, 33, 34, 57, 58, 59, 55, 56] (by decide +kernel) (by decide +kernel)
set_option maxRecDepth 20000 in
theorem gX7_guessFrom_X7_leastCount : GoodIn wsX7_guessFrom (wsV RX7 50 RX7 yX7_leastCount wsX7_leastCount) := goodIn_app (goodIn_of _ (by decide +kernel)) ggX7_guessFrom_X7_leastCount
set_option maxRecDepth 20000 in
theorem ggX7_guessFrom_X7_greatestCount : GoodIn wsX7_guessFrom wsX7_greatestCount := goodIn_r _ [38, 15, 39, 40, 41, 13, 42, 27, 43, 44, 45, 46, 47, 48, 49, 19, 50, 21, 22, 28, 29, 30, 31, 32, 33, 34, 57, 58, 59, 55, 56] (by decide +kernel) (by decide +kernel)
set_option maxRecDepth 20000 in
theorem gX7_guessFrom_X7_greatestCount : GoodIn wsX7_guessFrom (wsV RX7 54 RX7 yX7_greatestCount wsX7_greatestCount) := goodIn_app (goodIn_of _ (by decide +kernel)) ggX7_guessFrom_X7_greatestCount
set_option maxRecDepth 20000 in
theorem ggX7_guessFrom_X7_nearestCount : GoodIn wsX7_guessFrom wsX7_nearestCount := goodIn_r _ [54, 28, 29, 30, 31, 32, 33, 34] (by decide +kernel) (by decide +kernel)
set_option maxRecDepth 20000 in
theorem gX7_guessFrom_X7_nearestCount : GoodIn wsX7_guessFrom (wsV RX7 61 RX7 yX7_nearestCount wsX7_nearestCount) := goodIn_app (goodIn_of _ (by decide +kernel)) ggX7_guessFrom_X7_nearestCount
theorem dX7_guessFrom_0 : decode cX7_guessFrom 0 = .ok (.aload_n 0, 1) := by decide +kernel
theorem dX7_guessFrom_1 : decode cX7_guessFrom 1 = .ok (.iload_n 1, 1) := by decide +kernel
theorem dX7_guessFrom_2 : decode cX7_guessFrom 2 = .ok (.aload_n 2, 1) := by decide +kernel
theorem dX7_guessFrom_3 : decode cX7_guessFrom 3 = .ok (.invokevirtual 50, 3) := by decide +kernel
theorem dX7_guessFrom_6 : decode cX7_guessFrom 6 = .ok (.istore 4, 2) := by decide +kernel
theorem dX7_guessFrom_8 : decode cX7_guessFrom 8 = .ok (.aload_n 0, 1) := by decide +kernel
theorem dX7_guessFrom_9 : decode cX7_guessFrom 9 = .ok (.iload_n 1, 1) := by decide +kernel
theorem dX7_guessFrom_10 : decode cX7_guessFrom 10 = .ok (.aload_n 2, 1) := by decide +kernel
theorem dX7_guessFrom_11 : decode cX7_guessFrom 11 = .ok (.invokevirtual 54, 3) := by decide +kernel
theorem dX7_guessFrom_14 : decode cX7_guessFrom 14 = .ok (.istore 5, 2) := by decide +kernel
theorem dX7_guessFrom_16 : decode cX7_guessFrom 16 = .ok (.iload 4, 2) := by decide +kernel
theorem dX7_guessFrom_18 : decode cX7_guessFrom 18 = .ok (.iload 5, 2) := by decide +kernel
theorem dX7_guessFrom_20 : decode cX7_guessFrom 20 = .ok (.if_icmp .le 6, 3) := by decide +kernel
theorem dX7_guessFrom_23 : decode cX7_guessFrom 23 = .ok (.ldc 57, 2) := by decide +kernel
theorem dX7_guessFrom_25 : decode cX7_guessFrom 25 = .ok (.ireturn, 1) := by decide +kernel
theorem dX7_guessFrom_26 : decode cX7_guessFrom 26 = .ok (.iload_n 3, 1) := by decide +kernel
theorem dX7_guessFrom_27 : decode cX7_guessFrom 27 = .ok (.tableswitch 39 1 3 #[25, 28, 31], 25) := by decide +kernel
theorem dX7_guessFrom_52 : decode cX7_guessFrom 52 = .ok (.iload 4, 2) := by decide +kernel
theorem dX7_guessFrom_54 : decode cX7_guessFrom 54 = .ok (.ireturn, 1) := by decide +kernel
theorem dX7_guessFrom_55 : decode cX7_guessFrom 55 = .ok (.iload 5, 2) := by decide +kernel
theorem dX7_guessFrom_57 : decode cX7_guessFrom 57 = .ok (.ireturn, 1) := by decide +kernel
theorem dX7_guessFrom_58 : decode cX7_guessFrom 58 = .ok (.iload 4, 2) := by decide +kernel
theorem dX7_guessFrom_60 : decode cX7_guessFrom 60 = .ok (.iload 5, 2) := by decide +kernel
theorem dX7_guessFrom_62 : decode cX7_guessFrom 62 = .ok (.iadd, 1) := by decide +kernel
theorem dX7_guessFrom_63 : decode cX7_guessFrom 63 = .ok (.iconst 2, 1) := by decide +kernel
theorem dX7_guessFrom_64 : decode cX7_guessFrom 64 = .ok (.idiv, 1) := by decide +kernel
theorem dX7_guessFrom_65 : decode cX7_guessFrom 65 = .ok (.ireturn, 1) := by decide +kernel
theorem dX7_guessFrom_66 : decode cX7_guessFrom 66 = .ok (.iload 4, 2) := by decide +kernel
theorem dX7_guessFrom_68 : decode cX7_guessFrom 68 = .ok (.iload 5, 2) := by decide +kernel
theorem dX7_guessFrom_70 : decode cX7_guessFrom 70 = .ok (.aload_n 0, 1) := by decide +kernel
theorem dX7_guessFrom_71 : decode cX7_guessFrom 71 = .ok (.iload_n 1, 1) := by decide +kernel
theorem dX7_guessFrom_72 : decode cX7_guessFrom 72 = .ok (.aload_n 2, 1) := by decide +kernel
theorem dX7_guessFrom_73 : decode cX7_guessFrom 73 = .ok (.getfield 58, 3) := by decide +kernel
theorem dX7_guessFrom_76 : decode cX7_guessFrom 76 = .ok (.invokevirtual 61, 3) := by decide +kernel
theorem dX7_guessFrom_79 : decode cX7_guessFrom 79 = .ok (.invokestatic 64, 3) := by decide +kernel
theorem dX7_guessFrom_82 : decode cX7_guessFrom 82 = .ok (.invokestatic 35, 3) := by decide +kernel
theorem dX7_guessFrom_85 : decode cX7_guessFrom 85 = .ok (.ireturn, 1) := by decide +kernel
set_option maxRecDepth 20000 in
theorem ggX7_nearestCount_X9_quotient : GoodIn wsX7_nearestCount wsX9_quotient := goodIn_r _ [3, 4, 5, 6, 7] (by decide +kernel) (by decide +kernel)
set_option maxRecDepth 20000 in
theorem gX7_nearestCount_X9_quotient_n31 : GoodIn wsX7_nearestCount (wsX9_quotient) := ggX7_nearestCount_X9_quotient
theorem dX7_nearestCount_0 : decode cX7_nearestCount 0 = .ok (.iload_n 1, 1) := by decide +kernel
theorem dX7_nearestCount_1 : decode cX7_nearestCount 1 = .ok (.iload_n 2, 1) := by decide +kernel
theorem dX7_nearestCount_2 : decode cX7_nearestCount 2 = .ok (.invokestatic 31, 3) := by decide +kernel
theorem dX7_nearestCount_5 : decode cX7_nearestCount 5 = .ok (.istore_n 3, 1) := by decide +kernel
theorem dX7_nearestCount_6 : decode cX7_nearestCount 6 = .ok (.iload_n 1, 1) := by decide +kernel
theorem dX7_nearestCount_7 : decode cX7_nearestCount 7 = .ok (.iload_n 3, 1) := by decide +kernel
theorem dX7_nearestCount_8 : decode cX7_nearestCount 8 = .ok (.iload_n 2, 1) := by decide +kernel
theorem dX7_nearestCount_9 : decode cX7_nearestCount 9 = .ok (.imul, 1) := by decide +kernel
theorem dX7_nearestCount_10 : decode cX7_nearestCount 10 = .ok (.isub, 1) := by decide +kernel
theorem dX7_nearestCount_11 : decode cX7_nearestCount 11 = .ok (.istore 4, 2) := by decide +kernel
theorem dX7_nearestCount_13 : decode cX7_nearestCount 13 = .ok (.iload 4, 2) := by decide +kernel
theorem dX7_nearestCount_15 : decode cX7_nearestCount 15 = .ok (.iload_n 2, 1) := by decide +kernel
theorem dX7_nearestCount_16 : decode cX7_nearestCount 16 = .ok (.iload 4, 2) := by decide +kernel
theorem dX7_nearestCount_18 : decode cX7_nearestCount 18 = .ok (.isub, 1) := by decide +kernel
theorem dX7_nearestCount_19 : decode cX7_nearestCount 19 = .ok (.if_icmp .gt 7, 3) := by decide +kernel
theorem dX7_nearestCount_22 : decode cX7_nearestCount 22 = .ok (.iload_n 3, 1) := by decide +kernel
theorem dX7_nearestCount_23 : decode cX7_nearestCount 23 = .ok (.goto 6, 3) := by decide +kernel
theorem dX7_nearestCount_26 : decode cX7_nearestCount 26 = .ok (.iload_n 3, 1) := by decide +kernel
theorem dX7_nearestCount_27 : decode cX7_nearestCount 27 = .ok (.iconst 1, 1) := by decide +kernel
theorem dX7_nearestCount_28 : decode cX7_nearestCount 28 = .ok (.iadd, 1) := by decide +kernel
theorem dX7_nearestCount_29 : decode cX7_nearestCount 29 = .ok (.ireturn, 1) := by decide +kernel
set_option maxRecDepth 20000 in
theorem ggX7_apartFromNext_X4_heaviest : GoodIn wsX7_apartFromNext wsX4_heaviest := goodIn_r _ [6, 7, 8, 30, 31] (by decide +kernel) (by decide +kernel)
set_option maxRecDepth 20000 in
theorem gX7_apartFromNext_X4_heaviest : GoodIn wsX7_apartFromNext (wsV RX7 21 RX4 yX4_heaviest wsX4_heaviest) := goodIn_app (goodIn_of _ (by decide +kernel)) ggX7_apartFromNext_X4_heaviest
set_option maxRecDepth 20000 in
theorem ggX7_apartFromNext_X9_readingAt : GoodIn wsX7_apartFromNext wsX9_readingAt := goodIn_r _ [11, 12, 13, 14, 15, 16, 17, 10, 18, 19, 20, 21, 22] (by decide +kernel) (by decide +kernel)
set_option maxRecDepth 20000 in
theorem gX7_apartFromNext_X9_readingAt_n67 : GoodIn wsX7_apartFromNext (wsX9_readingAt) := ggX7_apartFromNext_X9_readingAt
set_option maxRecDepth 20000 in
theorem ggX7_apartFromNext_X4_lightest : GoodIn wsX7_apartFromNext wsX4_lightest := goodIn_r _ [26, 7, 8, 30, 31] (by decide +kernel) (by decide +kernel)
set_option maxRecDepth 20000 in
theorem gX7_apartFromNext_X4_lightest : GoodIn wsX7_apartFromNext (wsV RX7 47 RX4 yX4_lightest wsX4_lightest) := goodIn_app (goodIn_of _ (by decide +kernel)) ggX7_apartFromNext_X4_lightest
theorem dX7_apartFromNext_0 : decode cX7_apartFromNext 0 = .ok (.iload_n 1, 1) := by decide +kernel
theorem dX7_apartFromNext_1 : decode cX7_apartFromNext 1 = .ok (.iload_n 3, 1) := by decide +kernel
theorem dX7_apartFromNext_2 : decode cX7_apartFromNext 2 = .ok (.aload_n 2, 1) := by decide +kernel
theorem dX7_apartFromNext_3 : decode cX7_apartFromNext 3 = .ok (.invokevirtual 21, 3) := by decide +kernel
theorem dX7_apartFromNext_6 : decode cX7_apartFromNext 6 = .ok (.imul, 1) := by decide +kernel
theorem dX7_apartFromNext_7 : decode cX7_apartFromNext 7 = .ok (.aload_n 0, 1) := by decide +kernel
theorem dX7_apartFromNext_8 : decode cX7_apartFromNext 8 = .ok (.getfield 15, 3) := by decide +kernel
theorem dX7_apartFromNext_11 : decode cX7_apartFromNext 11 = .ok (.iadd, 1) := by decide +kernel
theorem dX7_apartFromNext_12 : decode cX7_apartFromNext 12 = .ok (.invokestatic 67, 3) := by decide +kernel
theorem dX7_apartFromNext_15 : decode cX7_apartFromNext 15 = .ok (.istore 4, 2) := by decide +kernel
theorem dX7_apartFromNext_17 : decode cX7_apartFromNext 17 = .ok (.iload_n 1, 1) := by decide +kernel
theorem dX7_apartFromNext_18 : decode cX7_apartFromNext 18 = .ok (.iload_n 3, 1) := by decide +kernel
theorem dX7_apartFromNext_19 : decode cX7_apartFromNext 19 = .ok (.iconst 1, 1) := by decide +kernel
theorem dX7_apartFromNext_20 : decode cX7_apartFromNext 20 = .ok (.iadd, 1) := by decide +kernel
theorem dX7_apartFromNext_21 : decode cX7_apartFromNext 21 = .ok (.aload_n 2, 1) := by decide +kernel
theorem dX7_apartFromNext_22 : decode cX7_apartFromNext 22 = .ok (.invokevirtual 47, 3) := by decide +kernel
theorem dX7_apartFromNext_25 : decode cX7_apartFromNext 25 = .ok (.imul, 1) := by decide +kernel
theorem dX7_apartFromNext_26 : decode cX7_apartFromNext 26 = .ok (.aload_n 0, 1) := by decide +kernel
theorem dX7_apartFromNext_27 : decode cX7_apartFromNext 27 = .ok (.getfield 15, 3) := by decide +kernel
theorem dX7_apartFromNext_30 : decode cX7_apartFromNext 30 = .ok (.isub, 1) := by decide +kernel
theorem dX7_apartFromNext_31 : decode cX7_apartFromNext 31 = .ok (.invokestatic 67, 3) := by decide +kernel
theorem dX7_apartFromNext_34 : decode cX7_apartFromNext 34 = .ok (.istore 5, 2) := by decide +kernel
theorem dX7_apartFromNext_36 : decode cX7_apartFromNext 36 = .ok (.iload 4, 2) := by decide +kernel
theorem dX7_apartFromNext_38 : decode cX7_apartFromNext 38 = .ok (.iload 5, 2) := by decide +kernel
theorem dX7_apartFromNext_40 : decode cX7_apartFromNext 40 = .ok (.if_icmp .ge 7, 3) := by decide +kernel
theorem dX7_apartFromNext_43 : decode cX7_apartFromNext 43 = .ok (.iconst 1, 1) := by decide +kernel
theorem dX7_apartFromNext_44 : decode cX7_apartFromNext 44 = .ok (.goto 4, 3) := by decide +kernel
theorem dX7_apartFromNext_47 : decode cX7_apartFromNext 47 = .ok (.iconst 0, 1) := by decide +kernel
theorem dX7_apartFromNext_48 : decode cX7_apartFromNext 48 = .ok (.ireturn, 1) := by decide +kernel
set_option maxRecDepth 20000 in
theorem ggX7_lastApart_X7_apartFromNext : GoodIn wsX7_lastApart wsX7_apartFromNext := goodIn_r _ [6, 7, 8, 9, 10, 11, 12, 13, 14, 15, 16, 17, 18, 19, 20, 21, 22, 23, 24, 25, 26, 27, 28, 29, 30, 31, 32, 33, 34, 35, 36, 37] (by decide +kernel) (by decide +kernel)
set_option maxRecDepth 20000 in
theorem gX7_lastApart_X7_apartFromNext : GoodIn wsX7_lastApart (wsV RX7 70 RX7 yX7_apartFromNext wsX7_apartFromNext) := goodIn_app (goodIn_of _ (by decide +kernel)) ggX7_lastApart_X7_apartFromNext
theorem dX7_lastApart_0 : decode cX7_lastApart 0 = .ok (.iconst 0, 1) := by decide +kernel
theorem dX7_lastApart_1 : decode cX7_lastApart 1 = .ok (.istore_n 2, 1) := by decide +kernel
theorem dX7_lastApart_2 : decode cX7_lastApart 2 = .ok (.iload_n 2, 1) := by decide +kernel
theorem dX7_lastApart_3 : decode cX7_lastApart 3 = .ok (.sipush 999, 3) := by decide +kernel
theorem dX7_lastApart_6 : decode cX7_lastApart 6 = .ok (.if_icmp .ge 24, 3) := by decide +kernel
theorem dX7_lastApart_9 : decode cX7_lastApart 9 = .ok (.aload_n 0, 1) := by decide +kernel
theorem dX7_lastApart_10 : decode cX7_lastApart 10 = .ok (.aload_n 0, 1) := by decide +kernel
theorem dX7_lastApart_11 : decode cX7_lastApart 11 = .ok (.getfield 9, 3) := by decide +kernel
theorem dX7_lastApart_14 : decode cX7_lastApart 14 = .ok (.aload_n 1, 1) := by decide +kernel
theorem dX7_lastApart_15 : decode cX7_lastApart 15 = .ok (.iload_n 2, 1) := by decide +kernel
theorem dX7_lastApart_16 : decode cX7_lastApart 16 = .ok (.invokevirtual 70, 3) := by decide +kernel
theorem dX7_lastApart_19 : decode cX7_lastApart 19 = .ok (.ifCond .ne 5, 3) := by decide +kernel
theorem dX7_lastApart_22 : decode cX7_lastApart 22 = .ok (.iload_n 2, 1) := by decide +kernel
theorem dX7_lastApart_23 : decode cX7_lastApart 23 = .ok (.ireturn, 1) := by decide +kernel
theorem dX7_lastApart_24 : decode cX7_lastApart 24 = .ok (.iinc 2 1, 3) := by decide +kernel
theorem dX7_lastApart_27 : decode cX7_lastApart 27 = .ok (.goto (-25), 3) := by decide +kernel
theorem dX7_lastApart_30 : decode cX7_lastApart 30 = .ok (.sipush 999, 3) := by decide +kernel
theorem dX7_lastApart_33 : decode cX7_lastApart 33 = .ok (.ireturn, 1) := by decide +kernel
set_option maxRecDepth 20000 in
theorem ggX7_greatestStep_X7_allApart : GoodIn wsX7_greatestStep wsX7_allApart := goodIn_r _ [6, 7, 8, 9, 5, 10, 11, 12, 13, 14, 15, 16, 17, 18, 19, 20, 21, 22, 23, 24, 25, 26, 27, 28, 29, 30, 31, 32, 33, 34, 35, 36, 37, 38, 39, 40, 41] (by decide +kernel) (by decide +kernel)
set_option maxRecDepth 20000 in
theorem gX7_greatestStep_X7_allApart : GoodIn wsX7_greatestStep (wsV RX7 74 RX7 yX7_allApart wsX7_allApart) := goodIn_app (goodIn_of _ (by decide +kernel)) ggX7_greatestStep_X7_allApart
theorem dX7_greatestStep_0 : decode cX7_greatestStep 0 = .ok (.sipush 1000, 3) := by decide +kernel
theorem dX7_greatestStep_3 : decode cX7_greatestStep 3 = .ok (.istore_n 3, 1) := by decide +kernel
theorem dX7_greatestStep_4 : decode cX7_greatestStep 4 = .ok (.iload_n 3, 1) := by decide +kernel
theorem dX7_greatestStep_5 : decode cX7_greatestStep 5 = .ok (.iconst 1, 1) := by decide +kernel
theorem dX7_greatestStep_6 : decode cX7_greatestStep 6 = .ok (.if_icmp .lt 21, 3) := by decide +kernel
theorem dX7_greatestStep_9 : decode cX7_greatestStep 9 = .ok (.aload_n 0, 1) := by decide +kernel
theorem dX7_greatestStep_10 : decode cX7_greatestStep 10 = .ok (.iload_n 3, 1) := by decide +kernel
theorem dX7_greatestStep_11 : decode cX7_greatestStep 11 = .ok (.aload_n 1, 1) := by decide +kernel
theorem dX7_greatestStep_12 : decode cX7_greatestStep 12 = .ok (.iload_n 2, 1) := by decide +kernel
theorem dX7_greatestStep_13 : decode cX7_greatestStep 13 = .ok (.invokevirtual 74, 3) := by decide +kernel
theorem dX7_greatestStep_16 : decode cX7_greatestStep 16 = .ok (.ifCond .eq 5, 3) := by decide +kernel
theorem dX7_greatestStep_19 : decode cX7_greatestStep 19 = .ok (.iload_n 3, 1) := by decide +kernel
theorem dX7_greatestStep_20 : decode cX7_greatestStep 20 = .ok (.ireturn, 1) := by decide +kernel
theorem dX7_greatestStep_21 : decode cX7_greatestStep 21 = .ok (.iinc 3 (-1), 3) := by decide +kernel
theorem dX7_greatestStep_24 : decode cX7_greatestStep 24 = .ok (.goto (-20), 3) := by decide +kernel
theorem dX7_greatestStep_27 : decode cX7_greatestStep 27 = .ok (.ldc 57, 2) := by decide +kernel
theorem dX7_greatestStep_29 : decode cX7_greatestStep 29 = .ok (.ireturn, 1) := by decide +kernel
set_option maxRecDepth 20000 in
theorem ggX7_allApart_X7_apartFromNext : GoodIn wsX7_allApart wsX7_apartFromNext := goodIn_r _ [5, 6, 7, 8, 9, 10, 11, 12, 13, 14, 15, 16, 17, 18, 19, 20, 21, 22, 23, 24, 25, 26, 27, 28, 29, 30, 31, 32, 33, 34, 35, 36] (by decide +kernel) (by decide +kernel)
set_option maxRecDepth 20000 in
theorem gX7_allApart_X7_apartFromNext : GoodIn wsX7_allApart (wsV RX7 70 RX7 yX7_apartFromNext wsX7_apartFromNext) := goodIn_app (goodIn_of _ (by decide +kernel)) ggX7_allApart_X7_apartFromNext
theorem dX7_allApart_0 : decode cX7_allApart 0 = .ok (.iload_n 3, 1) := by decide +kernel
theorem dX7_allApart_1 : decode cX7_allApart 1 = .ok (.iconst 1, 1) := by decide +kernel
theorem dX7_allApart_2 : decode cX7_allApart 2 = .ok (.isub, 1) := by decide +kernel
theorem dX7_allApart_3 : decode cX7_allApart 3 = .ok (.istore 4, 2) := by decide +kernel
theorem dX7_allApart_5 : decode cX7_allApart 5 = .ok (.iload 4, 2) := by decide +kernel
theorem dX7_allApart_7 : decode cX7_allApart 7 = .ok (.ifCond .lt 22, 3) := by decide +kernel
theorem dX7_allApart_10 : decode cX7_allApart 10 = .ok (.aload_n 0, 1) := by decide +kernel
theorem dX7_allApart_11 : decode cX7_allApart 11 = .ok (.iload_n 1, 1) := by decide +kernel
theorem dX7_allApart_12 : decode cX7_allApart 12 = .ok (.aload_n 2, 1) := by decide +kernel
theorem dX7_allApart_13 : decode cX7_allApart 13 = .ok (.iload 4, 2) := by decide +kernel
theorem dX7_allApart_15 : decode cX7_allApart 15 = .ok (.invokevirtual 70, 3) := by decide +kernel
theorem dX7_allApart_18 : decode cX7_allApart 18 = .ok (.ifCond .ne 5, 3) := by decide +kernel
theorem dX7_allApart_21 : decode cX7_allApart 21 = .ok (.iconst 0, 1) := by decide +kernel
theorem dX7_allApart_22 : decode cX7_allApart 22 = .ok (.ireturn, 1) := by decide +kernel
theorem dX7_allApart_23 : decode cX7_allApart 23 = .ok (.iinc 4 (-1), 3) := by decide +kernel
theorem dX7_allApart_26 : decode cX7_allApart 26 = .ok (.goto (-21), 3) := by decide +kernel
theorem dX7_allApart_29 : decode cX7_allApart 29 = .ok (.iconst 1, 1) := by decide +kernel
theorem dX7_allApart_30 : decode cX7_allApart 30 = .ok (.ireturn, 1) := by decide +kernel
set_option maxRecDepth 20000 in
theorem ggX7_mixedPairs_X7_pairsOf : GoodIn wsX7_mixedPairs wsX7_pairsOf := goodIn_r _ [6, 7, 8, 9, 10, 5, 11, 12, 13, 14, 15, 16, 17, 18, 19, 20, 21, 22, 23, 24, 25, 26, 27, 28, 29, 30, 31, 32, 33, 34, 35, 36] (by decide +kernel) (by decide +kernel)
set_option maxRecDepth 20000 in
theorem gX7_mixedPairs_X7_pairsOf : GoodIn wsX7_mixedPairs (wsV RX7 77 RX7 yX7_pairsOf wsX7_pairsOf) := goodIn_app (goodIn_of _ (by decide +kernel)) ggX7_mixedPairs_X7_pairsOf
theorem dX7_mixedPairs_0 : decode cX7_mixedPairs 0 = .ok (.iconst 0, 1) := by decide +kernel
theorem dX7_mixedPairs_1 : decode cX7_mixedPairs 1 = .ok (.istore 5, 2) := by decide +kernel
theorem dX7_mixedPairs_3 : decode cX7_mixedPairs 3 = .ok (.ldc 57, 2) := by decide +kernel
theorem dX7_mixedPairs_5 : decode cX7_mixedPairs 5 = .ok (.istore 6, 2) := by decide +kernel
theorem dX7_mixedPairs_7 : decode cX7_mixedPairs 7 = .ok (.ldc 57, 2) := by decide +kernel
theorem dX7_mixedPairs_9 : decode cX7_mixedPairs 9 = .ok (.istore 7, 2) := by decide +kernel
theorem dX7_mixedPairs_11 : decode cX7_mixedPairs 11 = .ok (.iconst 0, 1) := by decide +kernel
theorem dX7_mixedPairs_12 : decode cX7_mixedPairs 12 = .ok (.istore 8, 2) := by decide +kernel
theorem dX7_mixedPairs_14 : decode cX7_mixedPairs 14 = .ok (.iload 8, 2) := by decide +kernel
theorem dX7_mixedPairs_16 : decode cX7_mixedPairs 16 = .ok (.bipush 60, 2) := by decide +kernel
theorem dX7_mixedPairs_18 : decode cX7_mixedPairs 18 = .ok (.if_icmp .gt 47, 3) := by decide +kernel
theorem dX7_mixedPairs_21 : decode cX7_mixedPairs 21 = .ok (.aload_n 0, 1) := by decide +kernel
theorem dX7_mixedPairs_22 : decode cX7_mixedPairs 22 = .ok (.iload 8, 2) := by decide +kernel
theorem dX7_mixedPairs_24 : decode cX7_mixedPairs 24 = .ok (.aload_n 1, 1) := by decide +kernel
theorem dX7_mixedPairs_25 : decode cX7_mixedPairs 25 = .ok (.aload_n 2, 1) := by decide +kernel
theorem dX7_mixedPairs_26 : decode cX7_mixedPairs 26 = .ok (.iload_n 3, 1) := by decide +kernel
theorem dX7_mixedPairs_27 : decode cX7_mixedPairs 27 = .ok (.invokevirtual 77, 3) := by decide +kernel
theorem dX7_mixedPairs_30 : decode cX7_mixedPairs 30 = .ok (.istore 9, 2) := by decide +kernel
theorem dX7_mixedPairs_32 : decode cX7_mixedPairs 32 = .ok (.iload 9, 2) := by decide +kernel
theorem dX7_mixedPairs_34 : decode cX7_mixedPairs 34 = .ok (.ifCond .le 25, 3) := by decide +kernel
theorem dX7_mixedPairs_37 : decode cX7_mixedPairs 37 = .ok (.iload 5, 2) := by decide +kernel
theorem dX7_mixedPairs_39 : decode cX7_mixedPairs 39 = .ok (.iload 9, 2) := by decide +kernel
theorem dX7_mixedPairs_41 : decode cX7_mixedPairs 41 = .ok (.iadd, 1) := by decide +kernel
theorem dX7_mixedPairs_42 : decode cX7_mixedPairs 42 = .ok (.istore 5, 2) := by decide +kernel
theorem dX7_mixedPairs_44 : decode cX7_mixedPairs 44 = .ok (.iload 8, 2) := by decide +kernel
theorem dX7_mixedPairs_46 : decode cX7_mixedPairs 46 = .ok (.istore 7, 2) := by decide +kernel
theorem dX7_mixedPairs_48 : decode cX7_mixedPairs 48 = .ok (.iload 6, 2) := by decide +kernel
theorem dX7_mixedPairs_50 : decode cX7_mixedPairs 50 = .ok (.ldc 57, 2) := by decide +kernel
theorem dX7_mixedPairs_52 : decode cX7_mixedPairs 52 = .ok (.if_icmp .ne 7, 3) := by decide +kernel
theorem dX7_mixedPairs_55 : decode cX7_mixedPairs 55 = .ok (.iload 8, 2) := by decide +kernel
theorem dX7_mixedPairs_57 : decode cX7_mixedPairs 57 = .ok (.istore 6, 2) := by decide +kernel
theorem dX7_mixedPairs_59 : decode cX7_mixedPairs 59 = .ok (.iinc 8 1, 3) := by decide +kernel
theorem dX7_mixedPairs_62 : decode cX7_mixedPairs 62 = .ok (.goto (-48), 3) := by decide +kernel
theorem dX7_mixedPairs_65 : decode cX7_mixedPairs 65 = .ok (.iload 4, 2) := by decide +kernel
theorem dX7_mixedPairs_67 : decode cX7_mixedPairs 67 = .ok (.lookupswitch 31 #[(0, 25), (1, 28)], 25) := by decide +kernel
theorem dX7_mixedPairs_92 : decode cX7_mixedPairs 92 = .ok (.iload 5, 2) := by decide +kernel
theorem dX7_mixedPairs_94 : decode cX7_mixedPairs 94 = .ok (.ireturn, 1) := by decide +kernel
theorem dX7_mixedPairs_95 : decode cX7_mixedPairs 95 = .ok (.iload 6, 2) := by decide +kernel
theorem dX7_mixedPairs_97 : decode cX7_mixedPairs 97 = .ok (.ireturn, 1) := by decide +kernel
theorem dX7_mixedPairs_98 : decode cX7_mixedPairs 98 = .ok (.iload 7, 2) := by decide +kernel
theorem dX7_mixedPairs_100 : decode cX7_mixedPairs 100 = .ok (.ireturn, 1) := by decide +kernel
set_option maxRecDepth 20000 in
theorem ggX7_pairsOf_X7_shows : GoodIn wsX7_pairsOf wsX7_shows := goodIn_r _ [6, 7, 27, 28, 29] (by decide +kernel) (by decide +kernel)
set_option maxRecDepth 20000 in
theorem gX7_pairsOf_X7_shows : GoodIn wsX7_pairsOf (wsV RX7 40 RX7 yX7_shows wsX7_shows) := goodIn_app (goodIn_of _ (by decide +kernel)) ggX7_pairsOf_X7_shows
set_option maxRecDepth 20000 in
theorem ggX7_pairsOf_X4_lightest : GoodIn wsX7_pairsOf wsX4_lightest := goodIn_r _ [12, 13, 14, 30, 31] (by decide +kernel) (by decide +kernel)
set_option maxRecDepth 20000 in
theorem gX7_pairsOf_X4_lightest : GoodIn wsX7_pairsOf (wsV RX7 47 RX4 yX4_lightest wsX4_lightest) := goodIn_app (goodIn_of _ (by decide +kernel)) ggX7_pairsOf_X4_lightest
set_option maxRecDepth 20000 in
theorem ggX7_pairsOf_X4_heaviest : GoodIn wsX7_pairsOf wsX4_heaviest := goodIn_r _ [18, 13, 14, 30, 31] (by decide +kernel) (by decide +kernel)
set_option maxRecDepth 20000 in
theorem gX7_pairsOf_X4_heaviest : GoodIn wsX7_pairsOf (wsV RX7 21 RX4 yX4_heaviest wsX4_heaviest) := goodIn_app (goodIn_of _ (by decide +kernel)) ggX7_pairsOf_X4_heaviest
set_option maxRecDepth 20000 in
theorem ggX7_pairsOf_X7_loadTo : GoodIn wsX7_pairsOf wsX7_loadTo := goodIn_r _ [22, 7, 27, 28, 29] (by decide +kernel) (by decide +kernel)
set_option maxRecDepth 20000 in
theorem gX7_pairsOf_X7_loadTo : GoodIn wsX7_pairsOf (wsV RX7 44 RX7 yX7_loadTo wsX7_loadTo) := goodIn_app (goodIn_of _ (by decide +kernel)) ggX7_pairsOf_X7_loadTo
set_option maxRecDepth 20000 in
theorem ggX7_pairsOf_X7_loadFrom : GoodIn wsX7_pairsOf wsX7_loadFrom := goodIn_r _ [26, 7, 27, 28, 29] (by decide +kernel) (by decide +kernel)
set_option maxRecDepth 20000 in
theorem gX7_pairsOf_X7_loadFrom : GoodIn wsX7_pairsOf (wsV RX7 27 RX7 yX7_loadFrom wsX7_loadFrom) := goodIn_app (goodIn_of _ (by decide +kernel)) ggX7_pairsOf_X7_loadFrom
theorem dX7_pairsOf_0 : decode cX7_pairsOf 0 = .ok (.aload_n 0, 1) := by decide +kernel
theorem dX7_pairsOf_1 : decode cX7_pairsOf 1 = .ok (.iload 4, 2) := by decide +kernel
theorem dX7_pairsOf_3 : decode cX7_pairsOf 3 = .ok (.invokevirtual 40, 3) := by decide +kernel
theorem dX7_pairsOf_6 : decode cX7_pairsOf 6 = .ok (.ifCond .ne 5, 3) := by decide +kernel
theorem dX7_pairsOf_9 : decode cX7_pairsOf 9 = .ok (.iconst 0, 1) := by decide +kernel
theorem dX7_pairsOf_10 : decode cX7_pairsOf 10 = .ok (.ireturn, 1) := by decide +kernel
theorem dX7_pairsOf_11 : decode cX7_pairsOf 11 = .ok (.iconst 0, 1) := by decide +kernel
theorem dX7_pairsOf_12 : decode cX7_pairsOf 12 = .ok (.istore 5, 2) := by decide +kernel
theorem dX7_pairsOf_14 : decode cX7_pairsOf 14 = .ok (.iconst 0, 1) := by decide +kernel
theorem dX7_pairsOf_15 : decode cX7_pairsOf 15 = .ok (.istore 6, 2) := by decide +kernel
theorem dX7_pairsOf_17 : decode cX7_pairsOf 17 = .ok (.iload 6, 2) := by decide +kernel
theorem dX7_pairsOf_19 : decode cX7_pairsOf 19 = .ok (.iload_n 1, 1) := by decide +kernel
theorem dX7_pairsOf_20 : decode cX7_pairsOf 20 = .ok (.if_icmp .gt 84, 3) := by decide +kernel
theorem dX7_pairsOf_23 : decode cX7_pairsOf 23 = .ok (.iload_n 1, 1) := by decide +kernel
theorem dX7_pairsOf_24 : decode cX7_pairsOf 24 = .ok (.iload 6, 2) := by decide +kernel
theorem dX7_pairsOf_26 : decode cX7_pairsOf 26 = .ok (.isub, 1) := by decide +kernel
theorem dX7_pairsOf_27 : decode cX7_pairsOf 27 = .ok (.istore 7, 2) := by decide +kernel
theorem dX7_pairsOf_29 : decode cX7_pairsOf 29 = .ok (.iload 6, 2) := by decide +kernel
theorem dX7_pairsOf_31 : decode cX7_pairsOf 31 = .ok (.aload_n 2, 1) := by decide +kernel
theorem dX7_pairsOf_32 : decode cX7_pairsOf 32 = .ok (.invokevirtual 47, 3) := by decide +kernel
theorem dX7_pairsOf_35 : decode cX7_pairsOf 35 = .ok (.imul, 1) := by decide +kernel
theorem dX7_pairsOf_36 : decode cX7_pairsOf 36 = .ok (.iload 7, 2) := by decide +kernel
theorem dX7_pairsOf_38 : decode cX7_pairsOf 38 = .ok (.aload_n 3, 1) := by decide +kernel
theorem dX7_pairsOf_39 : decode cX7_pairsOf 39 = .ok (.invokevirtual 47, 3) := by decide +kernel
theorem dX7_pairsOf_42 : decode cX7_pairsOf 42 = .ok (.imul, 1) := by decide +kernel
theorem dX7_pairsOf_43 : decode cX7_pairsOf 43 = .ok (.iadd, 1) := by decide +kernel
theorem dX7_pairsOf_44 : decode cX7_pairsOf 44 = .ok (.aload_n 0, 1) := by decide +kernel
theorem dX7_pairsOf_45 : decode cX7_pairsOf 45 = .ok (.getfield 15, 3) := by decide +kernel
theorem dX7_pairsOf_48 : decode cX7_pairsOf 48 = .ok (.isub, 1) := by decide +kernel
theorem dX7_pairsOf_49 : decode cX7_pairsOf 49 = .ok (.istore 8, 2) := by decide +kernel
theorem dX7_pairsOf_51 : decode cX7_pairsOf 51 = .ok (.iload 6, 2) := by decide +kernel
theorem dX7_pairsOf_53 : decode cX7_pairsOf 53 = .ok (.aload_n 2, 1) := by decide +kernel
theorem dX7_pairsOf_54 : decode cX7_pairsOf 54 = .ok (.invokevirtual 21, 3) := by decide +kernel
theorem dX7_pairsOf_57 : decode cX7_pairsOf 57 = .ok (.imul, 1) := by decide +kernel
theorem dX7_pairsOf_58 : decode cX7_pairsOf 58 = .ok (.iload 7, 2) := by decide +kernel
theorem dX7_pairsOf_60 : decode cX7_pairsOf 60 = .ok (.aload_n 3, 1) := by decide +kernel
theorem dX7_pairsOf_61 : decode cX7_pairsOf 61 = .ok (.invokevirtual 21, 3) := by decide +kernel
theorem dX7_pairsOf_64 : decode cX7_pairsOf 64 = .ok (.imul, 1) := by decide +kernel
theorem dX7_pairsOf_65 : decode cX7_pairsOf 65 = .ok (.iadd, 1) := by decide +kernel
theorem dX7_pairsOf_66 : decode cX7_pairsOf 66 = .ok (.aload_n 0, 1) := by decide +kernel
theorem dX7_pairsOf_67 : decode cX7_pairsOf 67 = .ok (.getfield 15, 3) := by decide +kernel
theorem dX7_pairsOf_70 : decode cX7_pairsOf 70 = .ok (.iadd, 1) := by decide +kernel
theorem dX7_pairsOf_71 : decode cX7_pairsOf 71 = .ok (.istore 9, 2) := by decide +kernel
theorem dX7_pairsOf_73 : decode cX7_pairsOf 73 = .ok (.iload 8, 2) := by decide +kernel
theorem dX7_pairsOf_75 : decode cX7_pairsOf 75 = .ok (.aload_n 0, 1) := by decide +kernel
theorem dX7_pairsOf_76 : decode cX7_pairsOf 76 = .ok (.iload 4, 2) := by decide +kernel
theorem dX7_pairsOf_78 : decode cX7_pairsOf 78 = .ok (.invokevirtual 44, 3) := by decide +kernel
theorem dX7_pairsOf_81 : decode cX7_pairsOf 81 = .ok (.if_icmp .gt 17, 3) := by decide +kernel
theorem dX7_pairsOf_84 : decode cX7_pairsOf 84 = .ok (.iload 9, 2) := by decide +kernel
theorem dX7_pairsOf_86 : decode cX7_pairsOf 86 = .ok (.aload_n 0, 1) := by decide +kernel
theorem dX7_pairsOf_87 : decode cX7_pairsOf 87 = .ok (.iload 4, 2) := by decide +kernel
theorem dX7_pairsOf_89 : decode cX7_pairsOf 89 = .ok (.invokevirtual 27, 3) := by decide +kernel
theorem dX7_pairsOf_92 : decode cX7_pairsOf 92 = .ok (.if_icmp .lt 6, 3) := by decide +kernel
theorem dX7_pairsOf_95 : decode cX7_pairsOf 95 = .ok (.iinc 5 1, 3) := by decide +kernel
theorem dX7_pairsOf_98 : decode cX7_pairsOf 98 = .ok (.iinc 6 1, 3) := by decide +kernel
theorem dX7_pairsOf_101 : decode cX7_pairsOf 101 = .ok (.goto (-84), 3) := by decide +kernel
theorem dX7_pairsOf_104 : decode cX7_pairsOf 104 = .ok (.iload 5, 2) := by decide +kernel
theorem dX7_pairsOf_106 : decode cX7_pairsOf 106 = .ok (.ireturn, 1) := by decide +kernel
set_option maxRecDepth 20000 in
theorem ggX8_init_X0_init : GoodIn wsX8_init wsX0_init := goodIn_r _ [13, 14, 2, 3, 15, 16, 17, 18, 19, 20, 21, 22, 23, 24, 25, 26, 27, 28, 29, 30, 31, 32, 33, 34, 35, 36, 37, 38, 39, 40, 41, 42, 43, 44, 45, 46, 47, 48, 49, 50, 51, 52, 53, 54, 55, 56, 60, 61, 62, 63, 64, 65, 66, 67, 68, 69, 70, 71, 72, 73, 74, 75, 76, 77] (by decide +kernel) (by decide +kernel)
set_option maxRecDepth 20000 in
theorem gX8_init_X0_init : GoodIn wsX8_init (wsX0_init) := ggX8_init_X0_init
theorem dX8_init_0 : decode cX8_init 0 = .ok (.aload_n 0, 1) := by decide +kernel
theorem dX8_init_1 : decode cX8_init 1 = .ok (.invokespecial 3, 3) := by decide +kernel
theorem dX8_init_4 : decode cX8_init 4 = .ok (.aload_n 0, 1) := by decide +kernel
theorem dX8_init_5 : decode cX8_init 5 = .ok (.new 9, 3) := by decide +kernel
theorem dX8_init_8 : decode cX8_init 8 = .ok (.dup, 1) := by decide +kernel
theorem dX8_init_9 : decode cX8_init 9 = .ok (.invokespecial 11, 3) := by decide +kernel
theorem dX8_init_12 : decode cX8_init 12 = .ok (.putfield 12, 3) := by decide +kernel
theorem dX8_init_15 : decode cX8_init 15 = .ok (.aload_n 0, 1) := by decide +kernel
theorem dX8_init_16 : decode cX8_init 16 = .ok (.iconst 2, 1) := by decide +kernel
theorem dX8_init_17 : decode cX8_init 17 = .ok (.anewarray 9, 3) := by decide +kernel
theorem dX8_init_20 : decode cX8_init 20 = .ok (.putfield 18, 3) := by decide +kernel
theorem dX8_init_23 : decode cX8_init 23 = .ok (.aload_n 0, 1) := by decide +kernel
theorem dX8_init_24 : decode cX8_init 24 = .ok (.iconst 2, 1) := by decide +kernel
theorem dX8_init_25 : decode cX8_init 25 = .ok (.newarray .boolean, 2) := by decide +kernel
theorem dX8_init_27 : decode cX8_init 27 = .ok (.putfield 22, 3) := by decide +kernel
theorem dX8_init_30 : decode cX8_init 30 = .ok (.iconst 0, 1) := by decide +kernel
theorem dX8_init_31 : decode cX8_init 31 = .ok (.istore_n 1, 1) := by decide +kernel
theorem dX8_init_32 : decode cX8_init 32 = .ok (.iload_n 1, 1) := by decide +kernel
theorem dX8_init_33 : decode cX8_init 33 = .ok (.iconst 2, 1) := by decide +kernel
theorem dX8_init_34 : decode cX8_init 34 = .ok (.if_icmp .ge 22, 3) := by decide +kernel
theorem dX8_init_37 : decode cX8_init 37 = .ok (.aload_n 0, 1) := by decide +kernel
theorem dX8_init_38 : decode cX8_init 38 = .ok (.getfield 18, 3) := by decide +kernel
theorem dX8_init_41 : decode cX8_init 41 = .ok (.iload_n 1, 1) := by decide +kernel
theorem dX8_init_42 : decode cX8_init 42 = .ok (.new 9, 3) := by decide +kernel
theorem dX8_init_45 : decode cX8_init 45 = .ok (.dup, 1) := by decide +kernel
theorem dX8_init_46 : decode cX8_init 46 = .ok (.invokespecial 11, 3) := by decide +kernel
theorem dX8_init_49 : decode cX8_init 49 = .ok (.aastore, 1) := by decide +kernel
theorem dX8_init_50 : decode cX8_init 50 = .ok (.iinc 1 1, 3) := by decide +kernel
theorem dX8_init_53 : decode cX8_init 53 = .ok (.goto (-21), 3) := by decide +kernel
theorem dX8_init_56 : decode cX8_init 56 = .ok (.return_, 1) := by decide +kernel
set_option maxRecDepth 20000 in
theorem ggX8_copyFrom_X0_copyFrom : GoodIn wsX8_copyFrom wsX0_copyFrom := goodIn_r _ [8, 9, 10, 11, 12, 13, 14, 15, 16, 17, 18, 19, 20, 21, 22, 23, 24, 25, 26, 27, 28, 29, 30, 31, 32, 33, 34, 35, 36, 37, 38, 39, 40, 41, 42, 43, 44, 45, 46, 47, 48, 49, 50, 51, 52, 53, 54, 55, 59, 60, 61, 62, 63, 64, 65, 66, 67, 68, 69, 70, 71, 72, 73, 74, 75, 76, 77, 78, 79, 80, 81, 82, 83, 84, 85] (by decide +kernel) (by decide +kernel)
set_option maxRecDepth 20000 in
theorem gX8_copyFrom_X0_copyFrom : GoodIn wsX8_copyFrom (wsV RX8 26 RX0 yX0_copyFrom wsX0_copyFrom) := goodIn_app (goodIn_of _ (by decide +kernel)) ggX8_copyFrom_X0_copyFrom
theorem dX8_copyFrom_0 : decode cX8_copyFrom 0 = .ok (.aload_n 0, 1) := by decide +kernel
theorem dX8_copyFrom_1 : decode cX8_copyFrom 1 = .ok (.getfield 12, 3) := by decide +kernel
theorem dX8_copyFrom_4 : decode cX8_copyFrom 4 = .ok (.aload_n 1, 1) := by decide +kernel
theorem dX8_copyFrom_5 : decode cX8_copyFrom 5 = .ok (.getfield 12, 3) := by decide +kernel
theorem dX8_copyFrom_8 : decode cX8_copyFrom 8 = .ok (.invokevirtual 26, 3) := by decide +kernel
theorem dX8_copyFrom_11 : decode cX8_copyFrom 11 = .ok (.iconst 0, 1) := by decide +kernel
theorem dX8_copyFrom_12 : decode cX8_copyFrom 12 = .ok (.istore_n 2, 1) := by decide +kernel
theorem dX8_copyFrom_13 : decode cX8_copyFrom 13 = .ok (.iload_n 2, 1) := by decide +kernel
theorem dX8_copyFrom_14 : decode cX8_copyFrom 14 = .ok (.iconst 2, 1) := by decide +kernel
theorem dX8_copyFrom_15 : decode cX8_copyFrom 15 = .ok (.if_icmp .ge 45, 3) := by decide +kernel
theorem dX8_copyFrom_18 : decode cX8_copyFrom 18 = .ok (.aload_n 0, 1) := by decide +kernel
theorem dX8_copyFrom_19 : decode cX8_copyFrom 19 = .ok (.getfield 22, 3) := by decide +kernel
theorem dX8_copyFrom_22 : decode cX8_copyFrom 22 = .ok (.iload_n 2, 1) := by decide +kernel
theorem dX8_copyFrom_23 : decode cX8_copyFrom 23 = .ok (.aload_n 1, 1) := by decide +kernel
theorem dX8_copyFrom_24 : decode cX8_copyFrom 24 = .ok (.getfield 22, 3) := by decide +kernel
theorem dX8_copyFrom_27 : decode cX8_copyFrom 27 = .ok (.iload_n 2, 1) := by decide +kernel
theorem dX8_copyFrom_28 : decode cX8_copyFrom 28 = .ok (.baload, 1) := by decide +kernel
theorem dX8_copyFrom_29 : decode cX8_copyFrom 29 = .ok (.bastore, 1) := by decide +kernel
theorem dX8_copyFrom_30 : decode cX8_copyFrom 30 = .ok (.aload_n 0, 1) := by decide +kernel
theorem dX8_copyFrom_31 : decode cX8_copyFrom 31 = .ok (.getfield 22, 3) := by decide +kernel
theorem dX8_copyFrom_34 : decode cX8_copyFrom 34 = .ok (.iload_n 2, 1) := by decide +kernel
theorem dX8_copyFrom_35 : decode cX8_copyFrom 35 = .ok (.baload, 1) := by decide +kernel
theorem dX8_copyFrom_36 : decode cX8_copyFrom 36 = .ok (.ifCond .eq 18, 3) := by decide +kernel
theorem dX8_copyFrom_39 : decode cX8_copyFrom 39 = .ok (.aload_n 0, 1) := by decide +kernel
theorem dX8_copyFrom_40 : decode cX8_copyFrom 40 = .ok (.getfield 18, 3) := by decide +kernel
theorem dX8_copyFrom_43 : decode cX8_copyFrom 43 = .ok (.iload_n 2, 1) := by decide +kernel
theorem dX8_copyFrom_44 : decode cX8_copyFrom 44 = .ok (.aaload, 1) := by decide +kernel
theorem dX8_copyFrom_45 : decode cX8_copyFrom 45 = .ok (.aload_n 1, 1) := by decide +kernel
theorem dX8_copyFrom_46 : decode cX8_copyFrom 46 = .ok (.getfield 18, 3) := by decide +kernel
theorem dX8_copyFrom_49 : decode cX8_copyFrom 49 = .ok (.iload_n 2, 1) := by decide +kernel
theorem dX8_copyFrom_50 : decode cX8_copyFrom 50 = .ok (.aaload, 1) := by decide +kernel
theorem dX8_copyFrom_51 : decode cX8_copyFrom 51 = .ok (.invokevirtual 26, 3) := by decide +kernel
theorem dX8_copyFrom_54 : decode cX8_copyFrom 54 = .ok (.iinc 2 1, 3) := by decide +kernel
theorem dX8_copyFrom_57 : decode cX8_copyFrom 57 = .ok (.goto (-44), 3) := by decide +kernel
theorem dX8_copyFrom_60 : decode cX8_copyFrom 60 = .ok (.return_, 1) := by decide +kernel
theorem dX8_slotsInUse_0 : decode cX8_slotsInUse 0 = .ok (.iconst 0, 1) := by decide +kernel
theorem dX8_slotsInUse_1 : decode cX8_slotsInUse 1 = .ok (.istore_n 1, 1) := by decide +kernel
theorem dX8_slotsInUse_2 : decode cX8_slotsInUse 2 = .ok (.aload_n 0, 1) := by decide +kernel
theorem dX8_slotsInUse_3 : decode cX8_slotsInUse 3 = .ok (.getfield 22, 3) := by decide +kernel
theorem dX8_slotsInUse_6 : decode cX8_slotsInUse 6 = .ok (.astore_n 2, 1) := by decide +kernel
theorem dX8_slotsInUse_7 : decode cX8_slotsInUse 7 = .ok (.aload_n 2, 1) := by decide +kernel
theorem dX8_slotsInUse_8 : decode cX8_slotsInUse 8 = .ok (.arraylength, 1) := by decide +kernel
theorem dX8_slotsInUse_9 : decode cX8_slotsInUse 9 = .ok (.istore_n 3, 1) := by decide +kernel
theorem dX8_slotsInUse_10 : decode cX8_slotsInUse 10 = .ok (.iconst 0, 1) := by decide +kernel
theorem dX8_slotsInUse_11 : decode cX8_slotsInUse 11 = .ok (.istore 4, 2) := by decide +kernel
theorem dX8_slotsInUse_13 : decode cX8_slotsInUse 13 = .ok (.iload 4, 2) := by decide +kernel
theorem dX8_slotsInUse_15 : decode cX8_slotsInUse 15 = .ok (.iload_n 3, 1) := by decide +kernel
theorem dX8_slotsInUse_16 : decode cX8_slotsInUse 16 = .ok (.if_icmp .ge 23, 3) := by decide +kernel
theorem dX8_slotsInUse_19 : decode cX8_slotsInUse 19 = .ok (.aload_n 2, 1) := by decide +kernel
theorem dX8_slotsInUse_20 : decode cX8_slotsInUse 20 = .ok (.iload 4, 2) := by decide +kernel
theorem dX8_slotsInUse_22 : decode cX8_slotsInUse 22 = .ok (.baload, 1) := by decide +kernel
theorem dX8_slotsInUse_23 : decode cX8_slotsInUse 23 = .ok (.istore 5, 2) := by decide +kernel
theorem dX8_slotsInUse_25 : decode cX8_slotsInUse 25 = .ok (.iload 5, 2) := by decide +kernel
theorem dX8_slotsInUse_27 : decode cX8_slotsInUse 27 = .ok (.ifCond .eq 6, 3) := by decide +kernel
theorem dX8_slotsInUse_30 : decode cX8_slotsInUse 30 = .ok (.iinc 1 1, 3) := by decide +kernel
theorem dX8_slotsInUse_33 : decode cX8_slotsInUse 33 = .ok (.iinc 4 1, 3) := by decide +kernel
theorem dX8_slotsInUse_36 : decode cX8_slotsInUse 36 = .ok (.goto (-23), 3) := by decide +kernel
theorem dX8_slotsInUse_39 : decode cX8_slotsInUse 39 = .ok (.iload_n 1, 1) := by decide +kernel
theorem dX8_slotsInUse_40 : decode cX8_slotsInUse 40 = .ok (.ireturn, 1) := by decide +kernel
set_option maxRecDepth 20000 in
theorem ggX9_init_X3_init : GoodIn wsX9_init wsX3_init := goodIn_r _ [18, 19, 2, 3, 20, 21, 22, 23, 24, 25, 26, 27, 28, 29, 30, 31, 32, 33, 34, 35, 36, 37, 38, 39, 40, 41, 42, 43, 44, 45, 46, 47, 48, 49, 50, 51, 52, 53, 54, 55, 13, 14, 56, 57, 58, 59, 60, 61, 62, 63, 64, 65, 66, 67, 68, 69, 70, 71, 86, 87, 88, 89, 106, 107, 108, 109, 110, 111, 112, 113, 114, 115, 116, 117, 118, 119, 120, 121, 122, 123, 124, 125, 126, 127, 128, 99, 100, 101, 102, 103, 104, 105] (by decide +kernel) (by decide +kernel)
set_option maxRecDepth 20000 in
theorem gX9_init_X3_init : GoodIn wsX9_init (wsX3_init) := ggX9_init_X3_init
set_option maxRecDepth 20000 in
theorem ggX9_init_X6_init : GoodIn wsX9_init wsX6_init := goodIn_r _ [73, 74, 2, 3, 75, 76, 77, 78, 79, 80, 81, 82, 83, 84, 85, 93, 94, 95, 96, 97, 98, 129, 130, 131, 132] (by decide +kernel) (by decide +kernel)
set_option maxRecDepth 20000 in
theorem gX9_init_X6_init_n18 : GoodIn wsX9_init (wsX6_init) := ggX9_init_X6_init
set_option maxRecDepth 20000 in
theorem ggX9_init_X5_init : GoodIn wsX9_init wsX5_init := goodIn_r _ [70, 71, 2, 3] (by decide +kernel) (by decide +kernel)
set_option maxRecDepth 20000 in
theorem gX9_init_X5_init_n25 : GoodIn wsX9_init (wsX5_init) := ggX9_init_X5_init
theorem dX9_init_0 : decode cX9_init 0 = .ok (.aload_n 0, 1) := by decide +kernel
theorem dX9_init_1 : decode cX9_init 1 = .ok (.invokespecial 1, 3) := by decide +kernel
theorem dX9_init_4 : decode cX9_init 4 = .ok (.aload_n 0, 1) := by decide +kernel
theorem dX9_init_5 : decode cX9_init 5 = .ok (.new 7, 3) := by decide +kernel
theorem dX9_init_8 : decode cX9_init 8 = .ok (.dup, 1) := by decide +kernel
theorem dX9_init_9 : decode cX9_init 9 = .ok (.invokespecial 9, 3) := by decide +kernel
theorem dX9_init_12 : decode cX9_init 12 = .ok (.putfield 10, 3) := by decide +kernel
theorem dX9_init_15 : decode cX9_init 15 = .ok (.aload_n 0, 1) := by decide +kernel
theorem dX9_init_16 : decode cX9_init 16 = .ok (.new 16, 3) := by decide +kernel
theorem dX9_init_19 : decode cX9_init 19 = .ok (.dup, 1) := by decide +kernel
theorem dX9_init_20 : decode cX9_init 20 = .ok (.invokespecial 18, 3) := by decide +kernel
theorem dX9_init_23 : decode cX9_init 23 = .ok (.putfield 19, 3) := by decide +kernel
theorem dX9_init_26 : decode cX9_init 26 = .ok (.aload_n 0, 1) := by decide +kernel
theorem dX9_init_27 : decode cX9_init 27 = .ok (.new 23, 3) := by decide +kernel
theorem dX9_init_30 : decode cX9_init 30 = .ok (.dup, 1) := by decide +kernel
theorem dX9_init_31 : decode cX9_init 31 = .ok (.invokespecial 25, 3) := by decide +kernel
theorem dX9_init_34 : decode cX9_init 34 = .ok (.putfield 26, 3) := by decide +kernel
theorem dX9_init_37 : decode cX9_init 37 = .ok (.return_, 1) := by decide +kernel
set_option maxRecDepth 20000 in
theorem ggX9_setKind_X3_prepare : GoodIn wsX9_setKind wsX3_prepare := goodIn_r _ [6, 7, 8, 9, 10, 11, 12, 13, 14, 15, 16, 17, 18, 19, 20, 21, 22, 23, 24, 25, 26, 27, 28, 29, 30, 31, 32, 33, 34, 35, 36, 37, 38, 39, 40, 41, 42, 43, 44, 45, 46, 47, 48, 49, 50, 51, 52, 53, 54, 55, 56, 57, 58, 59, 60, 61, 62, 63, 64, 65, 66, 67, 68, 111, 112, 113, 114, 115, 116, 117, 118, 119, 120, 121, 122, 123, 124, 125, 126, 127, 128, 129, 130, 131, 132, 133, 134, 135, 136, 137, 138, 139, 140, 141, 142, 143, 144] (by decide +kernel) (by decide +kernel)
set_option maxRecDepth 20000 in
theorem gX9_setKind_X3_prepare : GoodIn wsX9_setKind (wsV RX9 30 RX3 yX3_prepare wsX3_prepare) := goodIn_app (goodIn_of _ (by decide +kernel)) ggX9_setKind_X3_prepare
end
section
set_option maxRecDepth 20000 in
theorem ggX9_setKind_X9_counter : GoodIn wsX9_setKind wsX9_counter := goodIn_r _ [73, 1, 74, 75, 108, 109, 110, 111, 112, 113, 114, 115, 116, 117] (by decide +kernel) (by decide +kernel)
set_option maxRecDepth 20000 in
theorem gX9_setKind_X9_counter : GoodIn wsX9_setKind (wsV RX9 33 RX9 yX9_counter wsX9_counter) := goodIn_app (goodIn_of _ (by decide +kernel)) ggX9_setKind_X9_counter
set_option maxRecDepth 20000 in
theorem ggX9_setKind_X0_changeKind : GoodIn wsX9_setKind wsX0_changeKind := goodIn_r _ [79, 80, 81, 82, 83, 84, 85, 20, 86, 22, 87, 72, 88, 127, 128, 118, 119, 120, 121, 122, 123, 124, 125, 126] (by decide +kernel) (by decide +kernel)
set_option maxRecDepth 20000 in
theorem gX9_setKind_X0_changeKind : GoodIn wsX9_setKind (wsV RX9 37 RX0 yX0_changeKind wsX0_changeKind) := goodIn_app (goodIn_of _ (by decide +kernel)) ggX9_setKind_X0_changeKind
set_option maxRecDepth 20000 in
theorem ggX9_setKind_X3_settle : GoodIn wsX9_setKind wsX3_settle := goodIn_r _ [92, 93, 72, 94, 95, 96, 97, 98, 99, 100, 5, 101, 102, 103, 7, 104, 105, 106, 107, 87, 88, 111, 112, 113, 114] (by decide +kernel) (by decide +kernel)
set_option maxRecDepth 20000 in
theorem gX9_setKind_X3_settle : GoodIn wsX9_setKind (wsV RX9 43 RX3 yX3_settle wsX3_settle) := goodIn_app (goodIn_of _ (by decide +kernel)) ggX9_setKind_X3_settle
theorem dX9_setKind_0 : decode cX9_setKind 0 = .ok (.aload_n 0, 1) := by decide +kernel
theorem dX9_setKind_1 : decode cX9_setKind 1 = .ok (.getfield 10, 3) := by decide +kernel
theorem dX9_setKind_4 : decode cX9_setKind 4 = .ok (.invokevirtual 30, 3) := by decide +kernel
theorem dX9_setKind_7 : decode cX9_setKind 7 = .ok (.aload_n 0, 1) := by decide +kernel
theorem dX9_setKind_8 : decode cX9_setKind 8 = .ok (.getfield 10, 3) := by decide +kernel
theorem dX9_setKind_11 : decode cX9_setKind 11 = .ok (.aload_n 0, 1) := by decide +kernel
theorem dX9_setKind_12 : decode cX9_setKind 12 = .ok (.invokevirtual 33, 3) := by decide +kernel
theorem dX9_setKind_15 : decode cX9_setKind 15 = .ok (.iload_n 1, 1) := by decide +kernel
theorem dX9_setKind_16 : decode cX9_setKind 16 = .ok (.iload_n 2, 1) := by decide +kernel
theorem dX9_setKind_17 : decode cX9_setKind 17 = .ok (.iload_n 3, 1) := by decide +kernel
theorem dX9_setKind_18 : decode cX9_setKind 18 = .ok (.invokevirtual 37, 3) := by decide +kernel
theorem dX9_setKind_21 : decode cX9_setKind 21 = .ok (.invokevirtual 43, 3) := by decide +kernel
theorem dX9_setKind_24 : decode cX9_setKind 24 = .ok (.ireturn, 1) := by decide +kernel
set_option maxRecDepth 20000 in
theorem ggX9_setScale_X3_prepare : GoodIn wsX9_setScale wsX3_prepare := goodIn_r _ [6, 7, 8, 9, 10, 11, 12, 13, 14, 15, 16, 17, 18, 19, 20, 21, 22, 23, 24, 25, 26, 27, 28, 29, 30, 31, 32, 33, 34, 35, 36, 37, 38, 39, 40, 41, 42, 43, 44, 45, 46, 47, 48, 49, 50, 51, 52, 53, 54, 55, 56, 57, 58, 59, 60, 61, 62, 63, 64, 65, 66, 67, 68, 115, 116, 117, 118, 119, 120, 121, 122, 123, 124, 125, 126, 127, 128, 129, 130, 131, 132, 133, 134, 135, 136, 137, 138, 139, 140, 141, 142, 143, 144, 145, 146, 147, 148] (by decide +kernel) (by decide +kernel)
set_option maxRecDepth 20000 in
theorem gX9_setScale_X3_prepare : GoodIn wsX9_setScale (wsV RX9 30 RX3 yX3_prepare wsX3_prepare) := goodIn_app (goodIn_of _ (by decide +kernel)) ggX9_setScale_X3_prepare
set_option maxRecDepth 20000 in
theorem ggX9_setScale_X9_counter : GoodIn wsX9_setScale wsX9_counter := goodIn_r _ [73, 1, 74, 75, 112, 113, 114, 115, 116, 117, 118, 119, 120, 121] (by decide +kernel) (by decide +kernel)
set_option maxRecDepth 20000 in
theorem gX9_setScale_X9_counter : GoodIn wsX9_setScale (wsV RX9 33 RX9 yX9_counter wsX9_counter) := goodIn_app (goodIn_of _ (by decide +kernel)) ggX9_setScale_X9_counter
set_option maxRecDepth 20000 in
theorem ggX9_setScale_X0_changeScale : GoodIn wsX9_setScale wsX0_changeScale := goodIn_r _ [79, 80, 25, 81, 82, 83, 84, 85, 86, 87, 88, 89, 90, 91, 72, 92, 122, 123, 124, 125, 126, 127, 128, 129, 130, 146, 147, 148] (by decide +kernel) (by decide +kernel)
set_option maxRecDepth 20000 in
theorem gX9_setScale_X0_changeScale : GoodIn wsX9_setScale (wsV RX9 47 RX0 yX0_changeScale wsX0_changeScale) := goodIn_app (goodIn_of _ (by decide +kernel)) ggX9_setScale_X0_changeScale
set_option maxRecDepth 20000 in
theorem ggX9_setScale_X3_settle : GoodIn wsX9_setScale wsX3_settle := goodIn_r _ [96, 97, 72, 98, 99, 100, 101, 102, 103, 104, 5, 105, 106, 107, 7, 108, 109, 110, 111, 91, 92, 115, 116, 117, 118] (by decide +kernel) (by decide +kernel)
set_option maxRecDepth 20000 in
theorem gX9_setScale_X3_settle : GoodIn wsX9_setScale (wsV RX9 43 RX3 yX3_settle wsX3_settle) := goodIn_app (goodIn_of _ (by decide +kernel)) ggX9_setScale_X3_settle
theorem dX9_setScale_0 : decode cX9_setScale 0 = .ok (.aload_n 0, 1) := by decide +kernel
theorem dX9_setScale_1 : decode cX9_setScale 1 = .ok (.getfield 10, 3) := by decide +kernel
theorem dX9_setScale_4 : decode cX9_setScale 4 = .ok (.invokevirtual 30, 3) := by decide +kernel
theorem dX9_setScale_7 : decode cX9_setScale 7 = .ok (.aload_n 0, 1) := by decide +kernel
theorem dX9_setScale_8 : decode cX9_setScale 8 = .ok (.getfield 10, 3) := by decide +kernel
theorem dX9_setScale_11 : decode cX9_setScale 11 = .ok (.aload_n 0, 1) := by decide +kernel
theorem dX9_setScale_12 : decode cX9_setScale 12 = .ok (.invokevirtual 33, 3) := by decide +kernel
theorem dX9_setScale_15 : decode cX9_setScale 15 = .ok (.iload_n 1, 1) := by decide +kernel
theorem dX9_setScale_16 : decode cX9_setScale 16 = .ok (.iload_n 2, 1) := by decide +kernel
theorem dX9_setScale_17 : decode cX9_setScale 17 = .ok (.invokevirtual 47, 3) := by decide +kernel
theorem dX9_setScale_20 : decode cX9_setScale 20 = .ok (.invokevirtual 43, 3) := by decide +kernel
theorem dX9_setScale_23 : decode cX9_setScale 23 = .ok (.ireturn, 1) := by decide +kernel
set_option maxRecDepth 20000 in
theorem ggX9_setBias_X3_prepare : GoodIn wsX9_setBias wsX3_prepare := goodIn_r _ [6, 7, 8, 9, 10, 11, 12, 13, 14, 15, 16, 17, 18, 19, 20, 21, 22, 23, 24, 25, 26, 27, 28, 29, 30, 31, 32, 33, 34, 35, 36, 37, 38, 39, 40, 41, 42, 43, 44, 45, 46, 47, 48, 49, 50, 51, 52, 53, 54, 55, 56, 57, 58, 59, 60, 61, 62, 63, 64, 65, 66, 67, 68, 107, 108, 109, 110, 111, 112, 113, 114, 115, 116, 117, 118, 119, 120, 121, 122, 123, 124, 125, 126, 127, 128, 129, 130, 131, 132, 133, 134, 135, 136, 137, 138, 139, 140] (by decide +kernel) (by decide +kernel)
set_option maxRecDepth 20000 in
theorem gX9_setBias_X3_prepare : GoodIn wsX9_setBias (wsV RX9 30 RX3 yX3_prepare wsX3_prepare) := goodIn_app (goodIn_of _ (by decide +kernel)) ggX9_setBias_X3_prepare
set_option maxRecDepth 20000 in
theorem ggX9_setBias_X9_counter : GoodIn wsX9_setBias wsX9_counter := goodIn_r _ [73, 1, 74, 75, 104, 105, 106, 107, 108, 109, 110, 111, 112, 113] (by decide +kernel) (by decide +kernel)
set_option maxRecDepth 20000 in
theorem gX9_setBias_X9_counter : GoodIn wsX9_setBias (wsV RX9 33 RX9 yX9_counter wsX9_counter) := goodIn_app (goodIn_of _ (by decide +kernel)) ggX9_setBias_X9_counter
set_option maxRecDepth 20000 in
theorem ggX9_setBias_X0_changeBias : GoodIn wsX9_setBias wsX0_changeBias := goodIn_r _ [79, 25, 80, 81, 82, 83, 72, 84, 114, 115, 116, 117, 118, 119, 120, 121, 122, 138, 139, 140] (by decide +kernel) (by decide +kernel)
set_option maxRecDepth 20000 in
theorem gX9_setBias_X0_changeBias : GoodIn wsX9_setBias (wsV RX9 51 RX0 yX0_changeBias wsX0_changeBias) := goodIn_app (goodIn_of _ (by decide +kernel)) ggX9_setBias_X0_changeBias
set_option maxRecDepth 20000 in
theorem ggX9_setBias_X3_settle : GoodIn wsX9_setBias wsX3_settle := goodIn_r _ [88, 89, 72, 90, 91, 92, 93, 94, 95, 96, 5, 97, 98, 99, 7, 100, 101, 102, 103, 83, 84, 107, 108, 109, 110] (by decide +kernel) (by decide +kernel)
set_option maxRecDepth 20000 in
theorem gX9_setBias_X3_settle : GoodIn wsX9_setBias (wsV RX9 43 RX3 yX3_settle wsX3_settle) := goodIn_app (goodIn_of _ (by decide +kernel)) ggX9_setBias_X3_settle
theorem dX9_setBias_0 : decode cX9_setBias 0 = .ok (.aload_n 0, 1) := by decide +kernel
theorem dX9_setBias_1 : decode cX9_setBias 1 = .ok (.getfield 10, 3) := by decide +kernel
theorem dX9_setBias_4 : decode cX9_setBias 4 = .ok (.invokevirtual 30, 3) := by decide +kernel
theorem dX9_setBias_7 : decode cX9_setBias 7 = .ok (.aload_n 0, 1) := by decide +kernel
theorem dX9_setBias_8 : decode cX9_setBias 8 = .ok (.getfield 10, 3) := by decide +kernel
theorem dX9_setBias_11 : decode cX9_setBias 11 = .ok (.aload_n 0, 1) := by decide +kernel
theorem dX9_setBias_12 : decode cX9_setBias 12 = .ok (.invokevirtual 33, 3) := by decide +kernel
theorem dX9_setBias_15 : decode cX9_setBias 15 = .ok (.iload_n 1, 1) := by decide +kernel
theorem dX9_setBias_16 : decode cX9_setBias 16 = .ok (.invokevirtual 51, 3) := by decide +kernel
theorem dX9_setBias_19 : decode cX9_setBias 19 = .ok (.invokevirtual 43, 3) := by decide +kernel
theorem dX9_setBias_22 : decode cX9_setBias 22 = .ok (.ireturn, 1) := by decide +kernel
set_option maxRecDepth 20000 in
theorem ggX9_setRule_X3_prepare : GoodIn wsX9_setRule wsX3_prepare := goodIn_r _ [6, 7, 8, 9, 10, 11, 12, 13, 14, 15, 16, 17, 18, 19, 20, 21, 22, 23, 24, 25, 26, 27, 28, 29, 30, 31, 32, 33, 34, 35, 36, 37, 38, 39, 40, 41, 42, 43, 44, 45, 46, 47, 48, 49, 50, 51, 52, 53, 54, 55, 56, 57, 58, 59, 60, 61, 62, 63, 64, 65, 66, 67, 68, 105, 106, 107, 108, 109, 110, 111, 112, 113, 114, 115, 116, 117, 118, 119, 120, 121, 122, 123, 124, 125, 126, 127, 128, 129, 130, 131, 132, 133, 134, 135, 136, 137, 138] (by decide +kernel) (by decide +kernel)
set_option maxRecDepth 20000 in
theorem gX9_setRule_X3_prepare : GoodIn wsX9_setRule (wsV RX9 30 RX3 yX3_prepare wsX3_prepare) := goodIn_app (goodIn_of _ (by decide +kernel)) ggX9_setRule_X3_prepare
set_option maxRecDepth 20000 in
theorem ggX9_setRule_X9_counter : GoodIn wsX9_setRule wsX9_counter := goodIn_r _ [73, 1, 74, 75, 102, 103, 104, 105, 106, 107, 108, 109, 110, 111] (by decide +kernel) (by decide +kernel)
set_option maxRecDepth 20000 in
theorem gX9_setRule_X9_counter : GoodIn wsX9_setRule (wsV RX9 33 RX9 yX9_counter wsX9_counter) := goodIn_app (goodIn_of _ (by decide +kernel)) ggX9_setRule_X9_counter
set_option maxRecDepth 20000 in
theorem ggX9_setRule_X0_changeRule : GoodIn wsX9_setRule wsX0_changeRule := goodIn_r _ [79, 80, 28, 81, 72, 82, 112, 113, 114, 115, 116, 117, 118, 119, 120] (by decide +kernel) (by decide +kernel)
set_option maxRecDepth 20000 in
theorem gX9_setRule_X0_changeRule : GoodIn wsX9_setRule (wsV RX9 54 RX0 yX0_changeRule wsX0_changeRule) := goodIn_app (goodIn_of _ (by decide +kernel)) ggX9_setRule_X0_changeRule
set_option maxRecDepth 20000 in
theorem ggX9_setRule_X3_settle : GoodIn wsX9_setRule wsX3_settle := goodIn_r _ [86, 87, 72, 88, 89, 90, 91, 92, 93, 94, 5, 95, 96, 97, 7, 98, 99, 100, 101, 81, 82, 105, 106, 107, 108] (by decide +kernel) (by decide +kernel)
set_option maxRecDepth 20000 in
theorem gX9_setRule_X3_settle : GoodIn wsX9_setRule (wsV RX9 43 RX3 yX3_settle wsX3_settle) := goodIn_app (goodIn_of _ (by decide +kernel)) ggX9_setRule_X3_settle
theorem dX9_setRule_0 : decode cX9_setRule 0 = .ok (.aload_n 0, 1) := by decide +kernel
theorem dX9_setRule_1 : decode cX9_setRule 1 = .ok (.getfield 10, 3) := by decide +kernel
theorem dX9_setRule_4 : decode cX9_setRule 4 = .ok (.invokevirtual 30, 3) := by decide +kernel
theorem dX9_setRule_7 : decode cX9_setRule 7 = .ok (.aload_n 0, 1) := by decide +kernel
theorem dX9_setRule_8 : decode cX9_setRule 8 = .ok (.getfield 10, 3) := by decide +kernel
theorem dX9_setRule_11 : decode cX9_setRule 11 = .ok (.aload_n 0, 1) := by decide +kernel
theorem dX9_setRule_12 : decode cX9_setRule 12 = .ok (.invokevirtual 33, 3) := by decide +kernel
theorem dX9_setRule_15 : decode cX9_setRule 15 = .ok (.iload_n 1, 1) := by decide +kernel
theorem dX9_setRule_16 : decode cX9_setRule 16 = .ok (.invokevirtual 54, 3) := by decide +kernel
theorem dX9_setRule_19 : decode cX9_setRule 19 = .ok (.invokevirtual 43, 3) := by decide +kernel
theorem dX9_setRule_22 : decode cX9_setRule 22 = .ok (.ireturn, 1) := by decide +kernel
set_option maxRecDepth 20000 in
theorem ggX9_come_X3_prepare : GoodIn wsX9_come wsX3_prepare := goodIn_r _ [6, 7, 8, 9, 10, 11, 12, 13, 14, 15, 16, 17, 18, 19, 20, 21, 22, 23, 24, 25, 26, 27, 28, 29, 30, 31, 32, 33, 34, 35, 36, 37, 38, 39, 40, 41, 42, 43, 44, 45, 46, 47, 48, 49, 50, 51, 52, 53, 54, 55, 56, 57, 58, 59, 60, 61, 62, 63, 64, 65, 66, 67, 68, 110, 111, 112, 113, 114, 115, 116, 117, 118, 119, 120, 121, 122, 123, 124, 125, 126, 127, 128, 129, 130, 131, 132, 133, 134, 135, 136, 137, 138, 139, 140, 141, 142, 143] (by decide +kernel) (by decide +kernel)
set_option maxRecDepth 20000 in
theorem gX9_come_X3_prepare : GoodIn wsX9_come (wsV RX9 30 RX3 yX3_prepare wsX3_prepare) := goodIn_app (goodIn_of _ (by decide +kernel)) ggX9_come_X3_prepare
set_option maxRecDepth 20000 in
theorem ggX9_come_X9_counter : GoodIn wsX9_come wsX9_counter := goodIn_r _ [73, 1, 74, 75, 107, 108, 109, 110, 111, 112, 113, 114, 115, 116] (by decide +kernel) (by decide +kernel)
set_option maxRecDepth 20000 in
theorem gX9_come_X9_counter : GoodIn wsX9_come (wsV RX9 33 RX9 yX9_counter wsX9_counter) := goodIn_app (goodIn_of _ (by decide +kernel)) ggX9_come_X9_counter
set_option maxRecDepth 20000 in
theorem ggX9_come_X0_addCustomer : GoodIn wsX9_come wsX0_addCustomer := goodIn_r _ [79, 80, 26, 81, 23, 82, 72, 83, 84, 85, 86, 41, 87, 43, 44, 117, 118, 119, 120, 121, 122, 123, 124, 125, 128, 129, 130, 131, 132, 133] (by decide +kernel) (by decide +kernel)
set_option maxRecDepth 20000 in
theorem gX9_come_X0_addCustomer : GoodIn wsX9_come (wsV RX9 60 RX0 yX0_addCustomer wsX0_addCustomer) := goodIn_app (goodIn_of _ (by decide +kernel)) ggX9_come_X0_addCustomer
set_option maxRecDepth 20000 in
theorem ggX9_come_X3_settle : GoodIn wsX9_come wsX3_settle := goodIn_r _ [91, 92, 72, 93, 94, 95, 96, 97, 98, 99, 5, 100, 101, 102, 7, 103, 104, 105, 106, 82, 83, 110, 111, 112, 113] (by decide +kernel) (by decide +kernel)
set_option maxRecDepth 20000 in
theorem gX9_come_X3_settle : GoodIn wsX9_come (wsV RX9 43 RX3 yX3_settle wsX3_settle) := goodIn_app (goodIn_of _ (by decide +kernel)) ggX9_come_X3_settle
theorem dX9_come_0 : decode cX9_come 0 = .ok (.aload_n 0, 1) := by decide +kernel
theorem dX9_come_1 : decode cX9_come 1 = .ok (.getfield 10, 3) := by decide +kernel
theorem dX9_come_4 : decode cX9_come 4 = .ok (.invokevirtual 30, 3) := by decide +kernel
theorem dX9_come_7 : decode cX9_come 7 = .ok (.aload_n 0, 1) := by decide +kernel
theorem dX9_come_8 : decode cX9_come 8 = .ok (.getfield 10, 3) := by decide +kernel
theorem dX9_come_11 : decode cX9_come 11 = .ok (.aload_n 0, 1) := by decide +kernel
theorem dX9_come_12 : decode cX9_come 12 = .ok (.invokevirtual 33, 3) := by decide +kernel
theorem dX9_come_15 : decode cX9_come 15 = .ok (.iload_n 1, 1) := by decide +kernel
theorem dX9_come_16 : decode cX9_come 16 = .ok (.invokevirtual 60, 3) := by decide +kernel
theorem dX9_come_19 : decode cX9_come 19 = .ok (.invokevirtual 43, 3) := by decide +kernel
theorem dX9_come_22 : decode cX9_come 22 = .ok (.ireturn, 1) := by decide +kernel
set_option maxRecDepth 20000 in
theorem ggX9_leave_X3_prepare : GoodIn wsX9_leave wsX3_prepare := goodIn_r _ [6, 7, 8, 9, 10, 11, 12, 13, 14, 15, 16, 17, 18, 19, 20, 21, 22, 23, 24, 25, 26, 27, 28, 29, 30, 31, 32, 33, 34, 35, 36, 37, 38, 39, 40, 41, 42, 43, 44, 45, 46, 47, 48, 49, 50, 51, 52, 53, 54, 55, 56, 57, 58, 59, 60, 61, 62, 63, 64, 65, 66, 67, 68, 114, 115, 116, 117, 118, 119, 120, 121, 122, 123, 124, 125, 126, 127, 128, 129, 130, 131, 132, 133, 134, 135, 136, 137, 138, 139, 140, 141, 142, 143, 144, 145, 146, 147] (by decide +kernel) (by decide +kernel)
set_option maxRecDepth 20000 in
theorem gX9_leave_X3_prepare : GoodIn wsX9_leave (wsV RX9 30 RX3 yX3_prepare wsX3_prepare) := goodIn_app (goodIn_of _ (by decide +kernel)) ggX9_leave_X3_prepare
set_option maxRecDepth 20000 in
theorem ggX9_leave_X9_counter : GoodIn wsX9_leave wsX9_counter := goodIn_r _ [73, 1, 74, 75, 111, 112, 113, 114, 115, 116, 117, 118, 119, 120] (by decide +kernel) (by decide +kernel)
set_option maxRecDepth 20000 in
theorem gX9_leave_X9_counter : GoodIn wsX9_leave (wsV RX9 33 RX9 yX9_counter wsX9_counter) := goodIn_app (goodIn_of _ (by decide +kernel)) ggX9_leave_X9_counter
set_option maxRecDepth 20000 in
theorem ggX9_leave_X0_dropCustomer : GoodIn wsX9_leave wsX0_dropCustomer := goodIn_r _ [79, 80, 81, 23, 26, 82, 83, 84, 20, 85, 86, 72, 87, 88, 89, 90, 41, 91, 43, 44, 132, 133, 134, 135, 136, 137, 121, 122, 123, 124, 125, 126, 127, 128, 129] (by decide +kernel) (by decide +kernel)
set_option maxRecDepth 20000 in
theorem gX9_leave_X0_dropCustomer : GoodIn wsX9_leave (wsV RX9 63 RX0 yX0_dropCustomer wsX0_dropCustomer) := goodIn_app (goodIn_of _ (by decide +kernel)) ggX9_leave_X0_dropCustomer
set_option maxRecDepth 20000 in
theorem ggX9_leave_X3_settle : GoodIn wsX9_leave wsX3_settle := goodIn_r _ [95, 96, 72, 97, 98, 99, 100, 101, 102, 103, 5, 104, 105, 106, 7, 107, 108, 109, 110, 86, 87, 114, 115, 116, 117] (by decide +kernel) (by decide +kernel)
set_option maxRecDepth 20000 in
theorem gX9_leave_X3_settle : GoodIn wsX9_leave (wsV RX9 43 RX3 yX3_settle wsX3_settle) := goodIn_app (goodIn_of _ (by decide +kernel)) ggX9_leave_X3_settle
theorem dX9_leave_0 : decode cX9_leave 0 = .ok (.aload_n 0, 1) := by decide +kernel
theorem dX9_leave_1 : decode cX9_leave 1 = .ok (.getfield 10, 3) := by decide +kernel
theorem dX9_leave_4 : decode cX9_leave 4 = .ok (.invokevirtual 30, 3) := by decide +kernel
theorem dX9_leave_7 : decode cX9_leave 7 = .ok (.aload_n 0, 1) := by decide +kernel
theorem dX9_leave_8 : decode cX9_leave 8 = .ok (.getfield 10, 3) := by decide +kernel
theorem dX9_leave_11 : decode cX9_leave 11 = .ok (.aload_n 0, 1) := by decide +kernel
theorem dX9_leave_12 : decode cX9_leave 12 = .ok (.invokevirtual 33, 3) := by decide +kernel
theorem dX9_leave_15 : decode cX9_leave 15 = .ok (.iload_n 1, 1) := by decide +kernel
theorem dX9_leave_16 : decode cX9_leave 16 = .ok (.invokevirtual 63, 3) := by decide +kernel
theorem dX9_leave_19 : decode cX9_leave 19 = .ok (.invokevirtual 43, 3) := by decide +kernel
theorem dX9_leave_22 : decode cX9_leave 22 = .ok (.ireturn, 1) := by decide +kernel
set_option maxRecDepth 20000 in
theorem ggX9_weigh_X3_prepare : GoodIn wsX9_weigh wsX3_prepare := goodIn_r _ [6, 7, 8, 9, 10, 11, 12, 13, 14, 15, 16, 17, 18, 19, 20, 21, 22, 23, 24, 25, 26, 27, 28, 29, 30, 31, 32, 33, 34, 35, 36, 37, 38, 39, 40, 41, 42, 43, 44, 45, 46, 47, 48, 49, 50, 51, 52, 53, 54, 55, 56, 57, 58, 59, 60, 61, 62, 63, 64, 65, 66, 67, 68, 181, 182, 183, 184, 185, 186, 187, 188, 189, 190, 191, 192, 193, 194, 195, 196, 197, 198, 199, 200, 201, 202, 203, 204, 205, 206, 207, 208, 209, 210, 211, 212, 213, 214] (by decide +kernel) (by decide +kernel)
set_option maxRecDepth 20000 in
theorem gX9_weigh_X3_prepare : GoodIn wsX9_weigh (wsV RX9 30 RX3 yX3_prepare wsX3_prepare) := goodIn_app (goodIn_of _ (by decide +kernel)) ggX9_weigh_X3_prepare
set_option maxRecDepth 20000 in
theorem ggX9_weigh_X9_counter : GoodIn wsX9_weigh wsX9_counter := goodIn_r _ [73, 1, 74, 75, 178, 179, 180, 181, 182, 183, 184, 185, 186, 187] (by decide +kernel) (by decide +kernel)
set_option maxRecDepth 20000 in
theorem gX9_weigh_X9_counter : GoodIn wsX9_weigh (wsV RX9 33 RX9 yX9_counter wsX9_counter) := goodIn_app (goodIn_of _ (by decide +kernel)) ggX9_weigh_X9_counter
set_option maxRecDepth 20000 in
theorem ggX9_weigh_X0_weighBundle : GoodIn wsX9_weigh wsX0_weighBundle := goodIn_r _ [79, 80, 81, 25, 82, 83, 84, 28, 30, 85, 86, 87, 20, 88, 26, 23, 89, 72, 90, 91, 92, 93, 94, 22, 95, 96, 97, 98, 99, 100, 101, 102, 103, 104, 105, 106, 107, 108, 109, 110, 64, 111, 112, 113, 114, 115, 116, 117, 118, 119, 120, 121, 67, 122, 123, 124, 34, 125, 36, 37, 126, 127, 128, 129, 66, 130, 131, 132, 133, 134, 135, 136, 137, 138, 139, 140, 141, 142, 143, 144, 145, 146, 147, 148, 149, 150, 151, 152, 41, 153, 43, 154, 155, 156, 157, 158, 44, 45, 46, 47, 48, 197, 198, 188, 189, 190, 191, 192, 193, 194, 195, 196, 212, 213, 214, 199, 200, 201, 202, 203, 204] (by decide +kernel) (by decide +kernel)
set_option maxRecDepth 20000 in
theorem gX9_weigh_X0_weighBundle : GoodIn wsX9_weigh (wsV RX9 66 RX0 yX0_weighBundle wsX0_weighBundle) := goodIn_app (goodIn_of _ (by decide +kernel)) ggX9_weigh_X0_weighBundle
set_option maxRecDepth 20000 in
theorem ggX9_weigh_X3_settle : GoodIn wsX9_weigh wsX3_settle := goodIn_r _ [162, 163, 72, 164, 165, 166, 167, 168, 169, 170, 5, 171, 172, 173, 7, 174, 175, 176, 177, 89, 90, 181, 182, 183, 184] (by decide +kernel) (by decide +kernel)
set_option maxRecDepth 20000 in
theorem gX9_weigh_X3_settle : GoodIn wsX9_weigh (wsV RX9 43 RX3 yX3_settle wsX3_settle) := goodIn_app (goodIn_of _ (by decide +kernel)) ggX9_weigh_X3_settle
theorem dX9_weigh_0 : decode cX9_weigh 0 = .ok (.aload_n 0, 1) := by decide +kernel
theorem dX9_weigh_1 : decode cX9_weigh 1 = .ok (.getfield 10, 3) := by decide +kernel
theorem dX9_weigh_4 : decode cX9_weigh 4 = .ok (.invokevirtual 30, 3) := by decide +kernel
theorem dX9_weigh_7 : decode cX9_weigh 7 = .ok (.aload_n 0, 1) := by decide +kernel
theorem dX9_weigh_8 : decode cX9_weigh 8 = .ok (.getfield 10, 3) := by decide +kernel
theorem dX9_weigh_11 : decode cX9_weigh 11 = .ok (.aload_n 0, 1) := by decide +kernel
theorem dX9_weigh_12 : decode cX9_weigh 12 = .ok (.invokevirtual 33, 3) := by decide +kernel
theorem dX9_weigh_15 : decode cX9_weigh 15 = .ok (.iload_n 1, 1) := by decide +kernel
theorem dX9_weigh_16 : decode cX9_weigh 16 = .ok (.iload_n 2, 1) := by decide +kernel
theorem dX9_weigh_17 : decode cX9_weigh 17 = .ok (.iload_n 3, 1) := by decide +kernel
theorem dX9_weigh_18 : decode cX9_weigh 18 = .ok (.iload 4, 2) := by decide +kernel
theorem dX9_weigh_20 : decode cX9_weigh 20 = .ok (.invokevirtual 66, 3) := by decide +kernel
theorem dX9_weigh_23 : decode cX9_weigh 23 = .ok (.invokevirtual 43, 3) := by decide +kernel
theorem dX9_weigh_26 : decode cX9_weigh 26 = .ok (.ireturn, 1) := by decide +kernel
set_option maxRecDepth 20000 in
theorem ggX9_claim_X3_prepare : GoodIn wsX9_claim wsX3_prepare := goodIn_r _ [6, 7, 8, 9, 10, 11, 12, 13, 14, 15, 16, 17, 18, 19, 20, 21, 22, 23, 24, 25, 26, 27, 28, 29, 30, 31, 32, 33, 34, 35, 36, 37, 38, 39, 40, 41, 42, 43, 44, 45, 46, 47, 48, 49, 50, 51, 52, 53, 54, 55, 56, 57, 58, 59, 60, 61, 62, 63, 64, 65, 66, 67, 68, 173, 174, 175, 176, 177, 178, 179, 180, 181, 182, 183, 184, 185, 186, 187, 188, 189, 190, 191, 192, 193, 194, 195, 196, 197, 198, 199, 200, 201, 202, 203, 204, 205, 206] (by decide +kernel) (by decide +kernel)
set_option maxRecDepth 20000 in
theorem gX9_claim_X3_prepare : GoodIn wsX9_claim (wsV RX9 30 RX3 yX3_prepare wsX3_prepare) := goodIn_app (goodIn_of _ (by decide +kernel)) ggX9_claim_X3_prepare
set_option maxRecDepth 20000 in
theorem ggX9_claim_X9_counter : GoodIn wsX9_claim wsX9_counter := goodIn_r _ [73, 1, 74, 75, 170, 171, 172, 173, 174, 175, 176, 177, 178, 179] (by decide +kernel) (by decide +kernel)
set_option maxRecDepth 20000 in
theorem gX9_claim_X9_counter : GoodIn wsX9_claim (wsV RX9 33 RX9 yX9_counter wsX9_counter) := goodIn_app (goodIn_of _ (by decide +kernel)) ggX9_claim_X9_counter
set_option maxRecDepth 20000 in
theorem ggX9_claim_X0_settleClaim : GoodIn wsX9_claim wsX0_settleClaim := goodIn_r _ [79, 80, 81, 82, 83, 84, 85, 86, 30, 29, 87, 88, 89, 20, 90, 26, 23, 91, 72, 92, 93, 94, 95, 96, 22, 97, 98, 99, 100, 25, 101, 102, 103, 64, 104, 67, 105, 106, 107, 108, 109, 110, 111, 34, 112, 36, 37, 113, 114, 115, 116, 66, 117, 118, 119, 120, 121, 122, 123, 124, 125, 126, 127, 128, 129, 130, 131, 132, 133, 134, 135, 136, 137, 138, 139, 140, 141, 41, 142, 43, 143, 144, 145, 146, 147, 46, 148, 149, 150, 48, 191, 192, 193, 194, 195, 196, 180, 181, 182, 183, 184, 185, 186, 187, 188, 204, 205, 206, 189, 190] (by decide +kernel) (by decide +kernel)
set_option maxRecDepth 20000 in
theorem gX9_claim_X0_settleClaim : GoodIn wsX9_claim (wsV RX9 70 RX0 yX0_settleClaim wsX0_settleClaim) := goodIn_app (goodIn_of _ (by decide +kernel)) ggX9_claim_X0_settleClaim
set_option maxRecDepth 20000 in
theorem ggX9_claim_X3_settle : GoodIn wsX9_claim wsX3_settle := goodIn_r _ [154, 155, 72, 156, 157, 158, 159, 160, 161, 162, 5, 163, 164, 165, 7, 166, 167, 168, 169, 91, 92, 173, 174, 175, 176] (by decide +kernel) (by decide +kernel)
set_option maxRecDepth 20000 in
theorem gX9_claim_X3_settle : GoodIn wsX9_claim (wsV RX9 43 RX3 yX3_settle wsX3_settle) := goodIn_app (goodIn_of _ (by decide +kernel)) ggX9_claim_X3_settle
theorem dX9_claim_0 : decode cX9_claim 0 = .ok (.aload_n 0, 1) := by decide +kernel
theorem dX9_claim_1 : decode cX9_claim 1 = .ok (.getfield 10, 3) := by decide +kernel
theorem dX9_claim_4 : decode cX9_claim 4 = .ok (.invokevirtual 30, 3) := by decide +kernel
theorem dX9_claim_7 : decode cX9_claim 7 = .ok (.aload_n 0, 1) := by decide +kernel
theorem dX9_claim_8 : decode cX9_claim 8 = .ok (.getfield 10, 3) := by decide +kernel
theorem dX9_claim_11 : decode cX9_claim 11 = .ok (.aload_n 0, 1) := by decide +kernel
theorem dX9_claim_12 : decode cX9_claim 12 = .ok (.invokevirtual 33, 3) := by decide +kernel
theorem dX9_claim_15 : decode cX9_claim 15 = .ok (.iload_n 1, 1) := by decide +kernel
theorem dX9_claim_16 : decode cX9_claim 16 = .ok (.iload_n 2, 1) := by decide +kernel
theorem dX9_claim_17 : decode cX9_claim 17 = .ok (.invokevirtual 70, 3) := by decide +kernel
theorem dX9_claim_20 : decode cX9_claim 20 = .ok (.invokevirtual 43, 3) := by decide +kernel
theorem dX9_claim_23 : decode cX9_claim 23 = .ok (.ireturn, 1) := by decide +kernel
set_option maxRecDepth 20000 in
theorem ggX9_addPrize_X3_prepare : GoodIn wsX9_addPrize wsX3_prepare := goodIn_r _ [6, 7, 8, 9, 10, 11, 12, 13, 14, 15, 16, 17, 18, 19, 20, 21, 22, 23, 24, 25, 26, 27, 28, 29, 30, 31, 32, 33, 34, 35, 36, 37, 38, 39, 40, 41, 42, 43, 44, 45, 46, 47, 48, 49, 50, 51, 52, 53, 54, 55, 56, 57, 58, 59, 60, 61, 62, 63, 64, 65, 66, 67, 68, 111, 112, 113, 114, 115, 116, 117, 118, 119, 120, 121, 122, 123, 124, 125, 126, 127, 128, 129, 130, 131, 132, 133, 134, 135, 136, 137, 138, 139, 140, 141, 142, 143, 144] (by decide +kernel) (by decide +kernel)
set_option maxRecDepth 20000 in
theorem gX9_addPrize_X3_prepare : GoodIn wsX9_addPrize (wsV RX9 30 RX3 yX3_prepare wsX3_prepare) := goodIn_app (goodIn_of _ (by decide +kernel)) ggX9_addPrize_X3_prepare
set_option maxRecDepth 20000 in
theorem ggX9_addPrize_X9_counter : GoodIn wsX9_addPrize wsX9_counter := goodIn_r _ [73, 1, 74, 75, 108, 109, 110, 111, 112, 113, 114, 115, 116, 117] (by decide +kernel) (by decide +kernel)
set_option maxRecDepth 20000 in
theorem gX9_addPrize_X9_counter : GoodIn wsX9_addPrize (wsV RX9 33 RX9 yX9_counter wsX9_counter) := goodIn_app (goodIn_of _ (by decide +kernel)) ggX9_addPrize_X9_counter
set_option maxRecDepth 20000 in
theorem ggX9_addPrize_X0_placePrize : GoodIn wsX9_addPrize wsX0_placePrize := goodIn_r _ [79, 80, 81, 27, 82, 24, 83, 72, 84, 85, 86, 87, 52, 88, 54, 55, 56, 57, 58, 59, 60, 118, 119, 120, 121, 122, 123, 124, 125, 126, 135, 136, 137, 138, 139, 140, 141] (by decide +kernel) (by decide +kernel)
set_option maxRecDepth 20000 in
theorem gX9_addPrize_X0_placePrize : GoodIn wsX9_addPrize (wsV RX9 73 RX0 yX0_placePrize wsX0_placePrize) := goodIn_app (goodIn_of _ (by decide +kernel)) ggX9_addPrize_X0_placePrize
set_option maxRecDepth 20000 in
theorem ggX9_addPrize_X3_settle : GoodIn wsX9_addPrize wsX3_settle := goodIn_r _ [92, 93, 72, 94, 95, 96, 97, 98, 99, 100, 5, 101, 102, 103, 7, 104, 105, 106, 107, 83, 84, 111, 112, 113, 114] (by decide +kernel) (by decide +kernel)
set_option maxRecDepth 20000 in
theorem gX9_addPrize_X3_settle : GoodIn wsX9_addPrize (wsV RX9 43 RX3 yX3_settle wsX3_settle) := goodIn_app (goodIn_of _ (by decide +kernel)) ggX9_addPrize_X3_settle
theorem dX9_addPrize_0 : decode cX9_addPrize 0 = .ok (.aload_n 0, 1) := by decide +kernel
theorem dX9_addPrize_1 : decode cX9_addPrize 1 = .ok (.getfield 10, 3) := by decide +kernel
theorem dX9_addPrize_4 : decode cX9_addPrize 4 = .ok (.invokevirtual 30, 3) := by decide +kernel
theorem dX9_addPrize_7 : decode cX9_addPrize 7 = .ok (.aload_n 0, 1) := by decide +kernel
theorem dX9_addPrize_8 : decode cX9_addPrize 8 = .ok (.getfield 10, 3) := by decide +kernel
theorem dX9_addPrize_11 : decode cX9_addPrize 11 = .ok (.aload_n 0, 1) := by decide +kernel
theorem dX9_addPrize_12 : decode cX9_addPrize 12 = .ok (.invokevirtual 33, 3) := by decide +kernel
theorem dX9_addPrize_15 : decode cX9_addPrize 15 = .ok (.iload_n 1, 1) := by decide +kernel
theorem dX9_addPrize_16 : decode cX9_addPrize 16 = .ok (.iload_n 2, 1) := by decide +kernel
theorem dX9_addPrize_17 : decode cX9_addPrize 17 = .ok (.iload_n 3, 1) := by decide +kernel
theorem dX9_addPrize_18 : decode cX9_addPrize 18 = .ok (.iload 4, 2) := by decide +kernel
theorem dX9_addPrize_20 : decode cX9_addPrize 20 = .ok (.iload 5, 2) := by decide +kernel
theorem dX9_addPrize_22 : decode cX9_addPrize 22 = .ok (.invokevirtual 73, 3) := by decide +kernel
theorem dX9_addPrize_25 : decode cX9_addPrize 25 = .ok (.invokevirtual 43, 3) := by decide +kernel
theorem dX9_addPrize_28 : decode cX9_addPrize 28 = .ok (.ireturn, 1) := by decide +kernel
set_option maxRecDepth 20000 in
theorem ggX9_buy_X3_prepare : GoodIn wsX9_buy wsX3_prepare := goodIn_r _ [6, 7, 8, 9, 10, 11, 12, 13, 14, 15, 16, 17, 18, 19, 20, 21, 22, 23, 24, 25, 26, 27, 28, 29, 30, 31, 32, 33, 34, 35, 36, 37, 38, 39, 40, 41, 42, 43, 44, 45, 46, 47, 48, 49, 50, 51, 52, 53, 54, 55, 56, 57, 58, 59, 60, 61, 62, 63, 64, 65, 66, 67, 68, 132, 133, 134, 135, 136, 137, 138, 139, 140, 141, 142, 143, 144, 145, 146, 147, 148, 149, 150, 151, 152, 153, 154, 155, 156, 157, 158, 159, 160, 161, 162, 163, 164, 165] (by decide +kernel) (by decide +kernel)
set_option maxRecDepth 20000 in
theorem gX9_buy_X3_prepare : GoodIn wsX9_buy (wsV RX9 30 RX3 yX3_prepare wsX3_prepare) := goodIn_app (goodIn_of _ (by decide +kernel)) ggX9_buy_X3_prepare
set_option maxRecDepth 20000 in
theorem ggX9_buy_X9_counter : GoodIn wsX9_buy wsX9_counter := goodIn_r _ [73, 1, 74, 75, 129, 130, 131, 132, 133, 134, 135, 136, 137, 138] (by decide +kernel) (by decide +kernel)
set_option maxRecDepth 20000 in
theorem gX9_buy_X9_counter : GoodIn wsX9_buy (wsV RX9 33 RX9 yX9_counter wsX9_counter) := goodIn_app (goodIn_of _ (by decide +kernel)) ggX9_buy_X9_counter
set_option maxRecDepth 20000 in
theorem ggX9_buy_X0_sellPrize : GoodIn wsX9_buy wsX0_sellPrize := goodIn_r _ [79, 80, 81, 82, 83, 84, 85, 86, 87, 88, 20, 89, 26, 23, 90, 72, 91, 92, 93, 94, 95, 27, 24, 96, 97, 98, 52, 99, 56, 59, 55, 57, 60, 58, 100, 101, 102, 103, 104, 105, 106, 107, 108, 109, 150, 151, 152, 153, 154, 155, 156, 157, 158, 159, 160, 161, 162, 139, 140, 141, 142, 143, 144, 145, 146, 147] (by decide +kernel) (by decide +kernel)
set_option maxRecDepth 20000 in
theorem gX9_buy_X0_sellPrize : GoodIn wsX9_buy (wsV RX9 83 RX0 yX0_sellPrize wsX0_sellPrize) := goodIn_app (goodIn_of _ (by decide +kernel)) ggX9_buy_X0_sellPrize
set_option maxRecDepth 20000 in
theorem ggX9_buy_X3_settle : GoodIn wsX9_buy wsX3_settle := goodIn_r _ [113, 114, 72, 115, 116, 117, 118, 119, 120, 121, 5, 122, 123, 124, 7, 125, 126, 127, 128, 90, 91, 132, 133, 134, 135] (by decide +kernel) (by decide +kernel)
set_option maxRecDepth 20000 in
theorem gX9_buy_X3_settle : GoodIn wsX9_buy (wsV RX9 43 RX3 yX3_settle wsX3_settle) := goodIn_app (goodIn_of _ (by decide +kernel)) ggX9_buy_X3_settle
theorem dX9_buy_0 : decode cX9_buy 0 = .ok (.aload_n 0, 1) := by decide +kernel
theorem dX9_buy_1 : decode cX9_buy 1 = .ok (.getfield 10, 3) := by decide +kernel
theorem dX9_buy_4 : decode cX9_buy 4 = .ok (.invokevirtual 30, 3) := by decide +kernel
theorem dX9_buy_7 : decode cX9_buy 7 = .ok (.aload_n 0, 1) := by decide +kernel
theorem dX9_buy_8 : decode cX9_buy 8 = .ok (.getfield 10, 3) := by decide +kernel
theorem dX9_buy_11 : decode cX9_buy 11 = .ok (.aload_n 0, 1) := by decide +kernel
theorem dX9_buy_12 : decode cX9_buy 12 = .ok (.invokevirtual 33, 3) := by decide +kernel
theorem dX9_buy_15 : decode cX9_buy 15 = .ok (.iload_n 1, 1) := by decide +kernel
theorem dX9_buy_16 : decode cX9_buy 16 = .ok (.iload_n 2, 1) := by decide +kernel
theorem dX9_buy_17 : decode cX9_buy 17 = .ok (.iload_n 3, 1) := by decide +kernel
theorem dX9_buy_18 : decode cX9_buy 18 = .ok (.invokevirtual 83, 3) := by decide +kernel
theorem dX9_buy_21 : decode cX9_buy 21 = .ok (.invokevirtual 43, 3) := by decide +kernel
theorem dX9_buy_24 : decode cX9_buy 24 = .ok (.ireturn, 1) := by decide +kernel
set_option maxRecDepth 20000 in
theorem ggX9_undo_X3_stepBack : GoodIn wsX9_undo wsX3_stepBack := goodIn_r _ [6, 7, 8, 9, 10, 11, 12, 13, 17, 18, 19, 20] (by decide +kernel) (by decide +kernel)
set_option maxRecDepth 20000 in
theorem gX9_undo_X3_stepBack : GoodIn wsX9_undo (wsV RX9 98 RX3 yX3_stepBack wsX3_stepBack) := goodIn_app (goodIn_of _ (by decide +kernel)) ggX9_undo_X3_stepBack
theorem dX9_undo_0 : decode cX9_undo 0 = .ok (.aload_n 0, 1) := by decide +kernel
theorem dX9_undo_1 : decode cX9_undo 1 = .ok (.getfield 10, 3) := by decide +kernel
theorem dX9_undo_4 : decode cX9_undo 4 = .ok (.invokevirtual 98, 3) := by decide +kernel
theorem dX9_undo_7 : decode cX9_undo 7 = .ok (.ireturn, 1) := by decide +kernel
set_option maxRecDepth 20000 in
theorem ggX9_count_X8_slotsInUse : GoodIn wsX9_count wsX8_slotsInUse := goodIn_r _ [10, 11, 63, 64, 65] (by decide +kernel) (by decide +kernel)
set_option maxRecDepth 20000 in
theorem gX9_count_X8_slotsInUse : GoodIn wsX9_count (wsV RX9 124 RX8 yX8_slotsInUse wsX8_slotsInUse) := goodIn_app (goodIn_of _ (by decide +kernel)) ggX9_count_X8_slotsInUse
set_option maxRecDepth 20000 in
theorem ggX9_count_X9_counter : GoodIn wsX9_count wsX9_counter := goodIn_r _ [16, 1, 2, 17, 50, 51, 52, 53, 54, 55, 56, 63, 64, 65] (by decide +kernel) (by decide +kernel)
set_option maxRecDepth 20000 in
theorem gX9_count_X9_counter : GoodIn wsX9_count (wsV RX9 33 RX9 yX9_counter wsX9_counter) := goodIn_app (goodIn_of _ (by decide +kernel)) ggX9_count_X9_counter
set_option maxRecDepth 20000 in
theorem ggX9_count_X0_number : GoodIn wsX9_count wsX0_number := goodIn_r _ [22, 23, 24, 25, 26, 27, 28, 29, 30, 31, 32, 33, 34, 35, 21, 36, 37, 38, 39, 40, 41, 42, 43, 44, 45, 46, 47, 48, 49, 66, 67, 68, 69, 70, 71, 72, 73, 74, 75, 76, 77, 78, 79, 80, 81, 82, 83, 84, 85, 86, 87, 88, 89, 90] (by decide +kernel) (by decide +kernel)
set_option maxRecDepth 20000 in
theorem gX9_count_X0_number : GoodIn wsX9_count (wsV RX9 134 RX0 yX0_number wsX0_number) := goodIn_app (goodIn_of _ (by decide +kernel)) ggX9_count_X0_number
theorem dX9_count_0 : decode cX9_count 0 = .ok (.iload_n 1, 1) := by decide +kernel
theorem dX9_count_1 : decode cX9_count 1 = .ok (.tableswitch 54 11 13 #[27, 38, 46], 27) := by decide +kernel
theorem dX9_count_28 : decode cX9_count 28 = .ok (.aload_n 0, 1) := by decide +kernel
theorem dX9_count_29 : decode cX9_count 29 = .ok (.getfield 10, 3) := by decide +kernel
theorem dX9_count_32 : decode cX9_count 32 = .ok (.getfield 86, 3) := by decide +kernel
theorem dX9_count_35 : decode cX9_count 35 = .ok (.invokevirtual 124, 3) := by decide +kernel
theorem dX9_count_38 : decode cX9_count 38 = .ok (.ireturn, 1) := by decide +kernel
theorem dX9_count_39 : decode cX9_count 39 = .ok (.aload_n 0, 1) := by decide +kernel
theorem dX9_count_40 : decode cX9_count 40 = .ok (.getfield 10, 3) := by decide +kernel
theorem dX9_count_43 : decode cX9_count 43 = .ok (.getfield 127, 3) := by decide +kernel
theorem dX9_count_46 : decode cX9_count 46 = .ok (.ireturn, 1) := by decide +kernel
theorem dX9_count_47 : decode cX9_count 47 = .ok (.aload_n 0, 1) := by decide +kernel
theorem dX9_count_48 : decode cX9_count 48 = .ok (.getfield 19, 3) := by decide +kernel
theorem dX9_count_51 : decode cX9_count 51 = .ok (.getfield 131, 3) := by decide +kernel
theorem dX9_count_54 : decode cX9_count 54 = .ok (.ireturn, 1) := by decide +kernel
theorem dX9_count_55 : decode cX9_count 55 = .ok (.aload_n 0, 1) := by decide +kernel
theorem dX9_count_56 : decode cX9_count 56 = .ok (.invokevirtual 33, 3) := by decide +kernel
theorem dX9_count_59 : decode cX9_count 59 = .ok (.iload_n 1, 1) := by decide +kernel
theorem dX9_count_60 : decode cX9_count 60 = .ok (.invokevirtual 134, 3) := by decide +kernel
theorem dX9_count_63 : decode cX9_count 63 = .ok (.ireturn, 1) := by decide +kernel
set_option maxRecDepth 20000 in
theorem ggX9_kind_X9_counter : GoodIn wsX9_kind wsX9_counter := goodIn_r _ [8, 9, 10, 11, 23, 24, 25, 26, 27, 28, 29, 30, 31, 32] (by decide +kernel) (by decide +kernel)
set_option maxRecDepth 20000 in
theorem gX9_kind_X9_counter : GoodIn wsX9_kind (wsV RX9 33 RX9 yX9_counter wsX9_counter) := goodIn_app (goodIn_of _ (by decide +kernel)) ggX9_kind_X9_counter
set_option maxRecDepth 20000 in
theorem ggX9_kind_X0_kindAt : GoodIn wsX9_kind wsX0_kindAt := goodIn_r _ [16, 17, 18, 7, 19, 33, 34, 35, 36, 37, 38, 39, 40, 41] (by decide +kernel) (by decide +kernel)
set_option maxRecDepth 20000 in
theorem gX9_kind_X0_kindAt : GoodIn wsX9_kind (wsV RX9 137 RX0 yX0_kindAt wsX0_kindAt) := goodIn_app (goodIn_of _ (by decide +kernel)) ggX9_kind_X0_kindAt
set_option maxRecDepth 20000 in
theorem ggX9_kind_X9_within : GoodIn wsX9_kind wsX9_within := goodIn_r _ [19] (by decide +kernel) (by decide +kernel)
set_option maxRecDepth 20000 in
theorem gX9_kind_X9_within : GoodIn wsX9_kind (va_wsS RX9 141 yX9_within wsX9_within) := goodIn_app (goodIn_of _ (by decide +kernel)) ggX9_kind_X9_within
theorem dX9_kind_0 : decode cX9_kind 0 = .ok (.aload_n 0, 1) := by decide +kernel
theorem dX9_kind_1 : decode cX9_kind 1 = .ok (.invokevirtual 33, 3) := by decide +kernel
theorem dX9_kind_4 : decode cX9_kind 4 = .ok (.iload_n 1, 1) := by decide +kernel
theorem dX9_kind_5 : decode cX9_kind 5 = .ok (.invokevirtual 137, 3) := by decide +kernel
theorem dX9_kind_8 : decode cX9_kind 8 = .ok (.astore_n 3, 1) := by decide +kernel
theorem dX9_kind_9 : decode cX9_kind 9 = .ok (.aload_n 3, 1) := by decide +kernel
theorem dX9_kind_10 : decode cX9_kind 10 = .ok (.ifnull 12, 3) := by decide +kernel
theorem dX9_kind_13 : decode cX9_kind 13 = .ok (.iload_n 2, 1) := by decide +kernel
theorem dX9_kind_14 : decode cX9_kind 14 = .ok (.iconst 0, 1) := by decide +kernel
theorem dX9_kind_15 : decode cX9_kind 15 = .ok (.iconst 1, 1) := by decide +kernel
theorem dX9_kind_16 : decode cX9_kind 16 = .ok (.invokestatic 141, 3) := by decide +kernel
theorem dX9_kind_19 : decode cX9_kind 19 = .ok (.ifCond .ne 6, 3) := by decide +kernel
theorem dX9_kind_22 : decode cX9_kind 22 = .ok (.ldc 145, 2) := by decide +kernel
theorem dX9_kind_24 : decode cX9_kind 24 = .ok (.ireturn, 1) := by decide +kernel
theorem dX9_kind_25 : decode cX9_kind 25 = .ok (.iload_n 2, 1) := by decide +kernel
theorem dX9_kind_26 : decode cX9_kind 26 = .ok (.ifCond .ne 10, 3) := by decide +kernel
theorem dX9_kind_29 : decode cX9_kind 29 = .ok (.aload_n 3, 1) := by decide +kernel
theorem dX9_kind_30 : decode cX9_kind 30 = .ok (.getfield 146, 3) := by decide +kernel
theorem dX9_kind_33 : decode cX9_kind 33 = .ok (.goto 7, 3) := by decide +kernel
theorem dX9_kind_36 : decode cX9_kind 36 = .ok (.aload_n 3, 1) := by decide +kernel
theorem dX9_kind_37 : decode cX9_kind 37 = .ok (.getfield 151, 3) := by decide +kernel
theorem dX9_kind_40 : decode cX9_kind 40 = .ok (.ireturn, 1) := by decide +kernel
set_option maxRecDepth 20000 in
theorem ggX9_customer_X9_counter : GoodIn wsX9_customer wsX9_counter := goodIn_r _ [6, 7, 8, 9, 32, 33, 34, 35, 36, 37, 38, 39, 40, 41] (by decide +kernel) (by decide +kernel)
set_option maxRecDepth 20000 in
theorem gX9_customer_X9_counter : GoodIn wsX9_customer (wsV RX9 33 RX9 yX9_counter wsX9_counter) := goodIn_app (goodIn_of _ (by decide +kernel)) ggX9_customer_X9_counter
set_option maxRecDepth 20000 in
theorem ggX9_customer_X0_customerAt : GoodIn wsX9_customer wsX0_customerAt := goodIn_r _ [14, 15, 16, 17, 5, 18, 42, 43, 44, 45, 46, 47, 48, 49, 50] (by decide +kernel) (by decide +kernel)
set_option maxRecDepth 20000 in
theorem gX9_customer_X0_customerAt : GoodIn wsX9_customer (wsV RX9 154 RX0 yX0_customerAt wsX0_customerAt) := goodIn_app (goodIn_of _ (by decide +kernel)) ggX9_customer_X0_customerAt
set_option maxRecDepth 20000 in
theorem ggX9_customer_X1_part : GoodIn wsX9_customer wsX1_part := goodIn_r _ [23, 24, 25, 26, 27, 28, 29, 30, 31, 17, 5, 18, 51, 52, 53, 54, 55, 56] (by decide +kernel) (by decide +kernel)
set_option maxRecDepth 20000 in
theorem gX9_customer_X1_part : GoodIn wsX9_customer (wsV RX9 158 RX1 yX1_part wsX1_part) := goodIn_app (goodIn_of _ (by decide +kernel)) ggX9_customer_X1_part
theorem dX9_customer_0 : decode cX9_customer 0 = .ok (.aload_n 0, 1) := by decide +kernel
theorem dX9_customer_1 : decode cX9_customer 1 = .ok (.invokevirtual 33, 3) := by decide +kernel
theorem dX9_customer_4 : decode cX9_customer 4 = .ok (.iload_n 1, 1) := by decide +kernel
theorem dX9_customer_5 : decode cX9_customer 5 = .ok (.invokevirtual 154, 3) := by decide +kernel
theorem dX9_customer_8 : decode cX9_customer 8 = .ok (.astore_n 3, 1) := by decide +kernel
theorem dX9_customer_9 : decode cX9_customer 9 = .ok (.aload_n 3, 1) := by decide +kernel
theorem dX9_customer_10 : decode cX9_customer 10 = .ok (.ifnonnull 6, 3) := by decide +kernel
theorem dX9_customer_13 : decode cX9_customer 13 = .ok (.ldc 145, 2) := by decide +kernel
theorem dX9_customer_15 : decode cX9_customer 15 = .ok (.ireturn, 1) := by decide +kernel
theorem dX9_customer_16 : decode cX9_customer 16 = .ok (.aload_n 3, 1) := by decide +kernel
theorem dX9_customer_17 : decode cX9_customer 17 = .ok (.iload_n 2, 1) := by decide +kernel
theorem dX9_customer_18 : decode cX9_customer 18 = .ok (.invokevirtual 158, 3) := by decide +kernel
theorem dX9_customer_21 : decode cX9_customer 21 = .ok (.ireturn, 1) := by decide +kernel
set_option maxRecDepth 20000 in
theorem ggX9_prize_X9_counter : GoodIn wsX9_prize wsX9_counter := goodIn_r _ [6, 7, 8, 9, 32, 33, 34, 35, 36, 37, 38, 39, 40, 41] (by decide +kernel) (by decide +kernel)
set_option maxRecDepth 20000 in
theorem gX9_prize_X9_counter : GoodIn wsX9_prize (wsV RX9 33 RX9 yX9_counter wsX9_counter) := goodIn_app (goodIn_of _ (by decide +kernel)) ggX9_prize_X9_counter
set_option maxRecDepth 20000 in
theorem ggX9_prize_X0_prizeAt : GoodIn wsX9_prize wsX0_prizeAt := goodIn_r _ [14, 15, 16, 17, 5, 18, 42, 43, 44, 45, 46, 47, 48, 49, 50] (by decide +kernel) (by decide +kernel)
set_option maxRecDepth 20000 in
theorem gX9_prize_X0_prizeAt : GoodIn wsX9_prize (wsV RX9 161 RX0 yX0_prizeAt wsX0_prizeAt) := goodIn_app (goodIn_of _ (by decide +kernel)) ggX9_prize_X0_prizeAt
set_option maxRecDepth 20000 in
theorem ggX9_prize_X5_part : GoodIn wsX9_prize wsX5_part := goodIn_r _ [23, 24, 25, 26, 27, 28, 29, 30, 31, 51, 52, 53, 54, 55, 56, 57] (by decide +kernel) (by decide +kernel)
set_option maxRecDepth 20000 in
theorem gX9_prize_X5_part : GoodIn wsX9_prize (wsV RX9 165 RX5 yX5_part wsX5_part) := goodIn_app (goodIn_of _ (by decide +kernel)) ggX9_prize_X5_part
theorem dX9_prize_0 : decode cX9_prize 0 = .ok (.aload_n 0, 1) := by decide +kernel
theorem dX9_prize_1 : decode cX9_prize 1 = .ok (.invokevirtual 33, 3) := by decide +kernel
theorem dX9_prize_4 : decode cX9_prize 4 = .ok (.iload_n 1, 1) := by decide +kernel
theorem dX9_prize_5 : decode cX9_prize 5 = .ok (.invokevirtual 161, 3) := by decide +kernel
theorem dX9_prize_8 : decode cX9_prize 8 = .ok (.astore_n 3, 1) := by decide +kernel
theorem dX9_prize_9 : decode cX9_prize 9 = .ok (.aload_n 3, 1) := by decide +kernel
theorem dX9_prize_10 : decode cX9_prize 10 = .ok (.ifnonnull 6, 3) := by decide +kernel
theorem dX9_prize_13 : decode cX9_prize 13 = .ok (.ldc 145, 2) := by decide +kernel
theorem dX9_prize_15 : decode cX9_prize 15 = .ok (.ireturn, 1) := by decide +kernel
theorem dX9_prize_16 : decode cX9_prize 16 = .ok (.aload_n 3, 1) := by decide +kernel
theorem dX9_prize_17 : decode cX9_prize 17 = .ok (.iload_n 2, 1) := by decide +kernel
theorem dX9_prize_18 : decode cX9_prize 18 = .ok (.invokevirtual 165, 3) := by decide +kernel
theorem dX9_prize_21 : decode cX9_prize 21 = .ok (.ireturn, 1) := by decide +kernel
set_option maxRecDepth 20000 in
theorem ggX9_read_X9_within : GoodIn wsX9_read wsX9_within := goodIn_r _ [8] (by decide +kernel) (by decide +kernel)
set_option maxRecDepth 20000 in
theorem gX9_read_X9_within : GoodIn wsX9_read (va_wsS RX9 141 yX9_within wsX9_within) := goodIn_app (goodIn_of _ (by decide +kernel)) ggX9_read_X9_within
set_option maxRecDepth 20000 in
theorem ggX9_read_X9_counter : GoodIn wsX9_read wsX9_counter := goodIn_r _ [12, 13, 14, 15, 42, 43, 44, 45, 46, 47, 48, 49, 50, 51] (by decide +kernel) (by decide +kernel)
set_option maxRecDepth 20000 in
theorem gX9_read_X9_counter : GoodIn wsX9_read (wsV RX9 33 RX9 yX9_counter wsX9_counter) := goodIn_app (goodIn_of _ (by decide +kernel)) ggX9_read_X9_counter
set_option maxRecDepth 20000 in
theorem ggX9_read_X9_readingAt : GoodIn wsX9_read wsX9_readingAt := goodIn_r _ [18, 19, 20, 21, 22, 23, 24, 7, 25, 26, 27, 28, 29] (by decide +kernel) (by decide +kernel)
set_option maxRecDepth 20000 in
theorem gX9_read_X9_readingAt : GoodIn wsX9_read (va_wsS RX9 176 yX9_readingAt wsX9_readingAt) := goodIn_app (goodIn_of _ (by decide +kernel)) ggX9_read_X9_readingAt
theorem dX9_read_0 : decode cX9_read 0 = .ok (.iload_n 1, 1) := by decide +kernel
theorem dX9_read_1 : decode cX9_read 1 = .ok (.sipush (-5000), 3) := by decide +kernel
theorem dX9_read_4 : decode cX9_read 4 = .ok (.ldc 166, 2) := by decide +kernel
theorem dX9_read_6 : decode cX9_read 6 = .ok (.invokestatic 141, 3) := by decide +kernel
theorem dX9_read_9 : decode cX9_read 9 = .ok (.ifCond .ne 6, 3) := by decide +kernel
theorem dX9_read_12 : decode cX9_read 12 = .ok (.ldc 145, 2) := by decide +kernel
theorem dX9_read_14 : decode cX9_read 14 = .ok (.ireturn, 1) := by decide +kernel
theorem dX9_read_15 : decode cX9_read 15 = .ok (.aload_n 0, 1) := by decide +kernel
theorem dX9_read_16 : decode cX9_read 16 = .ok (.invokevirtual 33, 3) := by decide +kernel
theorem dX9_read_19 : decode cX9_read 19 = .ok (.getfield 167, 3) := by decide +kernel
theorem dX9_read_22 : decode cX9_read 22 = .ok (.getfield 171, 3) := by decide +kernel
theorem dX9_read_25 : decode cX9_read 25 = .ok (.iload_n 1, 1) := by decide +kernel
theorem dX9_read_26 : decode cX9_read 26 = .ok (.invokestatic 176, 3) := by decide +kernel
theorem dX9_read_29 : decode cX9_read 29 = .ok (.ireturn, 1) := by decide +kernel
set_option maxRecDepth 20000 in
theorem ggX9_allowed_X9_counter : GoodIn wsX9_allowed wsX9_counter := goodIn_r _ [9, 10, 11, 12, 75, 76, 77, 78, 79, 80, 81, 82, 83, 84] (by decide +kernel) (by decide +kernel)
set_option maxRecDepth 20000 in
theorem gX9_allowed_X9_counter : GoodIn wsX9_allowed (wsV RX9 33 RX9 yX9_counter wsX9_counter) := goodIn_app (goodIn_of _ (by decide +kernel)) ggX9_allowed_X9_counter
set_option maxRecDepth 20000 in
theorem ggX9_allowed_X0_kindAt : GoodIn wsX9_allowed wsX0_kindAt := goodIn_r _ [17, 18, 19, 8, 20, 66, 67, 68, 69, 70, 71, 72, 73, 74] (by decide +kernel) (by decide +kernel)
set_option maxRecDepth 20000 in
theorem gX9_allowed_X0_kindAt : GoodIn wsX9_allowed (wsV RX9 137 RX0 yX0_kindAt wsX0_kindAt) := goodIn_app (goodIn_of _ (by decide +kernel)) ggX9_allowed_X0_kindAt
set_option maxRecDepth 20000 in
theorem ggX9_allowed_X9_within : GoodIn wsX9_allowed wsX9_within := goodIn_r _ [20] (by decide +kernel) (by decide +kernel)
set_option maxRecDepth 20000 in
theorem gX9_allowed_X9_within : GoodIn wsX9_allowed (va_wsS RX9 141 yX9_within wsX9_within) := goodIn_app (goodIn_of _ (by decide +kernel)) ggX9_allowed_X9_within
set_option maxRecDepth 20000 in
theorem ggX9_allowed_X7_leastCount : GoodIn wsX9_allowed wsX7_leastCount := goodIn_r _ [26, 27, 28, 29, 30, 31, 32, 33, 34, 35, 36, 37, 38, 39, 40, 41, 25, 42, 43, 44, 8, 45, 46, 47, 48, 49, 85, 86, 87, 88, 89] (by decide +kernel) (by decide +kernel)
set_option maxRecDepth 20000 in
theorem gX9_allowed_X7_leastCount : GoodIn wsX9_allowed (wsV RX9 179 RX7 yX7_leastCount wsX7_leastCount) := goodIn_app (goodIn_of _ (by decide +kernel)) ggX9_allowed_X7_leastCount
set_option maxRecDepth 20000 in
theorem ggX9_allowed_X7_greatestCount : GoodIn wsX9_allowed wsX7_greatestCount := goodIn_r _ [53, 27, 54, 55, 56, 25, 57, 43, 58, 59, 60, 61, 62, 63, 64, 35, 65, 37, 38, 44, 8, 45, 46, 47, 48, 49, 85, 86, 87, 88, 89] (by decide +kernel) (by decide +kernel)
set_option maxRecDepth 20000 in
theorem gX9_allowed_X7_greatestCount : GoodIn wsX9_allowed (wsV RX9 183 RX7 yX7_greatestCount wsX7_greatestCount) := goodIn_app (goodIn_of _ (by decide +kernel)) ggX9_allowed_X7_greatestCount
theorem dX9_allowed_0 : decode cX9_allowed 0 = .ok (.aload_n 0, 1) := by decide +kernel
theorem dX9_allowed_1 : decode cX9_allowed 1 = .ok (.invokevirtual 33, 3) := by decide +kernel
theorem dX9_allowed_4 : decode cX9_allowed 4 = .ok (.iload_n 2, 1) := by decide +kernel
theorem dX9_allowed_5 : decode cX9_allowed 5 = .ok (.invokevirtual 137, 3) := by decide +kernel
theorem dX9_allowed_8 : decode cX9_allowed 8 = .ok (.astore 4, 2) := by decide +kernel
theorem dX9_allowed_10 : decode cX9_allowed 10 = .ok (.iload_n 1, 1) := by decide +kernel
theorem dX9_allowed_11 : decode cX9_allowed 11 = .ok (.iconst 0, 1) := by decide +kernel
theorem dX9_allowed_12 : decode cX9_allowed 12 = .ok (.ldc 166, 2) := by decide +kernel
theorem dX9_allowed_14 : decode cX9_allowed 14 = .ok (.invokestatic 141, 3) := by decide +kernel
theorem dX9_allowed_17 : decode cX9_allowed 17 = .ok (.ifCond .eq 17, 3) := by decide +kernel
theorem dX9_allowed_20 : decode cX9_allowed 20 = .ok (.aload 4, 2) := by decide +kernel
theorem dX9_allowed_22 : decode cX9_allowed 22 = .ok (.ifnull 12, 3) := by decide +kernel
theorem dX9_allowed_25 : decode cX9_allowed 25 = .ok (.iload_n 3, 1) := by decide +kernel
theorem dX9_allowed_26 : decode cX9_allowed 26 = .ok (.iconst 0, 1) := by decide +kernel
theorem dX9_allowed_27 : decode cX9_allowed 27 = .ok (.iconst 2, 1) := by decide +kernel
theorem dX9_allowed_28 : decode cX9_allowed 28 = .ok (.invokestatic 141, 3) := by decide +kernel
theorem dX9_allowed_31 : decode cX9_allowed 31 = .ok (.ifCond .ne 6, 3) := by decide +kernel
theorem dX9_allowed_34 : decode cX9_allowed 34 = .ok (.ldc 145, 2) := by decide +kernel
theorem dX9_allowed_36 : decode cX9_allowed 36 = .ok (.ireturn, 1) := by decide +kernel
theorem dX9_allowed_37 : decode cX9_allowed 37 = .ok (.aload_n 0, 1) := by decide +kernel
theorem dX9_allowed_38 : decode cX9_allowed 38 = .ok (.invokevirtual 33, 3) := by decide +kernel
theorem dX9_allowed_41 : decode cX9_allowed 41 = .ok (.getfield 167, 3) := by decide +kernel
theorem dX9_allowed_44 : decode cX9_allowed 44 = .ok (.iload_n 1, 1) := by decide +kernel
theorem dX9_allowed_45 : decode cX9_allowed 45 = .ok (.aload 4, 2) := by decide +kernel
theorem dX9_allowed_47 : decode cX9_allowed 47 = .ok (.invokevirtual 179, 3) := by decide +kernel
theorem dX9_allowed_50 : decode cX9_allowed 50 = .ok (.istore 5, 2) := by decide +kernel
theorem dX9_allowed_52 : decode cX9_allowed 52 = .ok (.aload_n 0, 1) := by decide +kernel
theorem dX9_allowed_53 : decode cX9_allowed 53 = .ok (.invokevirtual 33, 3) := by decide +kernel
theorem dX9_allowed_56 : decode cX9_allowed 56 = .ok (.getfield 167, 3) := by decide +kernel
theorem dX9_allowed_59 : decode cX9_allowed 59 = .ok (.iload_n 1, 1) := by decide +kernel
theorem dX9_allowed_60 : decode cX9_allowed 60 = .ok (.aload 4, 2) := by decide +kernel
theorem dX9_allowed_62 : decode cX9_allowed 62 = .ok (.invokevirtual 183, 3) := by decide +kernel
theorem dX9_allowed_65 : decode cX9_allowed 65 = .ok (.istore 6, 2) := by decide +kernel
theorem dX9_allowed_67 : decode cX9_allowed 67 = .ok (.iload 5, 2) := by decide +kernel
theorem dX9_allowed_69 : decode cX9_allowed 69 = .ok (.iload 6, 2) := by decide +kernel
theorem dX9_allowed_71 : decode cX9_allowed 71 = .ok (.if_icmp .le 15, 3) := by decide +kernel
theorem dX9_allowed_74 : decode cX9_allowed 74 = .ok (.iload_n 3, 1) := by decide +kernel
theorem dX9_allowed_75 : decode cX9_allowed 75 = .ok (.iconst 2, 1) := by decide +kernel
theorem dX9_allowed_76 : decode cX9_allowed 76 = .ok (.if_icmp .ne 7, 3) := by decide +kernel
theorem dX9_allowed_79 : decode cX9_allowed 79 = .ok (.iconst 0, 1) := by decide +kernel
theorem dX9_allowed_80 : decode cX9_allowed 80 = .ok (.goto 5, 3) := by decide +kernel
theorem dX9_allowed_83 : decode cX9_allowed 83 = .ok (.ldc 186, 2) := by decide +kernel
theorem dX9_allowed_85 : decode cX9_allowed 85 = .ok (.ireturn, 1) := by decide +kernel
theorem dX9_allowed_86 : decode cX9_allowed 86 = .ok (.iload_n 3, 1) := by decide +kernel
theorem dX9_allowed_87 : decode cX9_allowed 87 = .ok (.lookupswitch 31 #[(0, 25), (1, 28)], 25) := by decide +kernel
theorem dX9_allowed_112 : decode cX9_allowed 112 = .ok (.iload 5, 2) := by decide +kernel
theorem dX9_allowed_114 : decode cX9_allowed 114 = .ok (.ireturn, 1) := by decide +kernel
theorem dX9_allowed_115 : decode cX9_allowed 115 = .ok (.iload 6, 2) := by decide +kernel
theorem dX9_allowed_117 : decode cX9_allowed 117 = .ok (.ireturn, 1) := by decide +kernel
theorem dX9_allowed_118 : decode cX9_allowed 118 = .ok (.iload 6, 2) := by decide +kernel
theorem dX9_allowed_120 : decode cX9_allowed 120 = .ok (.iload 5, 2) := by decide +kernel
theorem dX9_allowed_122 : decode cX9_allowed 122 = .ok (.isub, 1) := by decide +kernel
theorem dX9_allowed_123 : decode cX9_allowed 123 = .ok (.iconst 1, 1) := by decide +kernel
theorem dX9_allowed_124 : decode cX9_allowed 124 = .ok (.iadd, 1) := by decide +kernel
theorem dX9_allowed_125 : decode cX9_allowed 125 = .ok (.ireturn, 1) := by decide +kernel
set_option maxRecDepth 20000 in
theorem ggX9_guess_X9_counter : GoodIn wsX9_guess wsX9_counter := goodIn_r _ [8, 9, 10, 11, 87, 88, 89, 90, 91, 92, 93, 94, 95, 96] (by decide +kernel) (by decide +kernel)
set_option maxRecDepth 20000 in
theorem gX9_guess_X9_counter : GoodIn wsX9_guess (wsV RX9 33 RX9 yX9_counter wsX9_counter) := goodIn_app (goodIn_of _ (by decide +kernel)) ggX9_guess_X9_counter
set_option maxRecDepth 20000 in
theorem ggX9_guess_X0_kindAt : GoodIn wsX9_guess wsX0_kindAt := goodIn_r _ [16, 17, 18, 7, 19, 78, 79, 80, 81, 82, 83, 84, 85, 86] (by decide +kernel) (by decide +kernel)
set_option maxRecDepth 20000 in
theorem gX9_guess_X0_kindAt : GoodIn wsX9_guess (wsV RX9 137 RX0 yX0_kindAt wsX0_kindAt) := goodIn_app (goodIn_of _ (by decide +kernel)) ggX9_guess_X0_kindAt
set_option maxRecDepth 20000 in
theorem ggX9_guess_X9_within : GoodIn wsX9_guess wsX9_within := goodIn_r _ [19] (by decide +kernel) (by decide +kernel)
set_option maxRecDepth 20000 in
theorem gX9_guess_X9_within : GoodIn wsX9_guess (va_wsS RX9 141 yX9_within wsX9_within) := goodIn_app (goodIn_of _ (by decide +kernel)) ggX9_guess_X9_within
set_option maxRecDepth 20000 in
theorem ggX9_guess_X7_guessFrom : GoodIn wsX9_guess wsX7_guessFrom := goodIn_r _ [25, 26, 27, 28, 29, 30, 31, 32, 33, 34, 35, 36, 37, 24, 38, 39, 40, 41, 42, 43, 44, 45, 46, 47, 48, 49, 50, 51, 52, 7, 53, 54, 55, 56, 57, 58, 59, 60, 61, 62, 63, 64, 65, 66, 67, 68, 69, 70, 71, 72, 73, 74, 75, 76, 77, 97, 98, 99, 100, 101] (by decide +kernel) (by decide +kernel)
set_option maxRecDepth 20000 in
theorem gX9_guess_X7_guessFrom : GoodIn wsX9_guess (wsV RX9 187 RX7 yX7_guessFrom wsX7_guessFrom) := goodIn_app (goodIn_of _ (by decide +kernel)) ggX9_guess_X7_guessFrom
theorem dX9_guess_0 : decode cX9_guess 0 = .ok (.aload_n 0, 1) := by decide +kernel
theorem dX9_guess_1 : decode cX9_guess 1 = .ok (.invokevirtual 33, 3) := by decide +kernel
theorem dX9_guess_4 : decode cX9_guess 4 = .ok (.iload_n 2, 1) := by decide +kernel
theorem dX9_guess_5 : decode cX9_guess 5 = .ok (.invokevirtual 137, 3) := by decide +kernel
theorem dX9_guess_8 : decode cX9_guess 8 = .ok (.astore 4, 2) := by decide +kernel
theorem dX9_guess_10 : decode cX9_guess 10 = .ok (.iload_n 1, 1) := by decide +kernel
theorem dX9_guess_11 : decode cX9_guess 11 = .ok (.iconst 0, 1) := by decide +kernel
theorem dX9_guess_12 : decode cX9_guess 12 = .ok (.ldc 166, 2) := by decide +kernel
theorem dX9_guess_14 : decode cX9_guess 14 = .ok (.invokestatic 141, 3) := by decide +kernel
theorem dX9_guess_17 : decode cX9_guess 17 = .ok (.ifCond .eq 17, 3) := by decide +kernel
theorem dX9_guess_20 : decode cX9_guess 20 = .ok (.aload 4, 2) := by decide +kernel
theorem dX9_guess_22 : decode cX9_guess 22 = .ok (.ifnull 12, 3) := by decide +kernel
theorem dX9_guess_25 : decode cX9_guess 25 = .ok (.iload_n 3, 1) := by decide +kernel
theorem dX9_guess_26 : decode cX9_guess 26 = .ok (.iconst 0, 1) := by decide +kernel
theorem dX9_guess_27 : decode cX9_guess 27 = .ok (.iconst 3, 1) := by decide +kernel
theorem dX9_guess_28 : decode cX9_guess 28 = .ok (.invokestatic 141, 3) := by decide +kernel
theorem dX9_guess_31 : decode cX9_guess 31 = .ok (.ifCond .ne 6, 3) := by decide +kernel
theorem dX9_guess_34 : decode cX9_guess 34 = .ok (.ldc 145, 2) := by decide +kernel
theorem dX9_guess_36 : decode cX9_guess 36 = .ok (.ireturn, 1) := by decide +kernel
theorem dX9_guess_37 : decode cX9_guess 37 = .ok (.aload_n 0, 1) := by decide +kernel
theorem dX9_guess_38 : decode cX9_guess 38 = .ok (.invokevirtual 33, 3) := by decide +kernel
theorem dX9_guess_41 : decode cX9_guess 41 = .ok (.getfield 167, 3) := by decide +kernel
theorem dX9_guess_44 : decode cX9_guess 44 = .ok (.iload_n 1, 1) := by decide +kernel
theorem dX9_guess_45 : decode cX9_guess 45 = .ok (.aload 4, 2) := by decide +kernel
theorem dX9_guess_47 : decode cX9_guess 47 = .ok (.iload_n 3, 1) := by decide +kernel
theorem dX9_guess_48 : decode cX9_guess 48 = .ok (.invokevirtual 187, 3) := by decide +kernel
theorem dX9_guess_51 : decode cX9_guess 51 = .ok (.ireturn, 1) := by decide +kernel
set_option maxRecDepth 20000 in
theorem ggX9_apartUpTo_X9_counter : GoodIn wsX9_apartUpTo wsX9_counter := goodIn_r _ [7, 8, 9, 10, 63, 64, 65, 66, 67, 68, 69, 70, 71, 72] (by decide +kernel) (by decide +kernel)
set_option maxRecDepth 20000 in
theorem gX9_apartUpTo_X9_counter : GoodIn wsX9_apartUpTo (wsV RX9 33 RX9 yX9_counter wsX9_counter) := goodIn_app (goodIn_of _ (by decide +kernel)) ggX9_apartUpTo_X9_counter
set_option maxRecDepth 20000 in
theorem ggX9_apartUpTo_X0_kindAt : GoodIn wsX9_apartUpTo wsX0_kindAt := goodIn_r _ [15, 16, 17, 6, 18, 54, 55, 56, 57, 58, 59, 60, 61, 62] (by decide +kernel) (by decide +kernel)
set_option maxRecDepth 20000 in
theorem gX9_apartUpTo_X0_kindAt : GoodIn wsX9_apartUpTo (wsV RX9 137 RX0 yX0_kindAt wsX0_kindAt) := goodIn_app (goodIn_of _ (by decide +kernel)) ggX9_apartUpTo_X0_kindAt
set_option maxRecDepth 20000 in
theorem ggX9_apartUpTo_X7_lastApart : GoodIn wsX9_apartUpTo wsX7_lastApart := goodIn_r _ [23, 24, 25, 26, 27, 22, 28, 29, 30, 31, 32, 33, 34, 35, 36, 37, 6, 38, 39, 40, 41, 42, 43, 44, 45, 46, 47, 48, 49, 50, 51, 52, 53, 73, 74, 75, 76, 77] (by decide +kernel) (by decide +kernel)
set_option maxRecDepth 20000 in
theorem gX9_apartUpTo_X7_lastApart : GoodIn wsX9_apartUpTo (wsV RX9 191 RX7 yX7_lastApart wsX7_lastApart) := goodIn_app (goodIn_of _ (by decide +kernel)) ggX9_apartUpTo_X7_lastApart
theorem dX9_apartUpTo_0 : decode cX9_apartUpTo 0 = .ok (.aload_n 0, 1) := by decide +kernel
theorem dX9_apartUpTo_1 : decode cX9_apartUpTo 1 = .ok (.invokevirtual 33, 3) := by decide +kernel
theorem dX9_apartUpTo_4 : decode cX9_apartUpTo 4 = .ok (.iload_n 1, 1) := by decide +kernel
theorem dX9_apartUpTo_5 : decode cX9_apartUpTo 5 = .ok (.invokevirtual 137, 3) := by decide +kernel
theorem dX9_apartUpTo_8 : decode cX9_apartUpTo 8 = .ok (.astore_n 2, 1) := by decide +kernel
theorem dX9_apartUpTo_9 : decode cX9_apartUpTo 9 = .ok (.aload_n 2, 1) := by decide +kernel
theorem dX9_apartUpTo_10 : decode cX9_apartUpTo 10 = .ok (.ifnonnull 6, 3) := by decide +kernel
theorem dX9_apartUpTo_13 : decode cX9_apartUpTo 13 = .ok (.ldc 145, 2) := by decide +kernel
theorem dX9_apartUpTo_15 : decode cX9_apartUpTo 15 = .ok (.ireturn, 1) := by decide +kernel
theorem dX9_apartUpTo_16 : decode cX9_apartUpTo 16 = .ok (.aload_n 0, 1) := by decide +kernel
theorem dX9_apartUpTo_17 : decode cX9_apartUpTo 17 = .ok (.invokevirtual 33, 3) := by decide +kernel
theorem dX9_apartUpTo_20 : decode cX9_apartUpTo 20 = .ok (.getfield 167, 3) := by decide +kernel
theorem dX9_apartUpTo_23 : decode cX9_apartUpTo 23 = .ok (.aload_n 2, 1) := by decide +kernel
theorem dX9_apartUpTo_24 : decode cX9_apartUpTo 24 = .ok (.invokevirtual 191, 3) := by decide +kernel
theorem dX9_apartUpTo_27 : decode cX9_apartUpTo 27 = .ok (.ireturn, 1) := by decide +kernel
set_option maxRecDepth 20000 in
theorem ggX9_bestStep_X9_counter : GoodIn wsX9_bestStep wsX9_counter := goodIn_r _ [7, 8, 9, 10, 68, 69, 70, 71, 72, 73, 74, 75, 76, 77] (by decide +kernel) (by decide +kernel)
set_option maxRecDepth 20000 in
theorem gX9_bestStep_X9_counter : GoodIn wsX9_bestStep (wsV RX9 33 RX9 yX9_counter wsX9_counter) := goodIn_app (goodIn_of _ (by decide +kernel)) ggX9_bestStep_X9_counter
set_option maxRecDepth 20000 in
theorem ggX9_bestStep_X0_kindAt : GoodIn wsX9_bestStep wsX0_kindAt := goodIn_r _ [15, 16, 17, 6, 18, 59, 60, 61, 62, 63, 64, 65, 66, 67] (by decide +kernel) (by decide +kernel)
set_option maxRecDepth 20000 in
theorem gX9_bestStep_X0_kindAt : GoodIn wsX9_bestStep (wsV RX9 137 RX0 yX0_kindAt wsX0_kindAt) := goodIn_app (goodIn_of _ (by decide +kernel)) ggX9_bestStep_X0_kindAt
set_option maxRecDepth 20000 in
theorem ggX9_bestStep_X9_within : GoodIn wsX9_bestStep wsX9_within := goodIn_r _ [18] (by decide +kernel) (by decide +kernel)
set_option maxRecDepth 20000 in
theorem gX9_bestStep_X9_within : GoodIn wsX9_bestStep (va_wsS RX9 141 yX9_within wsX9_within) := goodIn_app (goodIn_of _ (by decide +kernel)) ggX9_bestStep_X9_within
set_option maxRecDepth 20000 in
theorem ggX9_bestStep_X7_greatestStep : GoodIn wsX9_bestStep wsX7_greatestStep := goodIn_r _ [24, 25, 26, 27, 28, 23, 29, 30, 31, 32, 33, 34, 35, 36, 37, 38, 39, 40, 41, 42, 6, 43, 44, 45, 46, 47, 48, 49, 50, 51, 52, 53, 54, 55, 56, 57, 58, 78, 79, 80, 81, 82] (by decide +kernel) (by decide +kernel)
set_option maxRecDepth 20000 in
theorem gX9_bestStep_X7_greatestStep : GoodIn wsX9_bestStep (wsV RX9 195 RX7 yX7_greatestStep wsX7_greatestStep) := goodIn_app (goodIn_of _ (by decide +kernel)) ggX9_bestStep_X7_greatestStep
theorem dX9_bestStep_0 : decode cX9_bestStep 0 = .ok (.aload_n 0, 1) := by decide +kernel
theorem dX9_bestStep_1 : decode cX9_bestStep 1 = .ok (.invokevirtual 33, 3) := by decide +kernel
theorem dX9_bestStep_4 : decode cX9_bestStep 4 = .ok (.iload_n 1, 1) := by decide +kernel
theorem dX9_bestStep_5 : decode cX9_bestStep 5 = .ok (.invokevirtual 137, 3) := by decide +kernel
theorem dX9_bestStep_8 : decode cX9_bestStep 8 = .ok (.astore_n 3, 1) := by decide +kernel
theorem dX9_bestStep_9 : decode cX9_bestStep 9 = .ok (.aload_n 3, 1) := by decide +kernel
theorem dX9_bestStep_10 : decode cX9_bestStep 10 = .ok (.ifnull 13, 3) := by decide +kernel
theorem dX9_bestStep_13 : decode cX9_bestStep 13 = .ok (.iload_n 2, 1) := by decide +kernel
theorem dX9_bestStep_14 : decode cX9_bestStep 14 = .ok (.iconst 0, 1) := by decide +kernel
theorem dX9_bestStep_15 : decode cX9_bestStep 15 = .ok (.bipush 99, 2) := by decide +kernel
theorem dX9_bestStep_17 : decode cX9_bestStep 17 = .ok (.invokestatic 141, 3) := by decide +kernel
theorem dX9_bestStep_20 : decode cX9_bestStep 20 = .ok (.ifCond .ne 6, 3) := by decide +kernel
theorem dX9_bestStep_23 : decode cX9_bestStep 23 = .ok (.ldc 145, 2) := by decide +kernel
theorem dX9_bestStep_25 : decode cX9_bestStep 25 = .ok (.ireturn, 1) := by decide +kernel
theorem dX9_bestStep_26 : decode cX9_bestStep 26 = .ok (.aload_n 0, 1) := by decide +kernel
theorem dX9_bestStep_27 : decode cX9_bestStep 27 = .ok (.invokevirtual 33, 3) := by decide +kernel
theorem dX9_bestStep_30 : decode cX9_bestStep 30 = .ok (.getfield 167, 3) := by decide +kernel
theorem dX9_bestStep_33 : decode cX9_bestStep 33 = .ok (.aload_n 3, 1) := by decide +kernel
theorem dX9_bestStep_34 : decode cX9_bestStep 34 = .ok (.iload_n 2, 1) := by decide +kernel
theorem dX9_bestStep_35 : decode cX9_bestStep 35 = .ok (.invokevirtual 195, 3) := by decide +kernel
theorem dX9_bestStep_38 : decode cX9_bestStep 38 = .ok (.ireturn, 1) := by decide +kernel
set_option maxRecDepth 20000 in
theorem ggX9_mixed_X9_counter : GoodIn wsX9_mixed wsX9_counter := goodIn_r _ [8, 9, 10, 11, 65, 66, 67, 68, 69, 70, 71, 72, 73, 74] (by decide +kernel) (by decide +kernel)
set_option maxRecDepth 20000 in
theorem gX9_mixed_X9_counter : GoodIn wsX9_mixed (wsV RX9 33 RX9 yX9_counter wsX9_counter) := goodIn_app (goodIn_of _ (by decide +kernel)) ggX9_mixed_X9_counter
set_option maxRecDepth 20000 in
theorem ggX9_mixed_X0_kindAt : GoodIn wsX9_mixed wsX0_kindAt := goodIn_r _ [16, 17, 18, 7, 19, 56, 57, 58, 59, 60, 61, 62, 63, 64] (by decide +kernel) (by decide +kernel)
set_option maxRecDepth 20000 in
theorem gX9_mixed_X0_kindAt : GoodIn wsX9_mixed (wsV RX9 137 RX0 yX0_kindAt wsX0_kindAt) := goodIn_app (goodIn_of _ (by decide +kernel)) ggX9_mixed_X0_kindAt
set_option maxRecDepth 20000 in
theorem ggX9_mixed_X9_within : GoodIn wsX9_mixed wsX9_within := goodIn_r _ [19] (by decide +kernel) (by decide +kernel)
set_option maxRecDepth 20000 in
theorem gX9_mixed_X9_within : GoodIn wsX9_mixed (va_wsS RX9 141 yX9_within wsX9_within) := goodIn_app (goodIn_of _ (by decide +kernel)) ggX9_mixed_X9_within
set_option maxRecDepth 20000 in
theorem ggX9_mixed_X7_mixedPairs : GoodIn wsX9_mixed wsX7_mixedPairs := goodIn_r _ [25, 26, 27, 28, 29, 24, 30, 31, 32, 33, 34, 35, 36, 37, 38, 39, 40, 41, 42, 43, 44, 45, 46, 47, 48, 49, 50, 51, 52, 53, 54, 55, 75, 76, 77, 78, 79] (by decide +kernel) (by decide +kernel)
set_option maxRecDepth 20000 in
theorem gX9_mixed_X7_mixedPairs : GoodIn wsX9_mixed (wsV RX9 199 RX7 yX7_mixedPairs wsX7_mixedPairs) := goodIn_app (goodIn_of _ (by decide +kernel)) ggX9_mixed_X7_mixedPairs
theorem dX9_mixed_0 : decode cX9_mixed 0 = .ok (.aload_n 0, 1) := by decide +kernel
theorem dX9_mixed_1 : decode cX9_mixed 1 = .ok (.invokevirtual 33, 3) := by decide +kernel
theorem dX9_mixed_4 : decode cX9_mixed 4 = .ok (.iload_n 1, 1) := by decide +kernel
theorem dX9_mixed_5 : decode cX9_mixed 5 = .ok (.invokevirtual 137, 3) := by decide +kernel
theorem dX9_mixed_8 : decode cX9_mixed 8 = .ok (.astore 5, 2) := by decide +kernel
theorem dX9_mixed_10 : decode cX9_mixed 10 = .ok (.aload_n 0, 1) := by decide +kernel
theorem dX9_mixed_11 : decode cX9_mixed 11 = .ok (.invokevirtual 33, 3) := by decide +kernel
theorem dX9_mixed_14 : decode cX9_mixed 14 = .ok (.iload_n 2, 1) := by decide +kernel
theorem dX9_mixed_15 : decode cX9_mixed 15 = .ok (.invokevirtual 137, 3) := by decide +kernel
theorem dX9_mixed_18 : decode cX9_mixed 18 = .ok (.astore 6, 2) := by decide +kernel
theorem dX9_mixed_20 : decode cX9_mixed 20 = .ok (.aload 5, 2) := by decide +kernel
theorem dX9_mixed_22 : decode cX9_mixed 22 = .ok (.ifnull 13, 3) := by decide +kernel
theorem dX9_mixed_25 : decode cX9_mixed 25 = .ok (.aload 6, 2) := by decide +kernel
theorem dX9_mixed_27 : decode cX9_mixed 27 = .ok (.ifnull 8, 3) := by decide +kernel
theorem dX9_mixed_30 : decode cX9_mixed 30 = .ok (.iload_n 1, 1) := by decide +kernel
theorem dX9_mixed_31 : decode cX9_mixed 31 = .ok (.iload_n 2, 1) := by decide +kernel
theorem dX9_mixed_32 : decode cX9_mixed 32 = .ok (.if_icmp .ne 6, 3) := by decide +kernel
theorem dX9_mixed_35 : decode cX9_mixed 35 = .ok (.ldc 145, 2) := by decide +kernel
theorem dX9_mixed_37 : decode cX9_mixed 37 = .ok (.ireturn, 1) := by decide +kernel
theorem dX9_mixed_38 : decode cX9_mixed 38 = .ok (.iload_n 3, 1) := by decide +kernel
theorem dX9_mixed_39 : decode cX9_mixed 39 = .ok (.iconst 0, 1) := by decide +kernel
theorem dX9_mixed_40 : decode cX9_mixed 40 = .ok (.ldc 166, 2) := by decide +kernel
theorem dX9_mixed_42 : decode cX9_mixed 42 = .ok (.invokestatic 141, 3) := by decide +kernel
theorem dX9_mixed_45 : decode cX9_mixed 45 = .ok (.ifCond .eq 13, 3) := by decide +kernel
theorem dX9_mixed_48 : decode cX9_mixed 48 = .ok (.iload 4, 2) := by decide +kernel
theorem dX9_mixed_50 : decode cX9_mixed 50 = .ok (.iconst 0, 1) := by decide +kernel
theorem dX9_mixed_51 : decode cX9_mixed 51 = .ok (.iconst 2, 1) := by decide +kernel
theorem dX9_mixed_52 : decode cX9_mixed 52 = .ok (.invokestatic 141, 3) := by decide +kernel
theorem dX9_mixed_55 : decode cX9_mixed 55 = .ok (.ifCond .ne 6, 3) := by decide +kernel
theorem dX9_mixed_58 : decode cX9_mixed 58 = .ok (.ldc 145, 2) := by decide +kernel
theorem dX9_mixed_60 : decode cX9_mixed 60 = .ok (.ireturn, 1) := by decide +kernel
theorem dX9_mixed_61 : decode cX9_mixed 61 = .ok (.aload_n 0, 1) := by decide +kernel
theorem dX9_mixed_62 : decode cX9_mixed 62 = .ok (.invokevirtual 33, 3) := by decide +kernel
theorem dX9_mixed_65 : decode cX9_mixed 65 = .ok (.getfield 167, 3) := by decide +kernel
theorem dX9_mixed_68 : decode cX9_mixed 68 = .ok (.aload 5, 2) := by decide +kernel
theorem dX9_mixed_70 : decode cX9_mixed 70 = .ok (.aload 6, 2) := by decide +kernel
theorem dX9_mixed_72 : decode cX9_mixed 72 = .ok (.iload_n 3, 1) := by decide +kernel
theorem dX9_mixed_73 : decode cX9_mixed 73 = .ok (.iload 4, 2) := by decide +kernel
theorem dX9_mixed_75 : decode cX9_mixed 75 = .ok (.invokevirtual 199, 3) := by decide +kernel
theorem dX9_mixed_78 : decode cX9_mixed 78 = .ok (.ireturn, 1) := by decide +kernel
set_option maxRecDepth 20000 in
theorem ggX9_would_X9_within : GoodIn wsX9_would wsX9_within := goodIn_r _ [5] (by decide +kernel) (by decide +kernel)
set_option maxRecDepth 20000 in
theorem gX9_would_X9_within : GoodIn wsX9_would (va_wsS RX9 141 yX9_within wsX9_within) := goodIn_app (goodIn_of _ (by decide +kernel)) ggX9_would_X9_within
set_option maxRecDepth 20000 in
theorem ggX9_would_X9_counter : GoodIn wsX9_would wsX9_counter := goodIn_r _ [9, 10, 11, 12, 88, 89, 90, 91, 92, 93, 94, 95, 96, 97] (by decide +kernel) (by decide +kernel)
set_option maxRecDepth 20000 in
theorem gX9_would_X9_counter : GoodIn wsX9_would (wsV RX9 33 RX9 yX9_counter wsX9_counter) := goodIn_app (goodIn_of _ (by decide +kernel)) ggX9_would_X9_counter
set_option maxRecDepth 20000 in
theorem ggX9_would_X0_given : GoodIn wsX9_would wsX0_given := goodIn_r _ [17, 18, 19, 20, 21, 22, 23, 24, 25, 26, 27, 28, 16, 29, 30, 3, 4, 5, 31, 32, 33, 34, 35, 36, 37, 38, 39, 40, 41, 42, 43, 44, 45, 46, 47, 48, 49, 50, 51, 52, 53, 54, 55, 56, 57, 58, 59, 60, 61, 62, 63, 64, 65, 66, 67, 68, 69, 70, 71, 72, 73, 74, 75, 76, 77, 78, 79, 80, 81, 82, 83, 84, 85, 86, 87, 98, 99, 100, 101, 102, 103, 104, 105, 106, 107, 108, 109, 110, 111, 112, 113, 114, 115, 116, 117] (by decide +kernel) (by decide +kernel)
set_option maxRecDepth 20000 in
theorem gX9_would_X0_given : GoodIn wsX9_would (wsV RX9 203 RX0 yX0_given wsX0_given) := goodIn_app (goodIn_of _ (by decide +kernel)) ggX9_would_X0_given
theorem dX9_would_0 : decode cX9_would 0 = .ok (.iload_n 1, 1) := by decide +kernel
theorem dX9_would_1 : decode cX9_would 1 = .ok (.iconst 0, 1) := by decide +kernel
theorem dX9_would_2 : decode cX9_would 2 = .ok (.iconst 3, 1) := by decide +kernel
theorem dX9_would_3 : decode cX9_would 3 = .ok (.invokestatic 141, 3) := by decide +kernel
theorem dX9_would_6 : decode cX9_would 6 = .ok (.ifCond .ne 6, 3) := by decide +kernel
theorem dX9_would_9 : decode cX9_would 9 = .ok (.ldc 145, 2) := by decide +kernel
theorem dX9_would_11 : decode cX9_would 11 = .ok (.ireturn, 1) := by decide +kernel
theorem dX9_would_12 : decode cX9_would 12 = .ok (.aload_n 0, 1) := by decide +kernel
theorem dX9_would_13 : decode cX9_would 13 = .ok (.invokevirtual 33, 3) := by decide +kernel
theorem dX9_would_16 : decode cX9_would 16 = .ok (.iload_n 1, 1) := by decide +kernel
theorem dX9_would_17 : decode cX9_would 17 = .ok (.invokevirtual 203, 3) := by decide +kernel
theorem dX9_would_20 : decode cX9_would 20 = .ok (.ireturn, 1) := by decide +kernel
set_option maxRecDepth 20000 in
theorem ggX9_fairest_X9_counter : GoodIn wsX9_fairest wsX9_counter := goodIn_r _ [5, 6, 7, 8, 93, 94, 95, 96, 97, 98, 99, 100, 101, 102] (by decide +kernel) (by decide +kernel)
set_option maxRecDepth 20000 in
theorem gX9_fairest_X9_counter : GoodIn wsX9_fairest (wsV RX9 33 RX9 yX9_counter wsX9_counter) := goodIn_app (goodIn_of _ (by decide +kernel)) ggX9_fairest_X9_counter
set_option maxRecDepth 20000 in
theorem ggX9_fairest_X0_fairestRule : GoodIn wsX9_fairest wsX0_fairestRule := goodIn_r _ [13, 14, 15, 16, 17, 18, 19, 20, 21, 22, 12, 23, 24, 25, 26, 27, 28, 29, 30, 31, 32, 33, 34, 35, 4, 36, 37, 38, 39, 40, 41, 42, 43, 44, 45, 46, 47, 48, 49, 50, 51, 52, 53, 54, 55, 56, 57, 58, 59, 60, 61, 62, 63, 64, 65, 66, 67, 68, 69, 70, 71, 72, 73, 74, 75, 76, 77, 78, 79, 80, 81, 82, 83, 84, 85, 86, 87, 88, 89, 90, 91, 92, 103, 104, 105, 106, 107, 108, 109, 110, 111, 112, 113, 114, 115, 116, 117, 118, 119, 120, 121, 122] (by decide +kernel) (by decide +kernel)
set_option maxRecDepth 20000 in
theorem gX9_fairest_X0_fairestRule : GoodIn wsX9_fairest (wsV RX9 206 RX0 yX0_fairestRule wsX0_fairestRule) := goodIn_app (goodIn_of _ (by decide +kernel)) ggX9_fairest_X0_fairestRule
theorem dX9_fairest_0 : decode cX9_fairest 0 = .ok (.aload_n 0, 1) := by decide +kernel
theorem dX9_fairest_1 : decode cX9_fairest 1 = .ok (.invokevirtual 33, 3) := by decide +kernel
theorem dX9_fairest_4 : decode cX9_fairest 4 = .ok (.invokevirtual 206, 3) := by decide +kernel
theorem dX9_fairest_7 : decode cX9_fairest 7 = .ok (.ireturn, 1) := by decide +kernel
set_option maxRecDepth 20000 in
theorem ggX9_soldOut_X9_counter : GoodIn wsX9_soldOut wsX9_counter := goodIn_r _ [7, 8, 9, 10, 51, 52, 53, 54, 55, 56, 57, 58, 59, 60] (by decide +kernel) (by decide +kernel)
set_option maxRecDepth 20000 in
theorem gX9_soldOut_X9_counter : GoodIn wsX9_soldOut (wsV RX9 33 RX9 yX9_counter wsX9_counter) := goodIn_app (goodIn_of _ (by decide +kernel)) ggX9_soldOut_X9_counter
set_option maxRecDepth 20000 in
theorem ggX9_soldOut_X0_prizeAt : GoodIn wsX9_soldOut wsX0_prizeAt := goodIn_r _ [15, 16, 17, 18, 6, 19, 61, 62, 63, 64, 65, 66, 67, 68, 69] (by decide +kernel) (by decide +kernel)
set_option maxRecDepth 20000 in
theorem gX9_soldOut_X0_prizeAt : GoodIn wsX9_soldOut (wsV RX9 161 RX0 yX0_prizeAt wsX0_prizeAt) := goodIn_app (goodIn_of _ (by decide +kernel)) ggX9_soldOut_X0_prizeAt
set_option maxRecDepth 20000 in
theorem ggX9_soldOut_X5_copyFrom : GoodIn wsX9_soldOut wsX5_copyFrom := goodIn_r _ [24, 25, 26, 27, 28, 29, 30, 31, 70, 71, 72, 73, 74, 75, 76] (by decide +kernel) (by decide +kernel)
set_option maxRecDepth 20000 in
theorem gX9_soldOut_X5_copyFrom : GoodIn wsX9_soldOut (wsV RX9 209 RX5 yX5_copyFrom wsX5_copyFrom) := goodIn_app (goodIn_of _ (by decide +kernel)) ggX9_soldOut_X5_copyFrom
set_option maxRecDepth 20000 in
theorem ggX9_soldOut_X5_sellOut : GoodIn wsX9_soldOut wsX5_sellOut := goodIn_r _ [35, 27, 36, 37, 38, 39, 23, 40, 30, 26, 28, 31, 29, 41, 42, 43, 44, 45, 6, 46, 47, 48, 49, 50, 70, 71, 72, 73, 74, 75, 76] (by decide +kernel) (by decide +kernel)
set_option maxRecDepth 20000 in
theorem gX9_soldOut_X5_sellOut : GoodIn wsX9_soldOut (wsV RX9 213 RX5 yX5_sellOut wsX5_sellOut) := goodIn_app (goodIn_of _ (by decide +kernel)) ggX9_soldOut_X5_sellOut
theorem dX9_soldOut_0 : decode cX9_soldOut 0 = .ok (.aload_n 0, 1) := by decide +kernel
theorem dX9_soldOut_1 : decode cX9_soldOut 1 = .ok (.invokevirtual 33, 3) := by decide +kernel
theorem dX9_soldOut_4 : decode cX9_soldOut 4 = .ok (.iload_n 1, 1) := by decide +kernel
theorem dX9_soldOut_5 : decode cX9_soldOut 5 = .ok (.invokevirtual 161, 3) := by decide +kernel
theorem dX9_soldOut_8 : decode cX9_soldOut 8 = .ok (.astore_n 2, 1) := by decide +kernel
theorem dX9_soldOut_9 : decode cX9_soldOut 9 = .ok (.aload_n 2, 1) := by decide +kernel
theorem dX9_soldOut_10 : decode cX9_soldOut 10 = .ok (.ifnonnull 6, 3) := by decide +kernel
theorem dX9_soldOut_13 : decode cX9_soldOut 13 = .ok (.ldc 145, 2) := by decide +kernel
theorem dX9_soldOut_15 : decode cX9_soldOut 15 = .ok (.ireturn, 1) := by decide +kernel
theorem dX9_soldOut_16 : decode cX9_soldOut 16 = .ok (.aload_n 0, 1) := by decide +kernel
theorem dX9_soldOut_17 : decode cX9_soldOut 17 = .ok (.getfield 26, 3) := by decide +kernel
theorem dX9_soldOut_20 : decode cX9_soldOut 20 = .ok (.aload_n 2, 1) := by decide +kernel
theorem dX9_soldOut_21 : decode cX9_soldOut 21 = .ok (.invokevirtual 209, 3) := by decide +kernel
theorem dX9_soldOut_24 : decode cX9_soldOut 24 = .ok (.aload_n 0, 1) := by decide +kernel
theorem dX9_soldOut_25 : decode cX9_soldOut 25 = .ok (.getfield 26, 3) := by decide +kernel
theorem dX9_soldOut_28 : decode cX9_soldOut 28 = .ok (.invokevirtual 213, 3) := by decide +kernel
theorem dX9_soldOut_31 : decode cX9_soldOut 31 = .ok (.ireturn, 1) := by decide +kernel
set_option maxRecDepth 20000 in
theorem ggX9_shop_X9_counter : GoodIn wsX9_shop wsX9_counter := goodIn_r _ [7, 8, 9, 10, 58, 59, 60, 61, 62, 63, 64, 65, 66, 67] (by decide +kernel) (by decide +kernel)
set_option maxRecDepth 20000 in
theorem gX9_shop_X9_counter : GoodIn wsX9_shop (wsV RX9 33 RX9 yX9_counter wsX9_counter) := goodIn_app (goodIn_of _ (by decide +kernel)) ggX9_shop_X9_counter
set_option maxRecDepth 20000 in
theorem ggX9_shop_X0_customerAt : GoodIn wsX9_shop wsX0_customerAt := goodIn_r _ [15, 16, 17, 18, 6, 19, 68, 69, 70, 71, 72, 73, 74, 75, 76] (by decide +kernel) (by decide +kernel)
set_option maxRecDepth 20000 in
theorem gX9_shop_X0_customerAt : GoodIn wsX9_shop (wsV RX9 154 RX0 yX0_customerAt wsX0_customerAt) := goodIn_app (goodIn_of _ (by decide +kernel)) ggX9_shop_X0_customerAt
set_option maxRecDepth 20000 in
theorem ggX9_shop_X9_within : GoodIn wsX9_shop wsX9_within := goodIn_r _ [19] (by decide +kernel) (by decide +kernel)
set_option maxRecDepth 20000 in
theorem gX9_shop_X9_within : GoodIn wsX9_shop (va_wsS RX9 141 yX9_within wsX9_within) := goodIn_app (goodIn_of _ (by decide +kernel)) ggX9_shop_X9_within
set_option maxRecDepth 20000 in
theorem ggX9_shop_X0_shopWith : GoodIn wsX9_shop wsX0_shopWith := goodIn_r _ [24, 25, 26, 27, 28, 29, 30, 31, 32, 33, 34, 14, 35, 36, 37, 38, 39, 40, 41, 42, 43, 44, 45, 18, 6, 19, 46, 47, 48, 49, 50, 51, 77, 78, 79, 80, 81, 82, 83, 68, 69, 70, 71, 72, 73, 74, 75, 76] (by decide +kernel) (by decide +kernel)
set_option maxRecDepth 20000 in
theorem gX9_shop_X0_shopWith : GoodIn wsX9_shop (wsV RX9 219 RX0 yX0_shopWith wsX0_shopWith) := goodIn_app (goodIn_of _ (by decide +kernel)) ggX9_shop_X0_shopWith
theorem dX9_shop_0 : decode cX9_shop 0 = .ok (.aload_n 0, 1) := by decide +kernel
theorem dX9_shop_1 : decode cX9_shop 1 = .ok (.invokevirtual 33, 3) := by decide +kernel
theorem dX9_shop_4 : decode cX9_shop 4 = .ok (.iload_n 1, 1) := by decide +kernel
theorem dX9_shop_5 : decode cX9_shop 5 = .ok (.invokevirtual 154, 3) := by decide +kernel
theorem dX9_shop_8 : decode cX9_shop 8 = .ok (.astore_n 3, 1) := by decide +kernel
theorem dX9_shop_9 : decode cX9_shop 9 = .ok (.aload_n 3, 1) := by decide +kernel
theorem dX9_shop_10 : decode cX9_shop 10 = .ok (.ifnull 12, 3) := by decide +kernel
theorem dX9_shop_13 : decode cX9_shop 13 = .ok (.iload_n 2, 1) := by decide +kernel
theorem dX9_shop_14 : decode cX9_shop 14 = .ok (.iconst 0, 1) := by decide +kernel
theorem dX9_shop_15 : decode cX9_shop 15 = .ok (.iconst 2, 1) := by decide +kernel
theorem dX9_shop_16 : decode cX9_shop 16 = .ok (.invokestatic 141, 3) := by decide +kernel
theorem dX9_shop_19 : decode cX9_shop 19 = .ok (.ifCond .ne 6, 3) := by decide +kernel
theorem dX9_shop_22 : decode cX9_shop 22 = .ok (.ldc 145, 2) := by decide +kernel
theorem dX9_shop_24 : decode cX9_shop 24 = .ok (.ireturn, 1) := by decide +kernel
theorem dX9_shop_25 : decode cX9_shop 25 = .ok (.aload_n 0, 1) := by decide +kernel
theorem dX9_shop_26 : decode cX9_shop 26 = .ok (.invokevirtual 33, 3) := by decide +kernel
theorem dX9_shop_29 : decode cX9_shop 29 = .ok (.aload_n 3, 1) := by decide +kernel
theorem dX9_shop_30 : decode cX9_shop 30 = .ok (.getfield 216, 3) := by decide +kernel
theorem dX9_shop_33 : decode cX9_shop 33 = .ok (.iload_n 2, 1) := by decide +kernel
theorem dX9_shop_34 : decode cX9_shop 34 = .ok (.invokevirtual 219, 3) := by decide +kernel
theorem dX9_shop_37 : decode cX9_shop 37 = .ok (.ireturn, 1) := by decide +kernel
theorem dX9_counter_0 : decode cX9_counter 0 = .ok (.aload_n 0, 1) := by decide +kernel
theorem dX9_counter_1 : decode cX9_counter 1 = .ok (.getfield 10, 3) := by decide +kernel
theorem dX9_counter_4 : decode cX9_counter 4 = .ok (.getfield 86, 3) := by decide +kernel
theorem dX9_counter_7 : decode cX9_counter 7 = .ok (.getfield 222, 3) := by decide +kernel
theorem dX9_counter_10 : decode cX9_counter 10 = .ok (.areturn, 1) := by decide +kernel
theorem dX9_within_0 : decode cX9_within 0 = .ok (.iload_n 0, 1) := by decide +kernel
theorem dX9_within_1 : decode cX9_within 1 = .ok (.iload_n 1, 1) := by decide +kernel
theorem dX9_within_2 : decode cX9_within 2 = .ok (.if_icmp .lt 12, 3) := by decide +kernel
theorem dX9_within_5 : decode cX9_within 5 = .ok (.iload_n 0, 1) := by decide +kernel
theorem dX9_within_6 : decode cX9_within 6 = .ok (.iload_n 2, 1) := by decide +kernel
theorem dX9_within_7 : decode cX9_within 7 = .ok (.if_icmp .gt 7, 3) := by decide +kernel
theorem dX9_within_10 : decode cX9_within 10 = .ok (.iconst 1, 1) := by decide +kernel
theorem dX9_within_11 : decode cX9_within 11 = .ok (.goto 4, 3) := by decide +kernel
theorem dX9_within_14 : decode cX9_within 14 = .ok (.iconst 0, 1) := by decide +kernel
theorem dX9_within_15 : decode cX9_within 15 = .ok (.ireturn, 1) := by decide +kernel
theorem dX9_isError_0 : decode cX9_isError 0 = .ok (.iload_n 0, 1) := by decide +kernel
theorem dX9_isError_1 : decode cX9_isError 1 = .ok (.ldc 145, 2) := by decide +kernel
theorem dX9_isError_3 : decode cX9_isError 3 = .ok (.if_icmp .eq 15, 3) := by decide +kernel
theorem dX9_isError_6 : decode cX9_isError 6 = .ok (.iload_n 0, 1) := by decide +kernel
theorem dX9_isError_7 : decode cX9_isError 7 = .ok (.ldc 225, 2) := by decide +kernel
theorem dX9_isError_9 : decode cX9_isError 9 = .ok (.if_icmp .eq 9, 3) := by decide +kernel
theorem dX9_isError_12 : decode cX9_isError 12 = .ok (.iload_n 0, 1) := by decide +kernel
theorem dX9_isError_13 : decode cX9_isError 13 = .ok (.ldc 226, 2) := by decide +kernel
theorem dX9_isError_15 : decode cX9_isError 15 = .ok (.if_icmp .ne 7, 3) := by decide +kernel
theorem dX9_isError_18 : decode cX9_isError 18 = .ok (.iconst 1, 1) := by decide +kernel
theorem dX9_isError_19 : decode cX9_isError 19 = .ok (.goto 4, 3) := by decide +kernel
theorem dX9_isError_22 : decode cX9_isError 22 = .ok (.iconst 0, 1) := by decide +kernel
theorem dX9_isError_23 : decode cX9_isError 23 = .ok (.ireturn, 1) := by decide +kernel
set_option maxRecDepth 20000 in
theorem ggX9_quotient_J9_floorDiv_7cf53 : GoodIn wsX9_quotient wsJ9_floorDiv_7cf53 := goodIn_r _ [4] (by decide +kernel) (by decide +kernel)
set_option maxRecDepth 20000 in
theorem gX9_quotient_J9_floorDiv_7cf53 : GoodIn wsX9_quotient (va_wsS RX9 227 yJ9_floorDiv_7cf53 wsJ9_floorDiv_7cf53) := goodIn_app (goodIn_of _ (by decide +kernel)) ggX9_quotient_J9_floorDiv_7cf53
theorem dX9_quotient_0 : decode cX9_quotient 0 = .ok (.iload_n 1, 1) := by decide +kernel
theorem dX9_quotient_1 : decode cX9_quotient 1 = .ok (.iconst 1, 1) := by decide +kernel
theorem dX9_quotient_2 : decode cX9_quotient 2 = .ok (.if_icmp .ge 5, 3) := by decide +kernel
theorem dX9_quotient_5 : decode cX9_quotient 5 = .ok (.iconst 0, 1) := by decide +kernel
theorem dX9_quotient_6 : decode cX9_quotient 6 = .ok (.ireturn, 1) := by decide +kernel
theorem dX9_quotient_7 : decode cX9_quotient 7 = .ok (.iload_n 0, 1) := by decide +kernel
theorem dX9_quotient_8 : decode cX9_quotient 8 = .ok (.iload_n 1, 1) := by decide +kernel
theorem dX9_quotient_9 : decode cX9_quotient 9 = .ok (.invokestatic 227, 3) := by decide +kernel
theorem dX9_quotient_12 : decode cX9_quotient 12 = .ok (.ireturn, 1) := by decide +kernel
set_option maxRecDepth 20000 in
theorem ggX9_readingAt_X9_quotient : GoodIn wsX9_readingAt wsX9_quotient := goodIn_r _ [8, 9, 10, 11, 12] (by decide +kernel) (by decide +kernel)
set_option maxRecDepth 20000 in
theorem gX9_readingAt_X9_quotient : GoodIn wsX9_readingAt (va_wsS RX9 232 yX9_quotient wsX9_quotient) := goodIn_app (goodIn_of _ (by decide +kernel)) ggX9_readingAt_X9_quotient
theorem dX9_readingAt_0 : decode cX9_readingAt 0 = .ok (.iconst 0, 1) := by decide +kernel
theorem dX9_readingAt_1 : decode cX9_readingAt 1 = .ok (.iload_n 0, 1) := by decide +kernel
theorem dX9_readingAt_2 : decode cX9_readingAt 2 = .ok (.iconst 2, 1) := by decide +kernel
theorem dX9_readingAt_3 : decode cX9_readingAt 3 = .ok (.iload_n 1, 1) := by decide +kernel
theorem dX9_readingAt_4 : decode cX9_readingAt 4 = .ok (.imul, 1) := by decide +kernel
theorem dX9_readingAt_5 : decode cX9_readingAt 5 = .ok (.iload_n 0, 1) := by decide +kernel
theorem dX9_readingAt_6 : decode cX9_readingAt 6 = .ok (.iadd, 1) := by decide +kernel
theorem dX9_readingAt_7 : decode cX9_readingAt 7 = .ok (.iconst 2, 1) := by decide +kernel
theorem dX9_readingAt_8 : decode cX9_readingAt 8 = .ok (.iload_n 0, 1) := by decide +kernel
theorem dX9_readingAt_9 : decode cX9_readingAt 9 = .ok (.imul, 1) := by decide +kernel
theorem dX9_readingAt_10 : decode cX9_readingAt 10 = .ok (.invokestatic 232, 3) := by decide +kernel
theorem dX9_readingAt_13 : decode cX9_readingAt 13 = .ok (.imul, 1) := by decide +kernel
theorem dX9_readingAt_14 : decode cX9_readingAt 14 = .ok (.invokestatic 235, 3) := by decide +kernel
theorem dX9_readingAt_17 : decode cX9_readingAt 17 = .ok (.ireturn, 1) := by decide +kernel
theorem dJ9_floorDiv_7cf53_0 : decode cJ9_floorDiv_7cf53 0 = .ok (.iload_n 0, 1) := by decide +kernel
theorem dJ9_floorDiv_7cf53_1 : decode cJ9_floorDiv_7cf53 1 = .ok (.iload_n 1, 1) := by decide +kernel
theorem dJ9_floorDiv_7cf53_2 : decode cJ9_floorDiv_7cf53 2 = .ok (.idiv, 1) := by decide +kernel
theorem dJ9_floorDiv_7cf53_3 : decode cJ9_floorDiv_7cf53 3 = .ok (.istore_n 2, 1) := by decide +kernel
theorem dJ9_floorDiv_7cf53_4 : decode cJ9_floorDiv_7cf53 4 = .ok (.iload_n 0, 1) := by decide +kernel
theorem dJ9_floorDiv_7cf53_5 : decode cJ9_floorDiv_7cf53 5 = .ok (.iload_n 1, 1) := by decide +kernel
theorem dJ9_floorDiv_7cf53_6 : decode cJ9_floorDiv_7cf53 6 = .ok (.ixor, 1) := by decide +kernel
theorem dJ9_floorDiv_7cf53_7 : decode cJ9_floorDiv_7cf53 7 = .ok (.ifCond .ge 14, 3) := by decide +kernel
theorem dJ9_floorDiv_7cf53_10 : decode cJ9_floorDiv_7cf53 10 = .ok (.iload_n 2, 1) := by decide +kernel
theorem dJ9_floorDiv_7cf53_11 : decode cJ9_floorDiv_7cf53 11 = .ok (.iload_n 1, 1) := by decide +kernel
theorem dJ9_floorDiv_7cf53_12 : decode cJ9_floorDiv_7cf53 12 = .ok (.imul, 1) := by decide +kernel
theorem dJ9_floorDiv_7cf53_13 : decode cJ9_floorDiv_7cf53 13 = .ok (.iload_n 0, 1) := by decide +kernel
theorem dJ9_floorDiv_7cf53_14 : decode cJ9_floorDiv_7cf53 14 = .ok (.if_icmp .eq 7, 3) := by decide +kernel
theorem dJ9_floorDiv_7cf53_17 : decode cJ9_floorDiv_7cf53 17 = .ok (.iload_n 2, 1) := by decide +kernel
theorem dJ9_floorDiv_7cf53_18 : decode cJ9_floorDiv_7cf53 18 = .ok (.iconst 1, 1) := by decide +kernel
theorem dJ9_floorDiv_7cf53_19 : decode cJ9_floorDiv_7cf53 19 = .ok (.isub, 1) := by decide +kernel
theorem dJ9_floorDiv_7cf53_20 : decode cJ9_floorDiv_7cf53 20 = .ok (.ireturn, 1) := by decide +kernel
theorem dJ9_floorDiv_7cf53_21 : decode cJ9_floorDiv_7cf53 21 = .ok (.iload_n 2, 1) := by decide +kernel
theorem dJ9_floorDiv_7cf53_22 : decode cJ9_floorDiv_7cf53 22 = .ok (.ireturn, 1) := by decide +kernel
theorem dJ9_abs_0f7a4_0 : decode cJ9_abs_0f7a4 0 = .ok (.iload_n 0, 1) := by decide +kernel
theorem dJ9_abs_0f7a4_1 : decode cJ9_abs_0f7a4 1 = .ok (.ifCond .ge 8, 3) := by decide +kernel
theorem dJ9_abs_0f7a4_4 : decode cJ9_abs_0f7a4 4 = .ok (.iload_n 0, 1) := by decide +kernel
theorem dJ9_abs_0f7a4_5 : decode cJ9_abs_0f7a4 5 = .ok (.ineg, 1) := by decide +kernel
theorem dJ9_abs_0f7a4_6 : decode cJ9_abs_0f7a4 6 = .ok (.goto 4, 3) := by decide +kernel
theorem dJ9_abs_0f7a4_9 : decode cJ9_abs_0f7a4 9 = .ok (.iload_n 0, 1) := by decide +kernel
theorem dJ9_abs_0f7a4_10 : decode cJ9_abs_0f7a4 10 = .ok (.ireturn, 1) := by decide +kernel
theorem dJ9_max_7cf53_0 : decode cJ9_max_7cf53 0 = .ok (.iload_n 0, 1) := by decide +kernel
theorem dJ9_max_7cf53_1 : decode cJ9_max_7cf53 1 = .ok (.iload_n 1, 1) := by decide +kernel
theorem dJ9_max_7cf53_2 : decode cJ9_max_7cf53 2 = .ok (.if_icmp .lt 7, 3) := by decide +kernel
theorem dJ9_max_7cf53_5 : decode cJ9_max_7cf53 5 = .ok (.iload_n 0, 1) := by decide +kernel
theorem dJ9_max_7cf53_6 : decode cJ9_max_7cf53 6 = .ok (.goto 4, 3) := by decide +kernel
theorem dJ9_max_7cf53_9 : decode cJ9_max_7cf53 9 = .ok (.iload_n 1, 1) := by decide +kernel
theorem dJ9_max_7cf53_10 : decode cJ9_max_7cf53 10 = .ok (.ireturn, 1) := by decide +kernel
theorem dJ9_min_7cf53_0 : decode cJ9_min_7cf53 0 = .ok (.iload_n 0, 1) := by decide +kernel
theorem dJ9_min_7cf53_1 : decode cJ9_min_7cf53 1 = .ok (.iload_n 1, 1) := by decide +kernel
theorem dJ9_min_7cf53_2 : decode cJ9_min_7cf53 2 = .ok (.if_icmp .gt 7, 3) := by decide +kernel
theorem dJ9_min_7cf53_5 : decode cJ9_min_7cf53 5 = .ok (.iload_n 0, 1) := by decide +kernel
theorem dJ9_min_7cf53_6 : decode cJ9_min_7cf53 6 = .ok (.goto 4, 3) := by decide +kernel
theorem dJ9_min_7cf53_9 : decode cJ9_min_7cf53 9 = .ok (.iload_n 1, 1) := by decide +kernel
theorem dJ9_min_7cf53_10 : decode cJ9_min_7cf53 10 = .ok (.ireturn, 1) := by decide +kernel
abbrev vwCl : List vw_C := [(RX0, TX0, 9), (RX1, TX1, 6), (RX2, TX2, 4), (RX3, TX3, 4), (RX4, TX4, 2), (RX5, TX5, 7), (RX6, TX6, 6), (RX7, TX7, 3), (RX8, TX8, 3), (RX9, TX9, 3)]
end
section
/-! the heap as numbered cells: L = (how many, the kind of each, the length of an array), X = (numbers, references) -/
abbrev hL : Type := Nat × (Nat → Nat) × (Nat → Nat)
abbrev hX : Type := (Nat → Nat → Int32) × (Nat → Nat → Option Nat)
abbrev tk (L : hL) (k c : Nat) : Prop := k < L.1 ∧ L.2.1 k = c
abbrev hin (i : Int32) (n : Nat) : Prop := 0 ≤ i ∧ i.toNatClampNeg < n
def smi (X : hX) (a j : Nat) (v : Int32) : hX := (fun k i => if k = a ∧ i = j then v else X.1 k i, X.2)
def smr (X : hX) (a j : Nat) (o : Option Nat) : hX := (X.1, fun k i => if k = a ∧ i = j then o else X.2 k i)
def u_fuel : Nat := 3000
theorem hx_bind {α β : Type} {o : Option α} {f : α → Option β} {r : β} (h : o.bind f = some r) : ∃ x, o = some x ∧ f x = some r := by
  cases o with
  | none => cases h
  | some x => exact ⟨x, rfl, h⟩
theorem hx_gd {P : Prop} [Decidable P] {β : Type} {k : Option β} {r : β} (h : (if P then k else none) = some r) : P ∧ k = some r := by
  by_cases hp : P
  · rw [if_pos hp] at h; exact ⟨hp, h⟩
  · rw [if_neg hp] at h; cases h
theorem hx_pos {P : Prop} [Decidable P] {β : Type} {a b : Option β} {r : β} (hp : P) (h : (if P then a else b) = some r) : a = some r := by rwa [if_pos hp] at h
theorem hx_neg {P : Prop} [Decidable P] {β : Type} {a b : Option β} {r : β} (hp : ¬ P) (h : (if P then a else b) = some r) : b = some r := by rwa [if_neg hp] at h
theorem hx_some2 {α β : Type} {a r : α} {b x : β} (h : some (a, b) = some (r, x)) : r = a ∧ x = b := by
  have h1 := Option.some.inj h
  exact ⟨(congrArg Prod.fst h1).symm, (congrArg Prod.snd h1).symm⟩
theorem hx_some1 {α : Type} {a r : α} (h : some a = some r) : r = a := (Option.some.inj h).symm
theorem hx_eln {α β : Type} {a : Option β} {f : α → Option β} {r : β} (h : Option.elim (none : Option α) a f = some r) : a = some r := h
theorem hx_els {α β : Type} {x : α} {a : Option β} {f : α → Option β} {r : β} (h : Option.elim (some x) a f = some r) : f x = some r := h
theorem hx_nb {v : Int32} (h : v = 0 ∨ v = 1) : narrow .boolean (.int v) = .int v ∧ fits .boolean (.int v) = true := by
  rcases h with rfl | rfl <;> exact ⟨rfl, rfl⟩
theorem hx_nc {v : Int32} (h : 0 ≤ v ∧ v < 65536) : narrow .char (.int v) = .int v := by
  have h0 : ¬ v < 0 := fun q => by
    have h1 := h.1
    rw [Int32.le_iff_toInt_le] at h1
    rw [Int32.lt_iff_toInt_lt] at q
    omega
  obtain ⟨q, hq, rfl⟩ := nI_of h0
  have h2 := h.2
  rw [Int32.lt_iff_toInt_lt, nI_toInt hq] at h2
  exact (pk_charN (by have : ((65536 : Int32).toInt) = 65536 := by decide
                      omega)).1
theorem hin_lit {i : Int32} {n k : Nat} (h0 : 0 ≤ i) (hk : i.toNatClampNeg = k) (h : k < n) : hin i n := ⟨h0, by rw [hk]; exact h⟩
theorem hin_vp {i : Int32} {n : Nat} (h : hin i n) : vp_in i n := by
  intro q
  rcases q with q | q
  · exact absurd h.1 (by rw [Int32.le_iff_toInt_le]; rw [Int32.lt_iff_toInt_lt] at q; omega)
  · have := h.2; omega
/-- which fields of a class are references -/
def hfl : Nat → List Bool
  | 0 => [true, true, true, true, false, false, false, false, false]
  | 1 => [false, false, false, false, false, false]
  | 2 => [false, false, false, false]
  | 3 => [true, true, true, false]
  | 4 => [false, false]
  | 5 => [false, false, false, false, false, false, false]
  | 6 => [true, true, true, false, false, false]
  | 7 => [false, false, false]
  | 8 => [true, true, true]
  | 9 => [true, true, true]
  | 10 => [true, true, true, true, false, true, false, true, false, false, false, false, true, false, false]
  | _ => []
def hfs (ad : Nat → Nat) (X : hX) (k c : Nat) : List Value := (hfl c).mapIdx (fun j b => if b then va_re ad (X.2 k j) else .int (X.1 k j))
def hcell (cy : Nat → ClassId) (ad : Nat → Nat) (L : hL) (X : hX) (k : Nat) : va_E :=
  if L.2.1 k < 11 then .inr (L.2.1 k, hfs ad X k (L.2.1 k))
  else if L.2.1 k < 14 then .inl (cy (L.2.1 k), L.2.2 k, .inl (X.1 k))
  else .inl (cy (L.2.1 k), L.2.2 k, .inr (.inr (.inr (.inr (fun j => (X.2 k j).map ad)))))
theorem hcell_o {cy : Nat → ClassId} {ad : Nat → Nat} {L : hL} {X : hX} {k ci : Nat} (h : L.2.1 k = ci) (hc : ci < 11) : hcell cy ad L X k = .inr (ci, hfs ad X k ci) := by
  subst h; unfold hcell; rw [if_pos hc]
theorem hcell_i {cy : Nat → ClassId} {ad : Nat → Nat} {L : hL} {X : hX} {k ci : Nat} (h : L.2.1 k = ci) (h1 : ¬ ci < 11) (h2 : ci < 14) : hcell cy ad L X k = .inl (cy ci, L.2.2 k, .inl (X.1 k)) := by
  subst h; unfold hcell; rw [if_neg h1, if_pos h2]
theorem hcell_r {cy : Nat → ClassId} {ad : Nat → Nat} {L : hL} {X : hX} {k ci : Nat} (h : L.2.1 k = ci) (h2 : ¬ ci < 14) : hcell cy ad L X k = .inl (cy ci, L.2.2 k, .inr (.inr (.inr (.inr (fun j => (X.2 k j).map ad))))) := by
  subst h; unfold hcell; rw [if_neg (by omega), if_neg h2]
def hW (cy : Nat → ClassId) (ad : Nat → Nat) (L : hL) (X : hX) : va_W := (List.range L.1).map fun k => (ad k, hcell cy ad L X k)
theorem hW_at {cy : Nat → ClassId} {ad : Nat → Nat} {L : hL} {X : hX} {k : Nat} (h : k < L.1) : (hW cy ad L X)[k]? = some (ad k, hcell cy ad L X k) := by
  simp [hW, h]
theorem hW_some {cy : Nat → ClassId} {ad : Nat → Nat} {L : hL} {X : hX} {k : Nat} {q : Nat × va_E} (h : (hW cy ad L X)[k]? = some q) : k < L.1 ∧ q = (ad k, hcell cy ad L X k) := by
  have h1 : k < (hW cy ad L X).length := (List.getElem?_eq_some_iff.mp h).1
  have h2 : k < L.1 := by simpa [hW] using h1
  rw [hW_at h2] at h
  exact ⟨h2, (Option.some.inj h).symm⟩
theorem hW_set {cy : Nat → ClassId} {ad : Nat → Nat} {L : hL} {X : hX} (X' : hX) (a : Nat) (e : va_E) (hne : ∀ k, k ≠ a → hcell cy ad L X' k = hcell cy ad L X k) (he : hcell cy ad L X' a = e) : (hW cy ad L X).set a (ad a, e) = hW cy ad L X' := by
  apply List.ext_getElem?
  intro i
  rw [List.getElem?_set]
  by_cases hi : a = i
  · subst hi
    by_cases hl : a < L.1
    · rw [if_pos rfl, if_pos (by simpa [hW] using hl), hW_at hl, he]
    · rw [if_pos rfl, if_neg (by simpa [hW] using hl)]
      simp [hW, hl]
  · rw [if_neg hi]
    by_cases hl : i < L.1
    · rw [hW_at hl, hW_at hl, hne i (fun e => hi e.symm)]
    · simp [hW, hl]
theorem hfs_ne {ad : Nat → Nat} {X X' : hX} {k c : Nat} (h1 : ∀ i, X'.1 k i = X.1 k i) (h2 : ∀ i, X'.2 k i = X.2 k i) : hfs ad X' k c = hfs ad X k c := by
  unfold hfs
  congr 1
  funext j b
  rw [h1, h2]
theorem hcell_ne {cy : Nat → ClassId} {ad : Nat → Nat} {L : hL} {X X' : hX} {k : Nat} (h1 : ∀ i, X'.1 k i = X.1 k i) (h2 : ∀ i, X'.2 k i = X.2 k i) : hcell cy ad L X' k = hcell cy ad L X k := by
  have e1 : X'.1 k = X.1 k := funext h1
  have e2 : X'.2 k = X.2 k := funext h2
  unfold hcell
  rw [hfs_ne h1 h2, e1, e2]
theorem smi_1 {X : hX} {a j : Nat} {v : Int32} {k i : Nat} : (smi X a j v).1 k i = if k = a ∧ i = j then v else X.1 k i := rfl
theorem smi_2 {X : hX} {a j : Nat} {v : Int32} : (smi X a j v).2 = X.2 := rfl
theorem smr_1 {X : hX} {a j : Nat} {v : Option Nat} : (smr X a j v).1 = X.1 := rfl
theorem smr_2 {X : hX} {a j : Nat} {v : Option Nat} {k i : Nat} : (smr X a j v).2 k i = if k = a ∧ i = j then v else X.2 k i := rfl
theorem hfs_smi {ad : Nat → Nat} {X : hX} {a j c : Nat} {v : Int32} (hf : (hfl c)[j]? = some false) : (hfs ad X a c).set j (.int v) = hfs ad (smi X a j v) a c := by
  apply List.ext_getElem?
  intro i
  rw [List.getElem?_set]
  unfold hfs
  by_cases hi : j = i
  · subst hi
    have hl : j < (hfl c).length := (List.getElem?_eq_some_iff.mp hf).1
    rw [if_pos rfl, if_pos (by simpa using hl), List.getElem?_mapIdx, hf]
    simp [smi]
  · rw [if_neg hi, List.getElem?_mapIdx, List.getElem?_mapIdx]
    congr 1
    funext b
    have : ¬ (i = j) := fun e => hi e.symm
    simp [smi, this]
theorem hfs_smr {ad : Nat → Nat} {X : hX} {a j c : Nat} {o : Option Nat} (hf : (hfl c)[j]? = some true) : (hfs ad X a c).set j (va_re ad o) = hfs ad (smr X a j o) a c := by
  apply List.ext_getElem?
  intro i
  rw [List.getElem?_set]
  unfold hfs
  by_cases hi : j = i
  · subst hi
    have hl : j < (hfl c).length := (List.getElem?_eq_some_iff.mp hf).1
    rw [if_pos rfl, if_pos (by simpa using hl), List.getElem?_mapIdx, hf]
    simp [smr]
  · rw [if_neg hi, List.getElem?_mapIdx, List.getElem?_mapIdx]
    congr 1
    funext b
    have : ¬ (i = j) := fun e => hi e.symm
    simp [smr, this]
theorem hW_smi {cy : Nat → ClassId} {ad : Nat → Nat} {L : hL} {X : hX} {a j ci : Nat} {v : Int32} (h : L.2.1 a = ci) (hc : ci < 11) (hf : (hfl ci)[j]? = some false) : (hW cy ad L X).set a (ad a, .inr (ci, (hfs ad X a ci).set j (.int v))) = hW cy ad L (smi X a j v) := by
  refine hW_set _ _ _ (fun k hk => hcell_ne (fun i => ?_) (fun i => rfl)) ?_
  · rw [smi_1, if_neg (fun q => hk q.1)]
  · rw [hcell_o h hc, hfs_smi hf]
theorem hW_smr {cy : Nat → ClassId} {ad : Nat → Nat} {L : hL} {X : hX} {a j ci : Nat} {o : Option Nat} (h : L.2.1 a = ci) (hc : ci < 11) (hf : (hfl ci)[j]? = some true) : (hW cy ad L X).set a (ad a, .inr (ci, (hfs ad X a ci).set j (va_re ad o))) = hW cy ad L (smr X a j o) := by
  refine hW_set _ _ _ (fun k hk => hcell_ne (fun i => rfl) (fun i => ?_)) ?_
  · rw [smr_2, if_neg (fun q => hk q.1)]
  · rw [hcell_o h hc, hfs_smr hf]
theorem hW_ast {cy : Nat → ClassId} {ad : Nat → Nat} {L : hL} {X : hX} {a i ci : Nat} {v : Int32} (h : L.2.1 a = ci) (h1 : ¬ ci < 11) (h2 : ci < 14) : (hW cy ad L X).set a (ad a, .inl (cy ci, L.2.2 a, .inl (upd (X.1 a) i v))) = hW cy ad L (smi X a i v) := by
  refine hW_set _ _ _ (fun k hk => hcell_ne (fun i => ?_) (fun i => rfl)) ?_
  · rw [smi_1, if_neg (fun q => hk q.1)]
  · rw [hcell_i h h1 h2]
    congr 4
    funext q
    simp [smi, upd]
theorem hW_astr {cy : Nat → ClassId} {ad : Nat → Nat} {L : hL} {X : hX} {a i ci b : Nat} (h : L.2.1 a = ci) (h2 : ¬ ci < 14) : (hW cy ad L X).set a (ad a, .inl (cy ci, L.2.2 a, .inr (.inr (.inr (.inr (va_up (fun j => (X.2 a j).map ad) i (some (ad b)))))))) = hW cy ad L (smr X a i (some b)) := by
  refine hW_set _ _ _ (fun k hk => hcell_ne (fun i => rfl) (fun i => ?_)) ?_
  · rw [smr_2, if_neg (fun q => hk q.1)]
  · rw [hcell_r h h2]
    congr 7
    funext q
    by_cases hq : q = i <;> simp [smr, va_up, hq]
def hDD (A : Nat → Prop) (ad : Nat → Nat) (L : hL) : Prop := (∀ i j, i < L.1 → j < L.1 → ad i = ad j → i = j) ∧ ∀ k, k < L.1 → A (ad k)
theorem hDD.D {A : Nat → Prop} {ad : Nat → Nat} {L : hL} (h : hDD A ad L) (cy : Nat → ClassId) (X : hX) : va_D A (hW cy ad L X) := by
  refine ⟨fun i j p q hi hj e => ?_, fun k q hk => ?_⟩
  · obtain ⟨h1, rfl⟩ := hW_some hi
    obtain ⟨h2, rfl⟩ := hW_some hj
    exact h.1 i j h1 h2 e
  · obtain ⟨h1, rfl⟩ := hW_some hk
    exact h.2 k h1

def hNl : List (String × Nat × MethodName × String) := [("TicketScales$Counter", 19, ⟨"TicketScales$Scale", "<init>", "()V"⟩, "TicketScales"), ("TicketScales$Counter", 40, ⟨"TicketScales$Kind", "<init>", "()V"⟩, "TicketScales"), ("TicketScales$Counter", 41, ⟨"TicketScales$Customer", "<init>", "()V"⟩, "TicketScales"), ("TicketScales$Counter", 42, ⟨"TicketScales$Prize", "<init>", "()V"⟩, "TicketScales"), ("TicketScales", 18, ⟨"TicketScales$Program", "<init>", "()V"⟩, "TicketScales"), ("TicketScales$Program", 21, ⟨"TicketScales$Failure", "<init>", "()V"⟩, "TicketScales"), ("TicketScales", 25, ⟨"TicketScales$Prize", "<init>", "()V"⟩, "TicketScales"), ("TicketScales$Counter", 68, ⟨"TicketScales", "within", "(III)Z"⟩, "TicketScales"), ("TicketScales$History", 29, ⟨"TicketScales", "isError", "(I)Z"⟩, "TicketScales"), ("TicketScales$History", 43, ⟨"TicketScales", "within", "(III)Z"⟩, "TicketScales"), ("TicketScales$Prize", 33, ⟨"TicketScales", "quotient", "(II)I"⟩, "TicketScales"), ("TicketScales$Customer", 41, ⟨"TicketScales", "within", "(III)Z"⟩, "TicketScales"), ("TicketScales$Scale", 31, ⟨"TicketScales", "quotient", "(II)I"⟩, "TicketScales"), ("TicketScales$Counter", 197, ⟨"TicketScales", "quotient", "(II)I"⟩, "TicketScales"), ("TicketScales$Scale", 67, ⟨"TicketScales", "readingAt", "(II)I"⟩, "TicketScales"), ("TicketScales$Counter", 113, ⟨"TicketScales", "readingAt", "(II)I"⟩, "TicketScales")]
def hN (U : State) : Prop := ∀ q ∈ hNl, va_Nw (.methodLinkNest q.1 q.2.1 q.2.2.1 q.2.2.2) U
theorem hN.same {u U : State} (h : u.vm = U.vm) (hZ : hN u) : hN U := fun q hq => va_Nw.same rfl h (hZ q hq)
theorem hN.warm {s U : State} (hW : s.WarmedH U.vm) (hZ : hN s) : hN U := fun q hq => va_Nw.warmM hW (hZ q hq)
theorem hN_pad : True := trivial
def hAOl : List String := ["TicketScales$Counter", "TicketScales$Customer", "TicketScales$Kind", "TicketScales$Prize", "TicketScales$State"]
/-- the script, as numbers: its cell, its length, what stands in it -/
def sX (dI : Nat → Nat → Nat) : Nat → Int32 := fun k => Int32.ofNat (dI 101 k)
/-- what is said of the script and of array classes: no cell of ours -/
def hSt (dI : Nat → Nat → Nat) (A : Nat → Prop) (U : State) (H : Heap) : Prop := (va_X (dI 100 0) (dI 100 1) (sX dI) U H ∧ dI 100 0 < H.size ∧ ¬ A (dI 100 0)) ∧ ∀ Cn ∈ hAOl, va_AO Cn U
theorem hSt.same {dI : Nat → Nat → Nat} {A : Nat → Prop} {u U : State} {H : Heap} (hv : U.vm = u.vm) (h : hSt dI A u H) : hSt dI A U H := by
  have ha : u.vm.Alike U.vm := by rw [hv]; exact Vm.Alike.refl u.vm
  exact ⟨⟨h.1.1.moved ha, h.1.2⟩, fun Cn hq => (h.2 Cn hq).moved ha⟩
theorem hSt.go {dI : Nat → Nat → Nat} {A B : Nat → Prop} {s U : State} {H : Heap} {locs : List Loc} (h : hSt dI A s s.heap) (hS : va_S A s.heap H locs) (hW : s.WarmedH U.vm) (hAB : ∀ q, B q → A q) : hSt dI B U H :=
  ⟨⟨(h.1.1.kept (hS.2.1 _ h.1.2.1 h.1.2.2)).moved hW.alike, Nat.lt_of_lt_of_le h.1.2.1 hS.1, fun z => h.1.2.2 (hAB _ z)⟩, fun Cn hq => (h.2 Cn hq).moved hW.alike⟩
def hT (cy : Nat → ClassId) : List (ClassId × FieldType) := [(cy 11, .char), (cy 12, .int), (cy 13, .boolean), (cy 14, .object "TicketScales$Counter"), (cy 15, .object "TicketScales$Customer"), (cy 16, .object "TicketScales$Kind"), (cy 17, .object "TicketScales$Prize"), (cy 18, .object "TicketScales$State")]
def hA (ad : Nat → Nat) (L : hL) (sz : Nat) : Nat → Prop := fun q => (∃ k, k < L.1 ∧ q = ad k) ∨ sz ≤ q
def hU (dC : Nat → ClassId) (dI : Nat → Nat → Nat) (cy : Nat → ClassId) (ad : Nat → Nat) (L : hL) (X : hX) (U : State) : Prop := va_P (dC, dI) vwCl (hW cy ad L X) U.heap ∧ va_K (dC, dI) vwCl (hT cy) U ∧ hN U ∧ hSt dI (hA ad L U.heap.size) U U.heap
def hQ (dC : Nat → ClassId) (dI : Nat → Nat → Nat) (cy : Nat → ClassId) (ad : Nat → Nat) (L : hL) (sz : Nat) (ov : Option Value) (X' : hX) : Array Value → State → Outcome → State → Prop := fun _ st oc t => oc = .returned ov ∧ va_P (dC, dI) vwCl (hW cy ad L X') t.heap ∧ va_F (hA ad L sz) st t
def hMet (l : Launch) (dC : Nat → ClassId) (dI : Nat → Nat → Nat) (cy : Nat → ClassId) (ad : Nat → Nat) (L : hL) (y : MethodName) (ws : List Cond) (rm : Room) (av : List Value) (X : hX) (ov : Option Value) (X' : hX) : Prop :=
  hDD (fun _ => True) ad L → ∀ sz, Met l y ws rm (va_Pc av (fun U => U.heap.size = sz ∧ hU dC dI cy ad L X U)) (hQ dC dI cy ad L sz ov X') 0 0 (hA ad L sz)
def hC (p : Program) (s : State) (m : MethodId) (args : Array Value) (meth : Method) (c : Code) (dC : Nat → ClassId) (dI : Nat → Nat → Nat) (cy : Nat → ClassId) (ad : Nat → Nat) (L : hL) (A : Nat → Prop) (cc : ByteArray) (nL : Nat) (Ts : List Cond) (own : String) : Prop :=
  p.tables.exec = Jvm.exec ∧ c.code = cc ∧ c.maxLocals = nL ∧ s.vm.findClass own = some m.cls ∧ (∀ w ∈ Ts, w.before args s = true) ∧ va_K (dC, dI) vwCl (hT cy) s ∧ hN s ∧ meth.locks = false ∧ hDD A ad L ∧ (∀ q, s.heap.size ≤ q → A q) ∧ hSt dI A s s.heap
def hG (p : Program) (l : Launch) (e : Env) (R : Room) (s : State) (m : MethodId) (args : Array Value) (below : List Frame) (meth : Method) (c : Code) (dC : Nat → ClassId) (dI : Nat → Nat → Nat) (cy : Nat → ClassId) (ad : Nat → Nat) (L : hL) (A : Nat → Prop) (cells slots : Nat) (Q : State → Prop) (X : hX) (pc : Nat) (ls : Array Slot) (st : List Value) : Prop :=
  ∀ (H : Heap) (locs : List Loc), va_P (dC, dI) vwCl (hW cy ad L X) H → va_S A s.heap H locs → W p l e R s m args below meth c H locs cells slots Q (F0 m pc ls st)
theorem Met.ofWF {l : Launch} {y : MethodName} {ws ws' : List Cond} {rm : Room} {Pc : Array Value → State → Prop} {Qc : Array Value → State → Outcome → State → Prop} {mc ms : Nat} {free : Addr → Prop} {cc : ByteArray} {maxL : Nat} {ret : Option FieldType}
    (hy : plainFor y = true) (hw : ws = Cond.code y cc maxL ret :: ws')
    (body : ∀ p e s m args below meth c s₁, BodyLoose p l y (headSpec ws rm) cc maxL ret e s m args below meth c s₁ → c.maxLocals = maxL → Pc args s →
      W p l e (headSpec ws rm).room s m args below meth c s.heap [] 0 0 (MQ below Qc args s mc ms free) (entryFrame m args maxL)) : Met l y ws rm Pc Qc mc ms free := by
  refine MetFree.of_bodySF (code := cc) (maxLocals := maxL) (ret := ret) hy ?_ ?_
  · intro args s m h hn
    obtain ⟨meth, c, h1, h2, h3, h4, h5, h6, -, -⟩ := Cond.code_spec hn (atoms_spec (ws := ws) h _ (by rw [hw]; exact List.mem_cons_self))
    exact ⟨meth, c, h1, h2, h3, h4, h5, h6⟩
  · intro p e s m args below meth c s₁ B hml hP _
    have hh0 : s₁.heap = s.heap := by rw [B.state]; rfl
    obtain ⟨t, a1, o, b1, b2, b3⟩ := body p e s m args below meth c s₁ B hml hP s₁ hh0 (Stand.of_body B)
    exact ⟨t, o, a1, b1, b2, ⟨b3.1, b3.2⟩⟩
section HX
variable {p : Program} {l : Launch} {e : Env} {R : Room} {s : State} {m : MethodId} {args : Array Value} {below : List Frame} {meth : Method} {c : Code} {Q : State → Prop} {dC : Nat → ClassId} {dI : Nat → Nat → Nat} {cy : Nat → ClassId} {ad : Nat → Nat} {L : hL} {A : Nat → Prop} {cc : ByteArray} {nL : Nat} {Ts : List Cond} {own : String} {X : hX} {pc : Nat} {ls : Array Slot} {st : List Value} {cells slots : Nat}
theorem hx_enter {y : MethodName} {ws ws' : List Cond} {rm : Room} {cc : ByteArray} {maxL : Nat} {ret : Option FieldType} {av : List Value} {ov : Option Value} {X' : hX} (own : String) (hy : plainFor y = true) (hw : ws = .code y cc maxL ret :: ws') (ho : y.cls = own) (hav : (lg_sl av).length ≤ maxL)
    (body : ∀ (p : Program) (e : Env) (s : State) (m : MethodId) (args : Array Value) (below : List Frame) (meth : Method) (c : Code), hC p s m args meth c dC dI cy ad L (hA ad L s.heap.size) cc maxL ws own → meth.sig.returnType = ret → meth.name = y.name → ∀ ls, lv_has ls maxL (lv_args 0 av) → hG p l e (headSpec ws rm).room s m args below meth c dC dI cy ad L (hA ad L s.heap.size) 0 0 (MQ below (hQ dC dI cy ad L s.heap.size ov X') args s 0 0 (hA ad L s.heap.size)) X 0 ls []) : hMet l dC dI cy ad L y ws rm av X ov X' := by
  subst ho
  intro hd sz
  refine Met.ofWF (cc := cc) (maxL := maxL) (ret := ret) hy hw ?_
  intro p e s m args below meth c s₁ B hml hv
  obtain ⟨rfl, hsz, hP, hK, hNn, hSs⟩ := hv
  subst hsz
  have C : hC p s m av.toArray meth c dC dI cy ad L (hA ad L s.heap.size) cc maxL ws y.cls := ⟨B.exec, B.bytes, hml, findClass_of_methodNamed B.named, atoms_spec (ws := ws) B.pre, hK, hNn, B.notSynchronized, ⟨hd.1, fun k hk => Or.inl ⟨k, hk, rfl⟩⟩, fun q h => Or.inr h, hSs⟩
  have hl := lv_entry av (n := maxL) hav
  rw [lg_entry_eq]
  exact body p e s m av.toArray below meth c C B.returns (name_of_methodNamed B.named B.method).1 _ hl _ _ hP va_S.rf
theorem hx_blind {av : List Value} {sz : Nat} : FrameBlind (va_Pc av (fun U => U.heap.size = sz ∧ hU dC dI cy ad L X U)) := fun a U g mk q => by
  obtain ⟨q0, q1, qP, qK, qN, qS⟩ := q
  exact ⟨q0, q1, qP, va_K.moved (u := U) (U := U.calling g mk a) (Vm.Alike.refl U.vm) qK, qN.same rfl, hSt.same (u := U) rfl qS⟩
theorem hx_iconst (C : hC p s m args meth c dC dI cy ad L A cc nL Ts own) {n : Int} {v : Int32} (hdg : decode cc pc = .ok (.iconst n, 1)) (hv : Int32.ofInt n = v) (k : hG p l e R s m args below meth c dC dI cy ad L A cells slots Q X (pc + 1) ls (.int v :: st)) : hG p l e R s m args below meth c dC dI cy ad L A cells slots Q X pc ls st := fun H locs hP hS => lv_iconst C.1 C.2.1 hdg hv (k H locs hP hS)
theorem hx_bipush (C : hC p s m args meth c dC dI cy ad L A cc nL Ts own) {n : Int} {v : Int32} (hdg : decode cc pc = .ok (.bipush n, 2)) (hv : (Int8.ofInt n).toInt32 = v) (k : hG p l e R s m args below meth c dC dI cy ad L A cells slots Q X (pc + 2) ls (.int v :: st)) : hG p l e R s m args below meth c dC dI cy ad L A cells slots Q X pc ls st := fun H locs hP hS => lv_bipush C.1 C.2.1 hdg hv (k H locs hP hS)
theorem hx_sipush (C : hC p s m args meth c dC dI cy ad L A cc nL Ts own) {n : Int} {v : Int32} (hdg : decode cc pc = .ok (.sipush n, 3)) (hv : (Int16.ofInt n).toInt32 = v) (k : hG p l e R s m args below meth c dC dI cy ad L A cells slots Q X (pc + 3) ls (.int v :: st)) : hG p l e R s m args below meth c dC dI cy ad L A cells slots Q X pc ls st := fun H locs hP hS => lv_sipush C.1 C.2.1 hdg hv (k H locs hP hS)
theorem hx_ldc (C : hC p s m args meth c dC dI cy ad L A cc nL Ts own) {n : Nat} {v : Int32} (hw : Cond.constant own n v ∈ Ts) (hdg : decode cc pc = .ok (.ldc n, 2)) (k : hG p l e R s m args below meth c dC dI cy ad L A cells slots Q X (pc + 2) ls (.int v :: st)) : hG p l e R s m args below meth c dC dI cy ad L A cells slots Q X pc ls st := fun H locs hP hS => lv_ldc C.1 C.2.1 C.2.2.2.1 (C.2.2.2.2.1 _ hw) hdg (k H locs hP hS)
theorem hx_ldc2 (C : hC p s m args meth c dC dI cy ad L A cc nL Ts own) {n : Nat} {v : Int64} (hw : Cond.constantLong own n v ∈ Ts) (hdg : decode cc pc = .ok (.ldc2_w n, 3)) (k : hG p l e R s m args below meth c dC dI cy ad L A cells slots Q X (pc + 3) ls (.long v :: st)) : hG p l e R s m args below meth c dC dI cy ad L A cells slots Q X pc ls st := fun H locs hP hS => lv_ldc2 C.1 C.2.1 C.2.2.2.1 (C.2.2.2.2.1 _ hw) hdg (k H locs hP hS)
theorem hx_iload_n (C : hC p s m args meth c dC dI cy ad L A cc nL Ts own) {kk : Fin 4} {i : Nat} {x : Int32} (hdg : decode cc pc = .ok (.iload_n kk, 1)) (hi : (kk : Nat) = i) (hl : ls[i]? = some (.val (.int x))) (k : hG p l e R s m args below meth c dC dI cy ad L A cells slots Q X (pc + 1) ls (.int x :: st)) : hG p l e R s m args below meth c dC dI cy ad L A cells slots Q X pc ls st := fun H locs hP hS => lv_iload_n C.1 C.2.1 hdg hi hl (k H locs hP hS)
theorem hx_iload (C : hC p s m args meth c dC dI cy ad L A cc nL Ts own) {i : Nat} {x : Int32} (hdg : decode cc pc = .ok (.iload i, 2)) (hl : ls[i]? = some (.val (.int x))) (k : hG p l e R s m args below meth c dC dI cy ad L A cells slots Q X (pc + 2) ls (.int x :: st)) : hG p l e R s m args below meth c dC dI cy ad L A cells slots Q X pc ls st := fun H locs hP hS => lv_iload C.1 C.2.1 hdg hl (k H locs hP hS)
theorem hx_aload_n (C : hC p s m args meth c dC dI cy ad L A cc nL Ts own) {kk : Fin 4} {i : Nat} {x : Nat} (hdg : decode cc pc = .ok (.aload_n kk, 1)) (hi : (kk : Nat) = i) (hl : ls[i]? = some (.val (.ref x))) (k : hG p l e R s m args below meth c dC dI cy ad L A cells slots Q X (pc + 1) ls (.ref x :: st)) : hG p l e R s m args below meth c dC dI cy ad L A cells slots Q X pc ls st := fun H locs hP hS => lv_aload_n C.1 C.2.1 hdg hi hl (k H locs hP hS)
theorem hx_aload (C : hC p s m args meth c dC dI cy ad L A cc nL Ts own) {i : Nat} {x : Nat} (hdg : decode cc pc = .ok (.aload i, 2)) (hl : ls[i]? = some (.val (.ref x))) (k : hG p l e R s m args below meth c dC dI cy ad L A cells slots Q X (pc + 2) ls (.ref x :: st)) : hG p l e R s m args below meth c dC dI cy ad L A cells slots Q X pc ls st := fun H locs hP hS => lv_aload C.1 C.2.1 hdg hl (k H locs hP hS)
theorem hx_lload_n (C : hC p s m args meth c dC dI cy ad L A cc nL Ts own) {kk : Fin 4} {i : Nat} {x : Int64} (hdg : decode cc pc = .ok (.lload_n kk, 1)) (hi : (kk : Nat) = i) (hl : ls[i]? = some (.val (.long x))) (k : hG p l e R s m args below meth c dC dI cy ad L A cells slots Q X (pc + 1) ls (.long x :: st)) : hG p l e R s m args below meth c dC dI cy ad L A cells slots Q X pc ls st := fun H locs hP hS => lv_lload_n C.1 C.2.1 hdg hi hl (k H locs hP hS)
theorem hx_lload (C : hC p s m args meth c dC dI cy ad L A cc nL Ts own) {i : Nat} {x : Int64} (hdg : decode cc pc = .ok (.lload i, 2)) (hl : ls[i]? = some (.val (.long x))) (k : hG p l e R s m args below meth c dC dI cy ad L A cells slots Q X (pc + 2) ls (.long x :: st)) : hG p l e R s m args below meth c dC dI cy ad L A cells slots Q X pc ls st := fun H locs hP hS => lv_lload C.1 C.2.1 hdg hl (k H locs hP hS)
theorem hx_aload_nN (C : hC p s m args meth c dC dI cy ad L A cc nL Ts own) {kk : Fin 4} {i : Nat} (hdg : decode cc pc = .ok (.aload_n kk, 1)) (hi : (kk : Nat) = i) (hl : ls[i]? = some (.val .null)) (k : hG p l e R s m args below meth c dC dI cy ad L A cells slots Q X (pc + 1) ls (.null :: st)) : hG p l e R s m args below meth c dC dI cy ad L A cells slots Q X pc ls st := fun H locs hP hS => lv_aload_nN C.1 C.2.1 hdg hi hl (k H locs hP hS)
theorem hx_aloadN (C : hC p s m args meth c dC dI cy ad L A cc nL Ts own) {i : Nat} (hdg : decode cc pc = .ok (.aload i, 2)) (hl : ls[i]? = some (.val .null)) (k : hG p l e R s m args below meth c dC dI cy ad L A cells slots Q X (pc + 2) ls (.null :: st)) : hG p l e R s m args below meth c dC dI cy ad L A cells slots Q X pc ls st := fun H locs hP hS => lv_aloadN C.1 C.2.1 hdg hl (k H locs hP hS)
theorem hx_istore_n (C : hC p s m args meth c dC dI cy ad L A cc nL Ts own) {kk : Fin 4} {i : Nat} {x : Int32} {lv lv' : List (Nat × Value)} (hdg : decode cc pc = .ok (.istore_n kk, 1)) (hi : (kk : Nat) = i) (h : lv_has ls nL lv) (hn : i < nL) (hl : (i, (.int x : Value)) :: lv.filter (fun q => !(q.1 == i) && !(q.1 + 1 == i && q.2.category == 2)) = lv') (k : ∀ ls : Array Slot, lv_has ls nL lv' → hG p l e R s m args below meth c dC dI cy ad L A cells slots Q X (pc + 1) ls st) : hG p l e R s m args below meth c dC dI cy ad L A cells slots Q X pc ls (.int x :: st) := fun H locs hP hS => lv_istore_n C.1 C.2.1 hdg hi h hn hl (fun ls' h' => k ls' h' H locs hP hS)
theorem hx_istore (C : hC p s m args meth c dC dI cy ad L A cc nL Ts own) {i : Nat} {x : Int32} {lv lv' : List (Nat × Value)} (hdg : decode cc pc = .ok (.istore i, 2)) (h : lv_has ls nL lv) (hn : i < nL) (hl : (i, (.int x : Value)) :: lv.filter (fun q => !(q.1 == i) && !(q.1 + 1 == i && q.2.category == 2)) = lv') (k : ∀ ls : Array Slot, lv_has ls nL lv' → hG p l e R s m args below meth c dC dI cy ad L A cells slots Q X (pc + 2) ls st) : hG p l e R s m args below meth c dC dI cy ad L A cells slots Q X pc ls (.int x :: st) := fun H locs hP hS => lv_istore C.1 C.2.1 hdg h hn hl (fun ls' h' => k ls' h' H locs hP hS)
theorem hx_astore_n (C : hC p s m args meth c dC dI cy ad L A cc nL Ts own) {kk : Fin 4} {i : Nat} {x : Nat} {lv lv' : List (Nat × Value)} (hdg : decode cc pc = .ok (.astore_n kk, 1)) (hi : (kk : Nat) = i) (h : lv_has ls nL lv) (hn : i < nL) (hl : (i, (.ref x : Value)) :: lv.filter (fun q => !(q.1 == i) && !(q.1 + 1 == i && q.2.category == 2)) = lv') (k : ∀ ls : Array Slot, lv_has ls nL lv' → hG p l e R s m args below meth c dC dI cy ad L A cells slots Q X (pc + 1) ls st) : hG p l e R s m args below meth c dC dI cy ad L A cells slots Q X pc ls (.ref x :: st) := fun H locs hP hS => lv_astore_n C.1 C.2.1 hdg hi h hn hl (fun ls' h' => k ls' h' H locs hP hS)
theorem hx_astore (C : hC p s m args meth c dC dI cy ad L A cc nL Ts own) {i : Nat} {x : Nat} {lv lv' : List (Nat × Value)} (hdg : decode cc pc = .ok (.astore i, 2)) (h : lv_has ls nL lv) (hn : i < nL) (hl : (i, (.ref x : Value)) :: lv.filter (fun q => !(q.1 == i) && !(q.1 + 1 == i && q.2.category == 2)) = lv') (k : ∀ ls : Array Slot, lv_has ls nL lv' → hG p l e R s m args below meth c dC dI cy ad L A cells slots Q X (pc + 2) ls st) : hG p l e R s m args below meth c dC dI cy ad L A cells slots Q X pc ls (.ref x :: st) := fun H locs hP hS => lv_astore C.1 C.2.1 hdg h hn hl (fun ls' h' => k ls' h' H locs hP hS)
theorem hx_astore_nN (C : hC p s m args meth c dC dI cy ad L A cc nL Ts own) {kk : Fin 4} {i : Nat} {lv lv' : List (Nat × Value)} (hdg : decode cc pc = .ok (.astore_n kk, 1)) (hi : (kk : Nat) = i) (h : lv_has ls nL lv) (hn : i < nL) (hl : (i, (.null : Value)) :: lv.filter (fun q => !(q.1 == i) && !(q.1 + 1 == i && q.2.category == 2)) = lv') (k : ∀ ls : Array Slot, lv_has ls nL lv' → hG p l e R s m args below meth c dC dI cy ad L A cells slots Q X (pc + 1) ls st) : hG p l e R s m args below meth c dC dI cy ad L A cells slots Q X pc ls (.null :: st) := fun H locs hP hS => lv_astore_nN C.1 C.2.1 hdg hi h hn hl (fun ls' h' => k ls' h' H locs hP hS)
theorem hx_astoreN (C : hC p s m args meth c dC dI cy ad L A cc nL Ts own) {i : Nat} {lv lv' : List (Nat × Value)} (hdg : decode cc pc = .ok (.astore i, 2)) (h : lv_has ls nL lv) (hn : i < nL) (hl : (i, (.null : Value)) :: lv.filter (fun q => !(q.1 == i) && !(q.1 + 1 == i && q.2.category == 2)) = lv') (k : ∀ ls : Array Slot, lv_has ls nL lv' → hG p l e R s m args below meth c dC dI cy ad L A cells slots Q X (pc + 2) ls st) : hG p l e R s m args below meth c dC dI cy ad L A cells slots Q X pc ls (.null :: st) := fun H locs hP hS => lv_astoreN C.1 C.2.1 hdg h hn hl (fun ls' h' => k ls' h' H locs hP hS)
theorem hx_lstore_n (C : hC p s m args meth c dC dI cy ad L A cc nL Ts own) {kk : Fin 4} {i : Nat} {x : Int64} {lv lv' : List (Nat × Value)} (hdg : decode cc pc = .ok (.lstore_n kk, 1)) (hi : (kk : Nat) = i) (h : lv_has ls nL lv) (hn : i + 1 < nL) (hl : (i, (.long x : Value)) :: lv.filter (fun q => !(q.1 == i) && (!(q.1 == i + 1) && !(q.1 + 1 == i && q.2.category == 2))) = lv') (k : ∀ ls : Array Slot, lv_has ls nL lv' → hG p l e R s m args below meth c dC dI cy ad L A cells slots Q X (pc + 1) ls st) : hG p l e R s m args below meth c dC dI cy ad L A cells slots Q X pc ls (.long x :: st) := fun H locs hP hS => lv_lstore_n C.1 C.2.1 hdg hi h hn hl (fun ls' h' => k ls' h' H locs hP hS)
theorem hx_lstore (C : hC p s m args meth c dC dI cy ad L A cc nL Ts own) {i : Nat} {x : Int64} {lv lv' : List (Nat × Value)} (hdg : decode cc pc = .ok (.lstore i, 2)) (h : lv_has ls nL lv) (hn : i + 1 < nL) (hl : (i, (.long x : Value)) :: lv.filter (fun q => !(q.1 == i) && (!(q.1 == i + 1) && !(q.1 + 1 == i && q.2.category == 2))) = lv') (k : ∀ ls : Array Slot, lv_has ls nL lv' → hG p l e R s m args below meth c dC dI cy ad L A cells slots Q X (pc + 2) ls st) : hG p l e R s m args below meth c dC dI cy ad L A cells slots Q X pc ls (.long x :: st) := fun H locs hP hS => lv_lstore C.1 C.2.1 hdg h hn hl (fun ls' h' => k ls' h' H locs hP hS)
theorem hx_iinc (C : hC p s m args meth c dC dI cy ad L A cc nL Ts own) {i k : Nat} {n : Int} {x v : Int32} {lv lv' : List (Nat × Value)} (hdg : decode cc pc = .ok (.iinc i n, 3)) (h : lv_has ls nL lv) (hk : lv[k]? = some (i, .int x)) (hv : x + Int32.ofInt n = v) (hn : i < nL) (hl : (i, Value.int v) :: lv.filter (fun q => !(q.1 == i) && !(q.1 + 1 == i && q.2.category == 2)) = lv') (kk : ∀ ls : Array Slot, lv_has ls nL lv' → hG p l e R s m args below meth c dC dI cy ad L A cells slots Q X (pc + 3) ls st) : hG p l e R s m args below meth c dC dI cy ad L A cells slots Q X pc ls st := fun H locs hP hS => lv_iinc C.1 C.2.1 hdg h hk hv hn hl (fun ls' h' => kk ls' h' H locs hP hS)
theorem hx_iadd (C : hC p s m args meth c dC dI cy ad L A cc nL Ts own) {x y : Int32} (hdg : decode cc pc = .ok (.iadd, 1)) (k : hG p l e R s m args below meth c dC dI cy ad L A cells slots Q X (pc + 1) ls (.int (x + y) :: st)) : hG p l e R s m args below meth c dC dI cy ad L A cells slots Q X pc ls (.int y :: .int x :: st) := fun H locs hP hS => lv_iadd C.1 C.2.1 hdg (k H locs hP hS)
theorem hx_isub (C : hC p s m args meth c dC dI cy ad L A cc nL Ts own) {x y : Int32} (hdg : decode cc pc = .ok (.isub, 1)) (k : hG p l e R s m args below meth c dC dI cy ad L A cells slots Q X (pc + 1) ls (.int (x - y) :: st)) : hG p l e R s m args below meth c dC dI cy ad L A cells slots Q X pc ls (.int y :: .int x :: st) := fun H locs hP hS => lv_isub C.1 C.2.1 hdg (k H locs hP hS)
theorem hx_imul (C : hC p s m args meth c dC dI cy ad L A cc nL Ts own) {x y : Int32} (hdg : decode cc pc = .ok (.imul, 1)) (k : hG p l e R s m args below meth c dC dI cy ad L A cells slots Q X (pc + 1) ls (.int (x * y) :: st)) : hG p l e R s m args below meth c dC dI cy ad L A cells slots Q X pc ls (.int y :: .int x :: st) := fun H locs hP hS => lv_imul C.1 C.2.1 hdg (k H locs hP hS)
theorem hx_iand (C : hC p s m args meth c dC dI cy ad L A cc nL Ts own) {x y : Int32} (hdg : decode cc pc = .ok (.iand, 1)) (k : hG p l e R s m args below meth c dC dI cy ad L A cells slots Q X (pc + 1) ls (.int (x &&& y) :: st)) : hG p l e R s m args below meth c dC dI cy ad L A cells slots Q X pc ls (.int y :: .int x :: st) := fun H locs hP hS => lv_iand C.1 C.2.1 hdg (k H locs hP hS)
theorem hx_idiv (C : hC p s m args meth c dC dI cy ad L A cc nL Ts own) {x y : Int32} (hdg : decode cc pc = .ok (.idiv, 1)) (hne : ¬ y = 0) (k : hG p l e R s m args below meth c dC dI cy ad L A cells slots Q X (pc + 1) ls (.int (x / y) :: st)) : hG p l e R s m args below meth c dC dI cy ad L A cells slots Q X pc ls (.int y :: .int x :: st) := fun H locs hP hS => lv_idiv C.1 C.2.1 hdg hne (k H locs hP hS)
theorem hx_irem (C : hC p s m args meth c dC dI cy ad L A cc nL Ts own) {x y : Int32} (hdg : decode cc pc = .ok (.irem, 1)) (hne : ¬ y = 0) (k : hG p l e R s m args below meth c dC dI cy ad L A cells slots Q X (pc + 1) ls (.int (x - x / y * y) :: st)) : hG p l e R s m args below meth c dC dI cy ad L A cells slots Q X pc ls (.int y :: .int x :: st) := fun H locs hP hS => lv_irem C.1 C.2.1 hdg hne (k H locs hP hS)
theorem hx_ixor (C : hC p s m args meth c dC dI cy ad L A cc nL Ts own) {x y : Int32} (hdg : decode cc pc = .ok (.ixor, 1)) (k : hG p l e R s m args below meth c dC dI cy ad L A cells slots Q X (pc + 1) ls (.int (x ^^^ y) :: st)) : hG p l e R s m args below meth c dC dI cy ad L A cells slots Q X pc ls (.int y :: .int x :: st) := fun H locs hP hS => lv_ixor C.1 C.2.1 hdg (k H locs hP hS)
theorem hx_ineg (C : hC p s m args meth c dC dI cy ad L A cc nL Ts own) {x : Int32} (hdg : decode cc pc = .ok (.ineg, 1)) (k : hG p l e R s m args below meth c dC dI cy ad L A cells slots Q X (pc + 1) ls (.int (-x) :: st)) : hG p l e R s m args below meth c dC dI cy ad L A cells slots Q X pc ls (.int x :: st) := fun H locs hP hS => lv_ineg C.1 C.2.1 hdg (k H locs hP hS)
theorem hx_ladd (C : hC p s m args meth c dC dI cy ad L A cc nL Ts own) {x y : Int64} (hdg : decode cc pc = .ok (.ladd, 1)) (k : hG p l e R s m args below meth c dC dI cy ad L A cells slots Q X (pc + 1) ls (.long (x + y) :: st)) : hG p l e R s m args below meth c dC dI cy ad L A cells slots Q X pc ls (.long y :: .long x :: st) := fun H locs hP hS => lv_ladd C.1 C.2.1 hdg (k H locs hP hS)
theorem hx_lmul (C : hC p s m args meth c dC dI cy ad L A cc nL Ts own) {x y : Int64} (hdg : decode cc pc = .ok (.lmul, 1)) (k : hG p l e R s m args below meth c dC dI cy ad L A cells slots Q X (pc + 1) ls (.long (x * y) :: st)) : hG p l e R s m args below meth c dC dI cy ad L A cells slots Q X pc ls (.long y :: .long x :: st) := fun H locs hP hS => lv_lmul C.1 C.2.1 hdg (k H locs hP hS)
theorem hx_lsub (C : hC p s m args meth c dC dI cy ad L A cc nL Ts own) {x y : Int64} (hdg : decode cc pc = .ok (.lsub, 1)) (k : hG p l e R s m args below meth c dC dI cy ad L A cells slots Q X (pc + 1) ls (.long (x - y) :: st)) : hG p l e R s m args below meth c dC dI cy ad L A cells slots Q X pc ls (.long y :: .long x :: st) := fun H locs hP hS => lv_lsub C.1 C.2.1 hdg (k H locs hP hS)
theorem hx_i2l (C : hC p s m args meth c dC dI cy ad L A cc nL Ts own) {x : Int32} (hdg : decode cc pc = .ok (.i2l, 1)) (k : hG p l e R s m args below meth c dC dI cy ad L A cells slots Q X (pc + 1) ls (.long x.toInt64 :: st)) : hG p l e R s m args below meth c dC dI cy ad L A cells slots Q X pc ls (.int x :: st) := fun H locs hP hS => lv_i2l C.1 C.2.1 hdg rfl (k H locs hP hS)
theorem hx_l2i (C : hC p s m args meth c dC dI cy ad L A cc nL Ts own) {x : Int64} (hdg : decode cc pc = .ok (.l2i, 1)) (k : hG p l e R s m args below meth c dC dI cy ad L A cells slots Q X (pc + 1) ls (.int x.toInt32 :: st)) : hG p l e R s m args below meth c dC dI cy ad L A cells slots Q X pc ls (.long x :: st) := fun H locs hP hS => lv_l2i C.1 C.2.1 hdg rfl (k H locs hP hS)
theorem hx_i2c (C : hC p s m args meth c dC dI cy ad L A cc nL Ts own) {x : Int32} (hdg : decode cc pc = .ok (.i2c, 1)) (k : hG p l e R s m args below meth c dC dI cy ad L A cells slots Q X (pc + 1) ls (.int (x.toUInt32 % 65536).toInt32 :: st)) : hG p l e R s m args below meth c dC dI cy ad L A cells slots Q X pc ls (.int x :: st) := fun H locs hP hS => lv_i2c C.1 C.2.1 hdg rfl (k H locs hP hS)
theorem hx_lcmp (C : hC p s m args meth c dC dI cy ad L A cc nL Ts own) {x y : Int64} (hdg : decode cc pc = .ok (.lcmp, 1)) (k : hG p l e R s m args below meth c dC dI cy ad L A cells slots Q X (pc + 1) ls (.int (lg_cmp x y) :: st)) : hG p l e R s m args below meth c dC dI cy ad L A cells slots Q X pc ls (.long y :: .long x :: st) := fun H locs hP hS => W.lcmp C.1 C.2.1 hdg (k H locs hP hS)
theorem hx_dup (C : hC p s m args meth c dC dI cy ad L A cc nL Ts own) {va : Value} (hdg : decode cc pc = .ok (.dup, 1)) (h1 : va.category = 1) (k : hG p l e R s m args below meth c dC dI cy ad L A cells slots Q X (pc + 1) ls (va :: va :: st)) : hG p l e R s m args below meth c dC dI cy ad L A cells slots Q X pc ls (va :: st) := fun H locs hP hS => lv_dup C.1 C.2.1 hdg h1 (k H locs hP hS)
theorem hx_pop (C : hC p s m args meth c dC dI cy ad L A cc nL Ts own) {va : Value} (hdg : decode cc pc = .ok (.pop, 1)) (h1 : va.category = 1) (k : hG p l e R s m args below meth c dC dI cy ad L A cells slots Q X (pc + 1) ls st) : hG p l e R s m args below meth c dC dI cy ad L A cells slots Q X pc ls (va :: st) := fun H locs hP hS => lv_pop C.1 C.2.1 hdg h1 (k H locs hP hS)
theorem hx_dup_x1 (C : hC p s m args meth c dC dI cy ad L A cc nL Ts own) {va vb : Value} (hdg : decode cc pc = .ok (.dup_x1, 1)) (h1 : va.category = 1) (h2 : vb.category = 1) (k : hG p l e R s m args below meth c dC dI cy ad L A cells slots Q X (pc + 1) ls (va :: vb :: va :: st)) : hG p l e R s m args below meth c dC dI cy ad L A cells slots Q X pc ls (va :: vb :: st) := fun H locs hP hS => lv_dup_x1 C.1 C.2.1 hdg h1 h2 (k H locs hP hS)
theorem hx_dup_x2 (C : hC p s m args meth c dC dI cy ad L A cc nL Ts own) {va vb vd : Value} (hdg : decode cc pc = .ok (.dup_x2, 1)) (h1 : va.category = 1) (h2 : vb.category = 1) (h3 : vd.category = 1) (k : hG p l e R s m args below meth c dC dI cy ad L A cells slots Q X (pc + 1) ls (va :: vb :: vd :: va :: st)) : hG p l e R s m args below meth c dC dI cy ad L A cells slots Q X pc ls (va :: vb :: vd :: st) := fun H locs hP hS => lv_dup_x2 C.1 C.2.1 hdg h1 h2 h3 (k H locs hP hS)
theorem hx_dup2 (C : hC p s m args meth c dC dI cy ad L A cc nL Ts own) {va vb : Value} (hdg : decode cc pc = .ok (.dup2, 1)) (h1 : va.category = 1) (h2 : vb.category = 1) (k : hG p l e R s m args below meth c dC dI cy ad L A cells slots Q X (pc + 1) ls (va :: vb :: va :: vb :: st)) : hG p l e R s m args below meth c dC dI cy ad L A cells slots Q X pc ls (va :: vb :: st) := fun H locs hP hS => lv_dup2_11 C.1 C.2.1 hdg h1 h2 (k H locs hP hS)
theorem hx_null (C : hC p s m args meth c dC dI cy ad L A cc nL Ts own)  (hdg : decode cc pc = .ok (.aconst_null, 1)) (k : hG p l e R s m args below meth c dC dI cy ad L A cells slots Q X (pc + 1) ls (.null :: st)) : hG p l e R s m args below meth c dC dI cy ad L A cells slots Q X pc ls st := fun H locs hP hS => lv_null C.1 C.2.1 hdg (k H locs hP hS)
theorem hx_goto (C : hC p s m args meth c dC dI cy ad L A cc nL Ts own) {off : Int} {tgt : Nat} (hdg : decode cc pc = .ok (.goto off, 3)) (ht : (pc : Int) + off = (tgt : Int)) (k : hG p l e R s m args below meth c dC dI cy ad L A cells slots Q X tgt ls st) : hG p l e R s m args below meth c dC dI cy ad L A cells slots Q X pc ls st := fun H locs hP hS => lv_goto C.1 C.2.1 hdg ht (k H locs hP hS)
theorem hx_ifnull (C : hC p s m args meth c dC dI cy ad L A cc nL Ts own) {x : Nat} {off : Int} (hdg : decode cc pc = .ok (.ifnull off, 3)) (k : hG p l e R s m args below meth c dC dI cy ad L A cells slots Q X (pc + 3) ls st) : hG p l e R s m args below meth c dC dI cy ad L A cells slots Q X pc ls (.ref x :: st) := fun H locs hP hS => lv_ifnull C.1 C.2.1 hdg (k H locs hP hS)
theorem hx_ifnonnull (C : hC p s m args meth c dC dI cy ad L A cc nL Ts own) {x : Nat} {off : Int} {tgt : Nat} (hdg : decode cc pc = .ok (.ifnonnull off, 3)) (ht : (pc : Int) + off = (tgt : Int)) (k : hG p l e R s m args below meth c dC dI cy ad L A cells slots Q X tgt ls st) : hG p l e R s m args below meth c dC dI cy ad L A cells slots Q X pc ls (.ref x :: st) := fun H locs hP hS => lv_ifnonnull C.1 C.2.1 hdg ht (k H locs hP hS)
theorem hx_ifnullN (C : hC p s m args meth c dC dI cy ad L A cc nL Ts own) {off : Int} {tgt : Nat} (hdg : decode cc pc = .ok (.ifnull off, 3)) (ht : (pc : Int) + off = (tgt : Int)) (k : hG p l e R s m args below meth c dC dI cy ad L A cells slots Q X tgt ls st) : hG p l e R s m args below meth c dC dI cy ad L A cells slots Q X pc ls (.null :: st) := fun H locs hP hS => lv_ifnullN C.1 C.2.1 hdg ht (k H locs hP hS)
theorem hx_ifnonnullN (C : hC p s m args meth c dC dI cy ad L A cc nL Ts own) {off : Int} (hdg : decode cc pc = .ok (.ifnonnull off, 3)) (k : hG p l e R s m args below meth c dC dI cy ad L A cells slots Q X (pc + 3) ls st) : hG p l e R s m args below meth c dC dI cy ad L A cells slots Q X pc ls (.null :: st) := fun H locs hP hS => lv_ifnonnullN C.1 C.2.1 hdg (k H locs hP hS)
theorem hx_if_eq (C : hC p s m args meth c dC dI cy ad L A cc nL Ts own) {x : Int32} {off : Int} {tgt : Nat} (hdg : decode cc pc = .ok (.ifCond .eq off, 3)) (ht : (pc : Int) + off = (tgt : Int)) (kt : x = 0 → hG p l e R s m args below meth c dC dI cy ad L A cells slots Q X tgt ls st) (kf : ¬ x = 0 → hG p l e R s m args below meth c dC dI cy ad L A cells slots Q X (pc + 3) ls st) : hG p l e R s m args below meth c dC dI cy ad L A cells slots Q X pc ls (.int x :: st) := fun H locs hP hS => lv_if_eq C.1 C.2.1 hdg ht (fun q => kt q H locs hP hS) (fun q => kf q H locs hP hS)
theorem hx_icmp_eq (C : hC p s m args meth c dC dI cy ad L A cc nL Ts own) {x y : Int32} {off : Int} {tgt : Nat} (hdg : decode cc pc = .ok (.if_icmp .eq off, 3)) (ht : (pc : Int) + off = (tgt : Int)) (kt : x = y → hG p l e R s m args below meth c dC dI cy ad L A cells slots Q X tgt ls st) (kf : ¬ x = y → hG p l e R s m args below meth c dC dI cy ad L A cells slots Q X (pc + 3) ls st) : hG p l e R s m args below meth c dC dI cy ad L A cells slots Q X pc ls (.int y :: .int x :: st) := fun H locs hP hS => lv_icmp_eq C.1 C.2.1 hdg ht (fun q => kt q H locs hP hS) (fun q => kf q H locs hP hS)
theorem hx_if_ne (C : hC p s m args meth c dC dI cy ad L A cc nL Ts own) {x : Int32} {off : Int} {tgt : Nat} (hdg : decode cc pc = .ok (.ifCond .ne off, 3)) (ht : (pc : Int) + off = (tgt : Int)) (kt : ¬ x = 0 → hG p l e R s m args below meth c dC dI cy ad L A cells slots Q X tgt ls st) (kf : x = 0 → hG p l e R s m args below meth c dC dI cy ad L A cells slots Q X (pc + 3) ls st) : hG p l e R s m args below meth c dC dI cy ad L A cells slots Q X pc ls (.int x :: st) := fun H locs hP hS => lv_if_ne C.1 C.2.1 hdg ht (fun q => kt q H locs hP hS) (fun q => kf q H locs hP hS)
theorem hx_icmp_ne (C : hC p s m args meth c dC dI cy ad L A cc nL Ts own) {x y : Int32} {off : Int} {tgt : Nat} (hdg : decode cc pc = .ok (.if_icmp .ne off, 3)) (ht : (pc : Int) + off = (tgt : Int)) (kt : ¬ x = y → hG p l e R s m args below meth c dC dI cy ad L A cells slots Q X tgt ls st) (kf : x = y → hG p l e R s m args below meth c dC dI cy ad L A cells slots Q X (pc + 3) ls st) : hG p l e R s m args below meth c dC dI cy ad L A cells slots Q X pc ls (.int y :: .int x :: st) := fun H locs hP hS => lv_icmp_ne C.1 C.2.1 hdg ht (fun q => kt q H locs hP hS) (fun q => kf q H locs hP hS)
theorem hx_if_lt (C : hC p s m args meth c dC dI cy ad L A cc nL Ts own) {x : Int32} {off : Int} {tgt : Nat} (hdg : decode cc pc = .ok (.ifCond .lt off, 3)) (ht : (pc : Int) + off = (tgt : Int)) (kt : x < 0 → hG p l e R s m args below meth c dC dI cy ad L A cells slots Q X tgt ls st) (kf : ¬ x < 0 → hG p l e R s m args below meth c dC dI cy ad L A cells slots Q X (pc + 3) ls st) : hG p l e R s m args below meth c dC dI cy ad L A cells slots Q X pc ls (.int x :: st) := fun H locs hP hS => lv_if_lt C.1 C.2.1 hdg ht (fun q => kt q H locs hP hS) (fun q => kf q H locs hP hS)
theorem hx_icmp_lt (C : hC p s m args meth c dC dI cy ad L A cc nL Ts own) {x y : Int32} {off : Int} {tgt : Nat} (hdg : decode cc pc = .ok (.if_icmp .lt off, 3)) (ht : (pc : Int) + off = (tgt : Int)) (kt : x < y → hG p l e R s m args below meth c dC dI cy ad L A cells slots Q X tgt ls st) (kf : ¬ x < y → hG p l e R s m args below meth c dC dI cy ad L A cells slots Q X (pc + 3) ls st) : hG p l e R s m args below meth c dC dI cy ad L A cells slots Q X pc ls (.int y :: .int x :: st) := fun H locs hP hS => lv_icmp_lt C.1 C.2.1 hdg ht (fun q => kt q H locs hP hS) (fun q => kf q H locs hP hS)
theorem hx_if_ge (C : hC p s m args meth c dC dI cy ad L A cc nL Ts own) {x : Int32} {off : Int} {tgt : Nat} (hdg : decode cc pc = .ok (.ifCond .ge off, 3)) (ht : (pc : Int) + off = (tgt : Int)) (kt : 0 ≤ x → hG p l e R s m args below meth c dC dI cy ad L A cells slots Q X tgt ls st) (kf : ¬ 0 ≤ x → hG p l e R s m args below meth c dC dI cy ad L A cells slots Q X (pc + 3) ls st) : hG p l e R s m args below meth c dC dI cy ad L A cells slots Q X pc ls (.int x :: st) := fun H locs hP hS => lv_if_ge C.1 C.2.1 hdg ht (fun q => kt q H locs hP hS) (fun q => kf q H locs hP hS)
theorem hx_icmp_ge (C : hC p s m args meth c dC dI cy ad L A cc nL Ts own) {x y : Int32} {off : Int} {tgt : Nat} (hdg : decode cc pc = .ok (.if_icmp .ge off, 3)) (ht : (pc : Int) + off = (tgt : Int)) (kt : y ≤ x → hG p l e R s m args below meth c dC dI cy ad L A cells slots Q X tgt ls st) (kf : ¬ y ≤ x → hG p l e R s m args below meth c dC dI cy ad L A cells slots Q X (pc + 3) ls st) : hG p l e R s m args below meth c dC dI cy ad L A cells slots Q X pc ls (.int y :: .int x :: st) := fun H locs hP hS => lv_icmp_ge C.1 C.2.1 hdg ht (fun q => kt q H locs hP hS) (fun q => kf q H locs hP hS)
theorem hx_if_gt (C : hC p s m args meth c dC dI cy ad L A cc nL Ts own) {x : Int32} {off : Int} {tgt : Nat} (hdg : decode cc pc = .ok (.ifCond .gt off, 3)) (ht : (pc : Int) + off = (tgt : Int)) (kt : 0 < x → hG p l e R s m args below meth c dC dI cy ad L A cells slots Q X tgt ls st) (kf : ¬ 0 < x → hG p l e R s m args below meth c dC dI cy ad L A cells slots Q X (pc + 3) ls st) : hG p l e R s m args below meth c dC dI cy ad L A cells slots Q X pc ls (.int x :: st) := fun H locs hP hS => lv_if_gt C.1 C.2.1 hdg ht (fun q => kt q H locs hP hS) (fun q => kf q H locs hP hS)
theorem hx_icmp_gt (C : hC p s m args meth c dC dI cy ad L A cc nL Ts own) {x y : Int32} {off : Int} {tgt : Nat} (hdg : decode cc pc = .ok (.if_icmp .gt off, 3)) (ht : (pc : Int) + off = (tgt : Int)) (kt : y < x → hG p l e R s m args below meth c dC dI cy ad L A cells slots Q X tgt ls st) (kf : ¬ y < x → hG p l e R s m args below meth c dC dI cy ad L A cells slots Q X (pc + 3) ls st) : hG p l e R s m args below meth c dC dI cy ad L A cells slots Q X pc ls (.int y :: .int x :: st) := fun H locs hP hS => lv_icmp_gt C.1 C.2.1 hdg ht (fun q => kt q H locs hP hS) (fun q => kf q H locs hP hS)
theorem hx_if_le (C : hC p s m args meth c dC dI cy ad L A cc nL Ts own) {x : Int32} {off : Int} {tgt : Nat} (hdg : decode cc pc = .ok (.ifCond .le off, 3)) (ht : (pc : Int) + off = (tgt : Int)) (kt : x ≤ 0 → hG p l e R s m args below meth c dC dI cy ad L A cells slots Q X tgt ls st) (kf : ¬ x ≤ 0 → hG p l e R s m args below meth c dC dI cy ad L A cells slots Q X (pc + 3) ls st) : hG p l e R s m args below meth c dC dI cy ad L A cells slots Q X pc ls (.int x :: st) := fun H locs hP hS => lv_if_le C.1 C.2.1 hdg ht (fun q => kt q H locs hP hS) (fun q => kf q H locs hP hS)
theorem hx_icmp_le (C : hC p s m args meth c dC dI cy ad L A cc nL Ts own) {x y : Int32} {off : Int} {tgt : Nat} (hdg : decode cc pc = .ok (.if_icmp .le off, 3)) (ht : (pc : Int) + off = (tgt : Int)) (kt : x ≤ y → hG p l e R s m args below meth c dC dI cy ad L A cells slots Q X tgt ls st) (kf : ¬ x ≤ y → hG p l e R s m args below meth c dC dI cy ad L A cells slots Q X (pc + 3) ls st) : hG p l e R s m args below meth c dC dI cy ad L A cells slots Q X pc ls (.int y :: .int x :: st) := fun H locs hP hS => lv_icmp_le C.1 C.2.1 hdg ht (fun q => kt q H locs hP hS) (fun q => kf q H locs hP hS)
theorem hx_tableIn (C : hC p s m args meth c dC dI cy ad L A cc nL Ts own) {dflt lo hi : Int} {offs : Array Int} {len : Nat} {x : Int32} {off : Int} {tgt : Nat} (hdg : decode cc pc = .ok (.tableswitch dflt lo hi offs, len)) (h1 : ¬ x.toInt < lo) (h2 : ¬ hi < x.toInt) (ho : offs[(x.toInt - lo).toNat]? = some off) (ht : (pc : Int) + off = (tgt : Int)) (k : hG p l e R s m args below meth c dC dI cy ad L A cells slots Q X tgt ls st) : hG p l e R s m args below meth c dC dI cy ad L A cells slots Q X pc ls (.int x :: st) := fun H locs hP hS => lv_tableIn C.1 C.2.1 hdg h1 h2 ho ht (k H locs hP hS)
theorem hx_tableOut (C : hC p s m args meth c dC dI cy ad L A cc nL Ts own) {dflt lo hi : Int} {offs : Array Int} {len : Nat} {x : Int32} {tgt : Nat} (hdg : decode cc pc = .ok (.tableswitch dflt lo hi offs, len)) (h : x.toInt < lo ∨ hi < x.toInt) (ht : (pc : Int) + dflt = (tgt : Int)) (k : hG p l e R s m args below meth c dC dI cy ad L A cells slots Q X tgt ls st) : hG p l e R s m args below meth c dC dI cy ad L A cells slots Q X pc ls (.int x :: st) := fun H locs hP hS => lv_tableOut C.1 C.2.1 hdg h ht (k H locs hP hS)
theorem hx_look (C : hC p s m args meth c dC dI cy ad L A cc nL Ts own) {dflt : Int} {ps : Array (Int × Int)} {len : Nat} {x : Int32} {off : Int} {tgt : Nat} (l2 : List (Int × Int)) (hdg : decode cc pc = .ok (.lookupswitch dflt ps, len)) (hl2 : ps.toList = l2) (hp : (l2.zip (l2.drop 1)).all (fun (a, next) => a.1 < next.1) = true) (ho : Op.lookupswitch.offset l2 dflt x.toInt = off) (ht : (pc : Int) + off = (tgt : Int)) (k : hG p l e R s m args below meth c dC dI cy ad L A cells slots Q X tgt ls st) : hG p l e R s m args below meth c dC dI cy ad L A cells slots Q X pc ls (.int x :: st) := fun H locs hP hS => lv_lookup C.1 C.2.1 hdg (by rw [hl2]; exact hp) (by rw [hl2]; exact ho) ht (k H locs hP hS)
theorem hx_objInit (C : hC p s m args meth c dC dI cy ad L A cc nL Ts own) {idx a : Nat} (hlink : Cond.methodLink own idx objectInit ∈ Ts) (hinst : Cond.instanceMethod objectInit ∈ Ts) (hcode : Cond.code objectInit ⟨#[0xb1]⟩ 1 none ∈ Ts) (hsz : ls.size = nL) (hdg : decode cc pc = .ok (.invokespecial idx, 3)) (hfr : 1 ≤ R.frames) (hlo : (st.map fun v => v.category).sum + 12 ≤ R.locals) (k : hG p l e R s m args below meth c dC dI cy ad L A cells slots Q X (pc + 3) ls st) : hG p l e R s m args below meth c dC dI cy ad L A cells slots Q X pc ls (.ref a :: st) := fun H locs hP hS => W.objInit C.1 C.2.1 C.2.2.2.1 (C.2.2.2.2.1 _ hlink) (C.2.2.2.2.1 _ hinst) (C.2.2.2.2.1 _ hcode) rfl (hsz.trans C.2.2.1.symm) rfl hdg hfr (by show 2 * 0 + _ + 12 ≤ _; omega) (k H locs hP hS)
theorem hfs_i {ad : Nat → Nat} {X : hX} {k c j : Nat} (hf : (hfl c)[j]? = some false) : (hfs ad X k c)[j]? = some (.int (X.1 k j)) := by
  unfold hfs; rw [List.getElem?_mapIdx, hf]; rfl
theorem hfs_r {ad : Nat → Nat} {X : hX} {k c j : Nat} (hf : (hfl c)[j]? = some true) : (hfs ad X k c)[j]? = some (va_re ad (X.2 k j)) := by
  unfold hfs; rw [List.getElem?_mapIdx, hf]; rfl
theorem hW_o {k ci : Nat} (ht : tk L k ci) (hc : ci < 11) : (hW cy ad L X)[k]? = some (ad k, .inr (ci, hfs ad X k ci)) := by rw [hW_at ht.1, hcell_o ht.2 hc]
theorem hW_i {k ci : Nat} (ht : tk L k ci) (h1 : ¬ ci < 11) (h2 : ci < 14) : (hW cy ad L X)[k]? = some (ad k, .inl (cy ci, L.2.2 k, .inl (X.1 k))) := by rw [hW_at ht.1, hcell_i ht.2 h1 h2]
theorem hW_r {k ci : Nat} (ht : tk L k ci) (h2 : ¬ ci < 14) : (hW cy ad L X)[k]? = some (ad k, .inl (cy ci, L.2.2 k, .inr (.inr (.inr (.inr (fun j => (X.2 k j).map ad)))))) := by rw [hW_at ht.1, hcell_r ht.2 h2]
theorem hx_geti (C : hC p s m args meth c dC dI cy ad L A cc nL Ts own) {ref Cn : String} {TT : u_T} {N ci index a j : Nat} (ht : tk L a ci) (hin : ∀ w ∈ u_ws Cn TT N, w ∈ Ts) (hci : ci < 11) (hc : vwCl[ci]? = some (Cn, TT, N)) (hj : j < N) (hf : (hfl ci)[j]? = some false) (hlk : Cond.fieldLink own index ref (TT j).2.1 (TT j).2.2.1 ∈ Ts) (hr : (TT j).1 = ref) (hdg : decode cc pc = .ok (.getfield index, 3)) (k : hG p l e R s m args below meth c dC dI cy ad L A cells slots Q X (pc + 3) ls (.int (X.1 a j) :: st)) : hG p l e R s m args below meth c dC dI cy ad L A cells slots Q X pc ls (.ref (ad a) :: st) := fun H locs hP hS => va_get (D := (dC, dI)) C.1 C.2.1 C.2.2.2.2.1 hin C.2.2.2.1 C.2.2.2.2.2.1 hP a (hW_o ht hci) hc j hj (C.2.2.2.2.1 _ hlk) (fun x h9 => by rw [← hr]; exact h9) (hfs_i hf) hdg (k H locs hP hS)
theorem hx_getr (C : hC p s m args meth c dC dI cy ad L A cc nL Ts own) {ref Cn : String} {TT : u_T} {N ci index a j : Nat} (ht : tk L a ci) (hin : ∀ w ∈ u_ws Cn TT N, w ∈ Ts) (hci : ci < 11) (hc : vwCl[ci]? = some (Cn, TT, N)) (hj : j < N) (hf : (hfl ci)[j]? = some true) (hlk : Cond.fieldLink own index ref (TT j).2.1 (TT j).2.2.1 ∈ Ts) (hr : (TT j).1 = ref) (hdg : decode cc pc = .ok (.getfield index, 3)) {b : Nat} (hb : X.2 a j = some b) (k : hG p l e R s m args below meth c dC dI cy ad L A cells slots Q X (pc + 3) ls (.ref (ad b) :: st)) : hG p l e R s m args below meth c dC dI cy ad L A cells slots Q X pc ls (.ref (ad a) :: st) := fun H locs hP hS => va_get (D := (dC, dI)) C.1 C.2.1 C.2.2.2.2.1 hin C.2.2.2.1 C.2.2.2.2.2.1 hP a (hW_o ht hci) hc j hj (C.2.2.2.2.1 _ hlk) (fun x h9 => by rw [← hr]; exact h9) (v := .ref (ad b)) (by rw [hfs_r hf, hb]; rfl) hdg (k H locs hP hS)
theorem hx_puti (C : hC p s m args meth c dC dI cy ad L A cc nL Ts own) {ref Cn : String} {TT : u_T} {N ci index a j : Nat} (ty0 : Nat → FieldType) (hty : ∀ k, k < N → parseFieldDescriptor (TT k).2.2.1 = some (ty0 k)) (hnm : ∀ a, a < N → ∀ b, b < N → a ≠ b → (TT a).2.1 ≠ (TT b).2.1) (ht : tk L a ci) (hin : ∀ w ∈ u_ws Cn TT N, w ∈ Ts) (hci : ci < 11) (hc : vwCl[ci]? = some (Cn, TT, N)) (hj : j < N) (hf : (hfl ci)[j]? = some false) (hlk : Cond.fieldLink own index ref (TT j).2.1 (TT j).2.2.1 ∈ Ts) (hr : (TT j).1 = ref) (hfin : (TT j).2.2.2 = false) {ty : FieldType} (hd : parseFieldDescriptor (TT j).2.2.1 = some ty) (hdg : decode cc pc = .ok (.putfield index, 3)) {v : Int32} (hn : narrow ty (.int v) = .int v) (hfit : fits ty (.int v) = true) (k : hG p l e R s m args below meth c dC dI cy ad L A cells slots Q (smi X a j v) (pc + 3) ls st) : hG p l e R s m args below meth c dC dI cy ad L A cells slots Q X pc ls (.int v :: .ref (ad a) :: st) := fun H locs hP hS => va_put (D := (dC, dI)) C.1 C.2.1 C.2.2.2.2.1 hin ty0 hty hnm C.2.2.2.1 C.2.2.2.2.2.1 hP (C.2.2.2.2.2.2.2.2.1.D cy X) hS a (hW_o ht hci) hc j hj (C.2.2.2.2.1 _ hlk) (fun x h9 => by rw [← hr]; exact h9) hfin hd hn hfit (by unfold hfs; simpa using (List.getElem?_eq_some_iff.mp hf).1) hdg (fun H1 locs1 hP1 _ hS1 => k H1 locs1 (by rw [hW_smi ht.2 hci hf] at hP1; exact hP1) hS1)
theorem hx_putr (C : hC p s m args meth c dC dI cy ad L A cc nL Ts own) {ref Cn : String} {TT : u_T} {N ci index a j : Nat} (ty0 : Nat → FieldType) (hty : ∀ k, k < N → parseFieldDescriptor (TT k).2.2.1 = some (ty0 k)) (hnm : ∀ a, a < N → ∀ b, b < N → a ≠ b → (TT a).2.1 ≠ (TT b).2.1) (ht : tk L a ci) (hin : ∀ w ∈ u_ws Cn TT N, w ∈ Ts) (hci : ci < 11) (hc : vwCl[ci]? = some (Cn, TT, N)) (hj : j < N) (hf : (hfl ci)[j]? = some true) (hlk : Cond.fieldLink own index ref (TT j).2.1 (TT j).2.2.1 ∈ Ts) (hr : (TT j).1 = ref) (hfin : (TT j).2.2.2 = false) {ty : FieldType} (hd : parseFieldDescriptor (TT j).2.2.1 = some ty) (hdg : decode cc pc = .ok (.putfield index, 3)) {b : Nat} (hn : narrow ty (.ref (ad b)) = .ref (ad b)) (hfit : fits ty (.ref (ad b)) = true) (k : hG p l e R s m args below meth c dC dI cy ad L A cells slots Q (smr X a j (some b)) (pc + 3) ls st) : hG p l e R s m args below meth c dC dI cy ad L A cells slots Q X pc ls (.ref (ad b) :: .ref (ad a) :: st) := fun H locs hP hS => va_put (D := (dC, dI)) C.1 C.2.1 C.2.2.2.2.1 hin ty0 hty hnm C.2.2.2.1 C.2.2.2.2.2.1 hP (C.2.2.2.2.2.2.2.2.1.D cy X) hS a (hW_o ht hci) hc j hj (C.2.2.2.2.1 _ hlk) (fun x h9 => by rw [← hr]; exact h9) hfin hd hn hfit (by unfold hfs; simpa using (List.getElem?_eq_some_iff.mp hf).1) hdg (fun H1 locs1 hP1 _ hS1 => k H1 locs1 (by rw [show (Value.ref (ad b)) = va_re ad (some b) from rfl, hW_smr ht.2 hci hf] at hP1; exact hP1) hS1)
theorem hx_putiF (C : hC p s m args meth c dC dI cy ad L A cc nL Ts own) {ref Cn : String} {TT : u_T} {N ci index a j : Nat} (ty0 : Nat → FieldType) (hty : ∀ k, k < N → parseFieldDescriptor (TT k).2.2.1 = some (ty0 k)) (hnm : ∀ a, a < N → ∀ b, b < N → a ≠ b → (TT a).2.1 ≠ (TT b).2.1) (ht : tk L a ci) (hin : ∀ w ∈ u_ws Cn TT N, w ∈ Ts) (hci : ci < 11) (hc : vwCl[ci]? = some (Cn, TT, N)) (hj : j < N) (hf : (hfl ci)[j]? = some false) (hlk : Cond.fieldLink own index ref (TT j).2.1 (TT j).2.2.1 ∈ Ts) (hr : (TT j).1 = ref) (hfin : (TT j).2.2.2 = true) (hin2 : meth.name = "<init>") (hdec : (TT j).1 = own) {ty : FieldType} (hd : parseFieldDescriptor (TT j).2.2.1 = some ty) (hdg : decode cc pc = .ok (.putfield index, 3)) {v : Int32} (hn : narrow ty (.int v) = .int v) (hfit : fits ty (.int v) = true) (k : hG p l e R s m args below meth c dC dI cy ad L A cells slots Q (smi X a j v) (pc + 3) ls st) : hG p l e R s m args below meth c dC dI cy ad L A cells slots Q X pc ls (.int v :: .ref (ad a) :: st) := fun H locs hP hS => va_putF (D := (dC, dI)) C.1 C.2.1 C.2.2.2.2.1 hin ty0 hty hnm C.2.2.2.1 C.2.2.2.2.2.1 hP (C.2.2.2.2.2.2.2.2.1.D cy X) hS a (hW_o ht hci) hc j hj (C.2.2.2.2.1 _ hlk) (fun x h9 => by rw [← hr]; exact h9) hfin hin2 hdec hd hn hfit (by unfold hfs; simpa using (List.getElem?_eq_some_iff.mp hf).1) hdg (fun H1 locs1 hP1 _ hS1 => k H1 locs1 (by rw [hW_smi ht.2 hci hf] at hP1; exact hP1) hS1)
theorem hx_putrF (C : hC p s m args meth c dC dI cy ad L A cc nL Ts own) {ref Cn : String} {TT : u_T} {N ci index a j : Nat} (ty0 : Nat → FieldType) (hty : ∀ k, k < N → parseFieldDescriptor (TT k).2.2.1 = some (ty0 k)) (hnm : ∀ a, a < N → ∀ b, b < N → a ≠ b → (TT a).2.1 ≠ (TT b).2.1) (ht : tk L a ci) (hin : ∀ w ∈ u_ws Cn TT N, w ∈ Ts) (hci : ci < 11) (hc : vwCl[ci]? = some (Cn, TT, N)) (hj : j < N) (hf : (hfl ci)[j]? = some true) (hlk : Cond.fieldLink own index ref (TT j).2.1 (TT j).2.2.1 ∈ Ts) (hr : (TT j).1 = ref) (hfin : (TT j).2.2.2 = true) (hin2 : meth.name = "<init>") (hdec : (TT j).1 = own) {ty : FieldType} (hd : parseFieldDescriptor (TT j).2.2.1 = some ty) (hdg : decode cc pc = .ok (.putfield index, 3)) {b : Nat} (hn : narrow ty (.ref (ad b)) = .ref (ad b)) (hfit : fits ty (.ref (ad b)) = true) (k : hG p l e R s m args below meth c dC dI cy ad L A cells slots Q (smr X a j (some b)) (pc + 3) ls st) : hG p l e R s m args below meth c dC dI cy ad L A cells slots Q X pc ls (.ref (ad b) :: .ref (ad a) :: st) := fun H locs hP hS => va_putF (D := (dC, dI)) C.1 C.2.1 C.2.2.2.2.1 hin ty0 hty hnm C.2.2.2.1 C.2.2.2.2.2.1 hP (C.2.2.2.2.2.2.2.2.1.D cy X) hS a (hW_o ht hci) hc j hj (C.2.2.2.2.1 _ hlk) (fun x h9 => by rw [← hr]; exact h9) hfin hin2 hdec hd hn hfit (by unfold hfs; simpa using (List.getElem?_eq_some_iff.mp hf).1) hdg (fun H1 locs1 hP1 _ hS1 => k H1 locs1 (by rw [show (Value.ref (ad b)) = va_re ad (some b) from rfl, hW_smr ht.2 hci hf] at hP1; exact hP1) hS1)
theorem hx_iald (C : hC p s m args meth c dC dI cy ad L A cc nL Ts own) {a n : Nat} {i : Int32} (ht : tk L a 12) (hi : hin i (L.2.2 a)) (hn : i.toNatClampNeg = n) (hdg : decode cc pc = .ok (.iaload, 1)) (k : hG p l e R s m args below meth c dC dI cy ad L A cells slots Q X (pc + 1) ls (.int (X.1 a n) :: st)) : hG p l e R s m args below meth c dC dI cy ad L A cells slots Q X pc ls (.int i :: .ref (ad a) :: st) := fun H locs hP hS => by
  subst hn
  exact va_iald (D := (dC, dI)) C.1 C.2.1 C.2.2.2.2.2.1 hP a 1 (hW_i ht (by decide) (by decide)) rfl (hin_vp hi) hdg (k H locs hP hS)
theorem hx_cald (C : hC p s m args meth c dC dI cy ad L A cc nL Ts own) {a n : Nat} {i : Int32} (ht : tk L a 11) (hi : hin i (L.2.2 a)) (hn : i.toNatClampNeg = n) (hdg : decode cc pc = .ok (.caload, 1)) (k : hG p l e R s m args below meth c dC dI cy ad L A cells slots Q X (pc + 1) ls (.int (X.1 a n) :: st)) : hG p l e R s m args below meth c dC dI cy ad L A cells slots Q X pc ls (.int i :: .ref (ad a) :: st) := fun H locs hP hS => by
  subst hn
  exact va_cald (D := (dC, dI)) C.1 C.2.1 C.2.2.2.2.2.1 hP a 0 (hW_i ht (by decide) (by decide)) rfl (hin_vp hi) hdg (k H locs hP hS)
theorem hx_zald (C : hC p s m args meth c dC dI cy ad L A cc nL Ts own) {a n : Nat} {i : Int32} (ht : tk L a 13) (hi : hin i (L.2.2 a)) (hn : i.toNatClampNeg = n) (hdg : decode cc pc = .ok (.baload, 1)) (k : hG p l e R s m args below meth c dC dI cy ad L A cells slots Q X (pc + 1) ls (.int (X.1 a n) :: st)) : hG p l e R s m args below meth c dC dI cy ad L A cells slots Q X pc ls (.int i :: .ref (ad a) :: st) := fun H locs hP hS => by
  subst hn
  exact va_zald (D := (dC, dI)) C.1 C.2.1 C.2.2.2.2.2.1 hP a 2 (hW_i ht (by decide) (by decide)) rfl (hin_vp hi) hdg (k H locs hP hS)
theorem hx_iast (C : hC p s m args meth c dC dI cy ad L A cc nL Ts own) {a n : Nat} {i x : Int32} (ht : tk L a 12) (hi : hin i (L.2.2 a)) (hn : i.toNatClampNeg = n) (hdg : decode cc pc = .ok (.iastore, 1)) (k : hG p l e R s m args below meth c dC dI cy ad L A cells slots Q (smi X a n x) (pc + 1) ls st) : hG p l e R s m args below meth c dC dI cy ad L A cells slots Q X pc ls (.int x :: .int i :: .ref (ad a) :: st) := fun H locs hP hS => by
  subst hn
  exact va_iast (D := (dC, dI)) C.1 C.2.1 C.2.2.2.2.2.1 hP (C.2.2.2.2.2.2.2.2.1.D cy X) hS a 1 (hW_i ht (by decide) (by decide)) rfl (hin_vp hi) hdg (fun H1 locs1 hP1 _ hS1 => k H1 locs1 (by rw [hW_ast ht.2 (by decide) (by decide)] at hP1; exact hP1) hS1)
theorem hx_cast (C : hC p s m args meth c dC dI cy ad L A cc nL Ts own) {a n : Nat} {i x : Int32} (ht : tk L a 11) (hi : hin i (L.2.2 a)) (hn : i.toNatClampNeg = n) (hdg : decode cc pc = .ok (.castore, 1)) (k : hG p l e R s m args below meth c dC dI cy ad L A cells slots Q (smi X a n (vp_nar .char x)) (pc + 1) ls st) : hG p l e R s m args below meth c dC dI cy ad L A cells slots Q X pc ls (.int x :: .int i :: .ref (ad a) :: st) := fun H locs hP hS => by
  subst hn
  exact va_cast (D := (dC, dI)) C.1 C.2.1 C.2.2.2.2.2.1 hP (C.2.2.2.2.2.2.2.2.1.D cy X) hS a 0 (hW_i ht (by decide) (by decide)) rfl (hin_vp hi) hdg (fun H1 locs1 hP1 _ hS1 => k H1 locs1 (by rw [hW_ast ht.2 (by decide) (by decide)] at hP1; exact hP1) hS1)
theorem hx_zast (C : hC p s m args meth c dC dI cy ad L A cc nL Ts own) {a n : Nat} {i x : Int32} (ht : tk L a 13) (hi : hin i (L.2.2 a)) (hn : i.toNatClampNeg = n) (hdg : decode cc pc = .ok (.bastore, 1)) (k : hG p l e R s m args below meth c dC dI cy ad L A cells slots Q (smi X a n (vp_nar .boolean x)) (pc + 1) ls st) : hG p l e R s m args below meth c dC dI cy ad L A cells slots Q X pc ls (.int x :: .int i :: .ref (ad a) :: st) := fun H locs hP hS => by
  subst hn
  exact va_zast (D := (dC, dI)) C.1 C.2.1 C.2.2.2.2.2.1 hP (C.2.2.2.2.2.2.2.2.1.D cy X) hS a 2 (hW_i ht (by decide) (by decide)) rfl (hin_vp hi) hdg (fun H1 locs1 hP1 _ hS1 => k H1 locs1 (by rw [hW_ast ht.2 (by decide) (by decide)] at hP1; exact hP1) hS1)
theorem hx_aald (C : hC p s m args meth c dC dI cy ad L A cc nL Ts own) {a b n ci t0 : Nat} {Cn : String} {i : Int32} (ht : tk L a ci) (h14 : ¬ ci < 14) (htt : (hT cy)[t0]? = some (cy ci, .object Cn)) (hi : hin i (L.2.2 a)) (hn : i.toNatClampNeg = n) (hb : X.2 a n = some b) (hdg : decode cc pc = .ok (.aaload, 1)) (k : hG p l e R s m args below meth c dC dI cy ad L A cells slots Q X (pc + 1) ls (.ref (ad b) :: st)) : hG p l e R s m args below meth c dC dI cy ad L A cells slots Q X pc ls (.int i :: .ref (ad a) :: st) := fun H locs hP hS => by
  subst hn
  exact va_aldq (D := (dC, dI)) C.1 C.2.1 C.2.2.2.2.2.1 hP a t0 (hW_r ht h14) htt (hin_vp hi) hdg (by simp only [hb]; exact k H locs hP hS)
theorem hx_aast (C : hC p s m args meth c dC dI cy ad L A cc nL Ts own) {a b n ci ck t0 : Nat} {r : vw_C} {i : Int32} (ht : tk L a ci) (h14 : ¬ ci < 14) (htt : (hT cy)[t0]? = some (cy ci, .object r.1)) (hb : tk L b ck) (hck : ck < 11) (hc : vwCl[ck]? = some r) (hi : hin i (L.2.2 a)) (hn : i.toNatClampNeg = n) (hdg : decode cc pc = .ok (.aastore, 1)) (k : hG p l e R s m args below meth c dC dI cy ad L A cells slots Q (smr X a n (some b)) (pc + 1) ls st) : hG p l e R s m args below meth c dC dI cy ad L A cells slots Q X pc ls (.ref (ad b) :: .int i :: .ref (ad a) :: st) := fun H locs hP hS => by
  subst hn
  exact va_astq (D := (dC, dI)) C.1 C.2.1 C.2.2.2.2.2.1 hP (C.2.2.2.2.2.2.2.2.1.D cy X) hS a t0 b ck (hW_r ht h14) htt (hW_o hb hck) hc (hin_vp hi) hdg (fun H1 locs1 hP1 _ hS1 => k H1 locs1 (by rw [hW_astr ht.2 h14] at hP1; exact hP1) hS1)
theorem hx_alen11 (C : hC p s m args meth c dC dI cy ad L A cc nL Ts own) {a : Nat} (ht : tk L a 11) (hdg : decode cc pc = .ok (.arraylength, 1)) (k : hG p l e R s m args below meth c dC dI cy ad L A cells slots Q X (pc + 1) ls (.int (Int32.ofNat (L.2.2 a)) :: st)) : hG p l e R s m args below meth c dC dI cy ad L A cells slots Q X pc ls (.ref (ad a) :: st) := fun H locs hP hS => va_alen (D := (dC, dI)) C.1 C.2.1 C.2.2.2.2.2.1 hP a 0 (hW_i ht (by decide) (by decide)) rfl rfl hdg (k H locs hP hS)
theorem hx_alen12 (C : hC p s m args meth c dC dI cy ad L A cc nL Ts own) {a : Nat} (ht : tk L a 12) (hdg : decode cc pc = .ok (.arraylength, 1)) (k : hG p l e R s m args below meth c dC dI cy ad L A cells slots Q X (pc + 1) ls (.int (Int32.ofNat (L.2.2 a)) :: st)) : hG p l e R s m args below meth c dC dI cy ad L A cells slots Q X pc ls (.ref (ad a) :: st) := fun H locs hP hS => va_alen (D := (dC, dI)) C.1 C.2.1 C.2.2.2.2.2.1 hP a 1 (hW_i ht (by decide) (by decide)) rfl rfl hdg (k H locs hP hS)
theorem hx_alen13 (C : hC p s m args meth c dC dI cy ad L A cc nL Ts own) {a : Nat} (ht : tk L a 13) (hdg : decode cc pc = .ok (.arraylength, 1)) (k : hG p l e R s m args below meth c dC dI cy ad L A cells slots Q X (pc + 1) ls (.int (Int32.ofNat (L.2.2 a)) :: st)) : hG p l e R s m args below meth c dC dI cy ad L A cells slots Q X pc ls (.ref (ad a) :: st) := fun H locs hP hS => va_alen (D := (dC, dI)) C.1 C.2.1 C.2.2.2.2.2.1 hP a 2 (hW_i ht (by decide) (by decide)) rfl rfl hdg (k H locs hP hS)
theorem hx_alenR (C : hC p s m args meth c dC dI cy ad L A cc nL Ts own) {a ci t0 : Nat} {ty : FieldType} (ht : tk L a ci) (h14 : ¬ ci < 14) (htt : (hT cy)[t0]? = some (cy ci, ty)) (hdg : decode cc pc = .ok (.arraylength, 1)) (k : hG p l e R s m args below meth c dC dI cy ad L A cells slots Q X (pc + 1) ls (.int (Int32.ofNat (L.2.2 a)) :: st)) : hG p l e R s m args below meth c dC dI cy ad L A cells slots Q X pc ls (.ref (ad a) :: st) := fun H locs hP hS => va_alen (D := (dC, dI)) C.1 C.2.1 C.2.2.2.2.2.1 hP a t0 (hW_r ht h14) htt rfl hdg (k H locs hP hS)
theorem hx_iret (C : hC p s m args meth c dC dI cy ad L (hA ad L s.heap.size) cc nL Ts own) {v : Int32} (hr : meth.sig.returnType = some .int) (hdg : decode cc pc = .ok (.ireturn, 1)) : hG p l e R s m args below meth c dC dI cy ad L (hA ad L s.heap.size) 0 0 (MQ below (hQ dC dI cy ad L s.heap.size (some (.int v)) X) args s 0 0 (hA ad L s.heap.size)) X pc ls [.int v] := fun H locs hP hS => W.iret C.1 C.2.1 hr (hlocks := C.2.2.2.2.2.2.2.1) (fun t ht _ => ⟨rfl, by rw [ht]; exact hP, hS.F ht⟩) hS.2.2 hdg
theorem hx_zret (C : hC p s m args meth c dC dI cy ad L (hA ad L s.heap.size) cc nL Ts own) {v : Int32} {ty : FieldType} (hr : meth.sig.returnType = some ty) (hn : narrow ty (.int v) = .int v) (hdg : decode cc pc = .ok (.ireturn, 1)) : hG p l e R s m args below meth c dC dI cy ad L (hA ad L s.heap.size) 0 0 (MQ below (hQ dC dI cy ad L s.heap.size (some (.int v)) X) args s 0 0 (hA ad L s.heap.size)) X pc ls [.int v] := fun H locs hP hS => W.zret C.1 C.2.1 hr hn (hlocks := C.2.2.2.2.2.2.2.1) (fun t ht _ => ⟨rfl, by rw [ht]; exact hP, hS.F ht⟩) hS.2.2 hdg
theorem hx_vret (C : hC p s m args meth c dC dI cy ad L (hA ad L s.heap.size) cc nL Ts own)  (hr : meth.sig.returnType = none) (hdg : decode cc pc = .ok (.return_, 1)) : hG p l e R s m args below meth c dC dI cy ad L (hA ad L s.heap.size) 0 0 (MQ below (hQ dC dI cy ad L s.heap.size none X) args s 0 0 (hA ad L s.heap.size)) X pc ls [] := fun H locs hP hS => W.vret C.1 C.2.1 hr (hlocks := C.2.2.2.2.2.2.2.1) (fun t ht _ => ⟨rfl, by rw [ht]; exact hP, hS.F ht⟩) hS.2.2 hdg
theorem hx_aret (C : hC p s m args meth c dC dI cy ad L (hA ad L s.heap.size) cc nL Ts own) {b : Nat} {rt : FieldType} (hr : meth.sig.returnType = some rt) (hrt : (∃ n, rt = .object n) ∨ ∃ t, rt = .array t) (hdg : decode cc pc = .ok (.areturn, 1)) : hG p l e R s m args below meth c dC dI cy ad L (hA ad L s.heap.size) 0 0 (MQ below (hQ dC dI cy ad L s.heap.size (some (.ref (ad b))) X) args s 0 0 (hA ad L s.heap.size)) X pc ls [.ref (ad b)] := fun H locs hP hS => W.aret C.1 C.2.1 hr hrt (Or.inr ⟨_, rfl⟩) (hlocks := C.2.2.2.2.2.2.2.1) (fun t ht _ => ⟨rfl, by rw [ht]; exact hP, hS.F ht⟩) hS.2.2 hdg
theorem hx_aretN (C : hC p s m args meth c dC dI cy ad L (hA ad L s.heap.size) cc nL Ts own) {rt : FieldType} (hr : meth.sig.returnType = some rt) (hrt : (∃ n, rt = .object n) ∨ ∃ t, rt = .array t) (hdg : decode cc pc = .ok (.areturn, 1)) : hG p l e R s m args below meth c dC dI cy ad L (hA ad L s.heap.size) 0 0 (MQ below (hQ dC dI cy ad L s.heap.size (some .null) X) args s 0 0 (hA ad L s.heap.size)) X pc ls [.null] := fun H locs hP hS => W.aret C.1 C.2.1 hr hrt (Or.inl rfl) (hlocks := C.2.2.2.2.2.2.2.1) (fun t ht _ => ⟨rfl, by rw [ht]; exact hP, hS.F ht⟩) hS.2.2 hdg
theorem hx_after {H : Heap} {locs : List Loc} {ov : Option Value} {X' : hX} {rest st0 : List Value} {a : Array Value} (C : hC p s m args meth c dC dI cy ad L A cc nL Ts own) (hr : va_Run p l e R s m args below meth c H locs cells slots 0 0 (F0 m pc ls st0) rest (hQ dC dI cy ad L H.size ov X' a) (hA ad L H.size)) (hS : va_S A s.heap H locs) (kk : hG p l e R s m args below meth c dC dI cy ad L A cells slots Q X' (pc + 3) ls (ov.toList ++ rest)) : W p l e R s m args below meth c H locs cells slots Q (F0 m pc ls st0) := by
  intro T hT XX
  obtain ⟨v, st₀, t, T', Lo, h0, XX', hL, e1, e2, ⟨hov, hP1, hz, hk⟩, st⟩ := hr T hT XX
  cases hov
  rw [h0] at hz hk
  have hAA : ∀ q, hA ad L H.size q → A q := fun q h => h.elim (fun ⟨k, hk, e⟩ => by rw [e]; exact C.2.2.2.2.2.2.2.2.1.2 k hk) (fun h => C.2.2.2.2.2.2.2.2.2.1 q (Nat.le_trans hS.1 h))
  obtain ⟨t2, a1, b1⟩ := kk T'.heap (locs ++ Lo) (by rw [e1]; exact hP1) ⟨Nat.le_trans hS.1 (by rw [e1]; exact hz), fun q h1 h2 => by rw [e1, hk q (Nat.lt_of_lt_of_le h1 hS.1) (fun z => h2 (hAA q z))]; exact hS.2.1 q h1 h2, fun q hq => by
      rcases List.mem_append.mp hq with h | h
      · exact hS.2.2 q h
      · exact hAA _ (hL q h)⟩ T' rfl XX'
  exact ⟨t2, st t2 a1, b1⟩
theorem hC.dd (C : hC p s m args meth c dC dI cy ad L A cc nL Ts own) : hDD (fun _ => True) ad L := ⟨C.2.2.2.2.2.2.2.2.1.1, fun _ _ => trivial⟩
theorem hC.sub {H : Heap} {locs : List Loc} (C : hC p s m args meth c dC dI cy ad L A cc nL Ts own) (hS : va_S A s.heap H locs) : ∀ q, hA ad L H.size q → A q := fun q h => h.elim (fun ⟨k, hk, e⟩ => by rw [e]; exact C.2.2.2.2.2.2.2.2.1.2 k hk) (fun h => C.2.2.2.2.2.2.2.2.2.1 q (Nat.le_trans hS.1 h))
theorem hx_callV (C : hC p s m args meth c dC dI cy ad L A cc nL Ts own) {y : MethodName} {ws ws' : List Cond} {rm : Room} {As rest : List Value} {bytes : ByteArray} {maxL n index : Nat} {ret : Option FieldType} {ov : Option Value} {X' : hX}  {Cn : String} {TT : u_T} {N ci b : Nat} (hM : hMet l dC dI cy ad L y ws rm (.ref (ad b) :: As) X ov X') (hg : GoodIn Ts (wsV own index Cn y ws)) (ht : tk L b ci) (hci : ci < 11) (hc : vwCl[ci]? = some (Cn, TT, N)) (hd : y.cls = Cn ∧ y.cls ≠ "java/lang/invoke/MethodHandle" ∧ y.cls ≠ "java/lang/invoke/VarHandle" ∧ (parseMethodDescriptor y.desc).map (fun d => d.parameters.length) = some n) (hR : rm.frames + 1 ≤ R.frames ∧ 8 + (maxL + 11) + rm.locals ≤ R.locals) (hw : ws = Cond.code y bytes maxL ret :: ws') (hrc : rm.cells = 0) (hrs : rm.slots = 0) (hcs : cells + 0 ≤ R.cells ∧ slots + 0 ≤ R.slots) (hsz : ls.size = nL) (hn : As.length = n) (hst : st = As.reverse ++ .ref (ad b) :: rest) (hcat : (rest.map fun v => v.category).sum ≤ 8) (hdg : decode cc pc = .ok (.invokevirtual index, 3)) (k : hG p l e R s m args below meth c dC dI cy ad L A cells slots Q X' (pc + 3) ls (ov.toList ++ rest)) : hG p l e R s m args below meth c dC dI cy ad L A cells slots Q X pc ls st := fun H locs hP hS => by
  subst hst
  exact hx_after C (va_runV ⟨C.1, C.2.1, C.2.2.1, C.2.2.2.1, C.2.2.2.2.1⟩ (hM C.dd H.size) (cwV n C.2.2.2.2.1 hg hw hrc hrs hd hR) ⟨hx_blind, va_recv C.2.2.2.2.2.1 hP hc (hW_o ht hci), fun U hU hW => ⟨rfl, by rw [hU], by rw [hU]; exact hP, va_K.moved hW.alike C.2.2.2.2.2.1, C.2.2.2.2.2.2.1.warm hW, by rw [hU]; exact C.2.2.2.2.2.2.2.2.2.2.go hS hW (hC.sub C hS)⟩⟩ rfl hn hsz rfl (lv_room hcat) hdg hcs) hS k
theorem hx_callS (C : hC p s m args meth c dC dI cy ad L A cc nL Ts own) {y : MethodName} {ws ws' : List Cond} {rm : Room} {As rest : List Value} {bytes : ByteArray} {maxL n index : Nat} {ret : Option FieldType} {ov : Option Value} {X' : hX}  (hM : hMet l dC dI cy ad L y ws rm As X ov X') (hg : GoodIn Ts (va_wsS own index y ws)) (hd : y.cls ≠ "java/lang/invoke/MethodHandle" ∧ y.cls ≠ "java/lang/invoke/VarHandle" ∧ (parseMethodDescriptor y.desc).map (fun d => d.parameters.length) = some n) (hR : rm.frames + 1 ≤ R.frames ∧ 8 + (maxL + 11) + rm.locals ≤ R.locals) (hw : ws = Cond.code y bytes maxL ret :: ws') (hrc : rm.cells = 0) (hrs : rm.slots = 0) (hcs : cells + 0 ≤ R.cells ∧ slots + 0 ≤ R.slots) (hsz : ls.size = nL) (hn : As.length = n) (hst : st = As.reverse ++ rest) (hcat : (rest.map fun v => v.category).sum ≤ 8) (hdg : decode cc pc = .ok (.invokestatic index, 3)) (k : hG p l e R s m args below meth c dC dI cy ad L A cells slots Q X' (pc + 3) ls (ov.toList ++ rest)) : hG p l e R s m args below meth c dC dI cy ad L A cells slots Q X pc ls st := fun H locs hP hS => by
  subst hst
  exact hx_after C (va_runS ⟨C.1, C.2.1, C.2.2.1, C.2.2.2.1, C.2.2.2.2.1⟩ (hM C.dd H.size) (va_cwS n C.2.2.2.2.1 hg hw hrc hrs hd hR) ⟨hx_blind, fun U hU hW => ⟨rfl, by rw [hU], by rw [hU]; exact hP, va_K.moved hW.alike C.2.2.2.2.2.1, C.2.2.2.2.2.2.1.warm hW, by rw [hU]; exact C.2.2.2.2.2.2.2.2.2.2.go hS hW (hC.sub C hS)⟩⟩ rfl hn hsz rfl (lv_room hcat) hdg hcs) hS k
theorem hx_callSN (C : hC p s m args meth c dC dI cy ad L A cc nL Ts own) {y : MethodName} {ws ws' : List Cond} {rm : Room} {As rest : List Value} {bytes : ByteArray} {maxL n index : Nat} {ret : Option FieldType} {ov : Option Value} {X' : hX}  {host : String} (hM : hMet l dC dI cy ad L y ws rm As X ov X') (hg : GoodIn Ts ws) (hq : (own, index, y, host) ∈ hNl) (hini : Cond.initialized y.cls ∈ Ts) (hsta : Cond.static y ∈ Ts) (hd : y.cls ≠ "java/lang/invoke/MethodHandle" ∧ y.cls ≠ "java/lang/invoke/VarHandle" ∧ (parseMethodDescriptor y.desc).map (fun d => d.parameters.length) = some n) (hR : rm.frames + 1 ≤ R.frames ∧ 8 + (maxL + 11) + rm.locals ≤ R.locals) (hw : ws = Cond.code y bytes maxL ret :: ws') (hrc : rm.cells = 0) (hrs : rm.slots = 0) (hcs : cells + 0 ≤ R.cells ∧ slots + 0 ≤ R.slots) (hsz : ls.size = nL) (hn : As.length = n) (hst : st = As.reverse ++ rest) (hcat : (rest.map fun v => v.category).sum ≤ 8) (hdg : decode cc pc = .ok (.invokestatic index, 3)) (k : hG p l e R s m args below meth c dC dI cy ad L A cells slots Q X' (pc + 3) ls (ov.toList ++ rest)) : hG p l e R s m args below meth c dC dI cy ad L A cells slots Q X pc ls st := fun H locs hP hS => by
  subst hst
  exact hx_after C (va_runSN (host := host) ⟨C.1, C.2.1, C.2.2.1, C.2.2.2.1, C.2.2.2.2.1⟩ (hM C.dd H.size) ⟨va_cnB n C.2.2.2.2.1 hg hw hrc hrs (C.2.2.2.2.2.2.1 _ hq) (C.2.2.2.2.1 _ hini) hd hR, C.2.2.2.2.1 _ hsta, trivial⟩ ⟨hx_blind, fun U hU hW => ⟨rfl, by rw [hU], by rw [hU]; exact hP, va_K.moved hW.alike C.2.2.2.2.2.1, C.2.2.2.2.2.2.1.warm hW, by rw [hU]; exact C.2.2.2.2.2.2.2.2.2.2.go hS hW (hC.sub C hS)⟩⟩ rfl hn hsz rfl (lv_room hcat) hdg hcs) hS k
theorem hx_mmax (C : hC p s m args meth c dC dI cy ad L A cc nL Ts own) {index : Nat} {x y : Int32} (h1 : Cond.methodLink own index Lib.Math.max.name ∈ Ts) (h2 : Cond.static Lib.Math.max.name ∈ Ts) (h3 : Cond.initialized "java/lang/Math" ∈ Ts) (h4 : Cond.code Lib.Math.max.name Lib.Math.max.code 2 (some .int) ∈ Ts) (hsz : ls.size = nL) (hfr : 1 ≤ R.frames) (hlo : (st.map fun v => v.category).sum + 13 ≤ R.locals) (hc : cells ≤ R.cells) (hs : slots ≤ R.slots) (hdg : decode cc pc = .ok (.invokestatic index, 3)) (k : hG p l e R s m args below meth c dC dI cy ad L A cells slots Q X (pc + 3) ls (.int (if x < y then y else x) :: st)) : hG p l e R s m args below meth c dC dI cy ad L A cells slots Q X pc ls (.int y :: .int x :: st) := fun H locs hP hS => va_mmax C.1 C.2.1 (C.2.2.1.trans hsz.symm) C.2.2.2.1 (C.2.2.2.2.1 _ h1) (C.2.2.2.2.1 _ h2) (C.2.2.2.2.1 _ h3) (C.2.2.2.2.1 _ h4) hfr hlo hc hs hdg (k H locs hP hS)
theorem hx_mmin (C : hC p s m args meth c dC dI cy ad L A cc nL Ts own) {index : Nat} {x y : Int32} (h1 : Cond.methodLink own index Lib.Math.min.name ∈ Ts) (h2 : Cond.static Lib.Math.min.name ∈ Ts) (h3 : Cond.initialized "java/lang/Math" ∈ Ts) (h4 : Cond.code Lib.Math.min.name Lib.Math.min.code 2 (some .int) ∈ Ts) (hsz : ls.size = nL) (hfr : 1 ≤ R.frames) (hlo : (st.map fun v => v.category).sum + 13 ≤ R.locals) (hc : cells ≤ R.cells) (hs : slots ≤ R.slots) (hdg : decode cc pc = .ok (.invokestatic index, 3)) (k : hG p l e R s m args below meth c dC dI cy ad L A cells slots Q X (pc + 3) ls (.int (if y < x then y else x) :: st)) : hG p l e R s m args below meth c dC dI cy ad L A cells slots Q X pc ls (.int y :: .int x :: st) := fun H locs hP hS => va_mmin C.1 C.2.1 (C.2.2.1.trans hsz.symm) C.2.2.2.1 (C.2.2.2.2.1 _ h1) (C.2.2.2.2.1 _ h2) (C.2.2.2.2.1 _ h3) (C.2.2.2.2.1 _ h4) hfr hlo hc hs hdg (k H locs hP hS)
theorem hx_mabs (C : hC p s m args meth c dC dI cy ad L A cc nL Ts own) {index : Nat} {x : Int32} (h1 : Cond.methodLink own index Lib.Math.abs.name ∈ Ts) (h2 : Cond.static Lib.Math.abs.name ∈ Ts) (h3 : Cond.initialized "java/lang/Math" ∈ Ts) (h4 : Cond.code Lib.Math.abs.name Lib.Math.abs.code 1 (some .int) ∈ Ts) (hsz : ls.size = nL) (hfr : 1 ≤ R.frames) (hlo : (st.map fun v => v.category).sum + 13 ≤ R.locals) (hc : cells ≤ R.cells) (hs : slots ≤ R.slots) (hdg : decode cc pc = .ok (.invokestatic index, 3)) (k : hG p l e R s m args below meth c dC dI cy ad L A cells slots Q X (pc + 3) ls (.int (if 0 ≤ x then x else 0 - x) :: st)) : hG p l e R s m args below meth c dC dI cy ad L A cells slots Q X pc ls (.int x :: st) := fun H locs hP hS => va_mabs C.1 C.2.1 (C.2.2.1.trans hsz.symm) C.2.2.2.1 (C.2.2.2.2.1 _ h1) (C.2.2.2.2.1 _ h2) (C.2.2.2.2.1 _ h3) (C.2.2.2.2.1 _ h4) hfr hlo hc hs hdg (k H locs hP hS)
theorem hx_sld (C : hC p s m args meth c dC dI cy ad L A cc nL Ts own) {n : Nat} {i : Int32} (hi : hin i (dI 100 1)) (hn : i.toNatClampNeg = n) (hdg : decode cc pc = .ok (.iaload, 1)) (k : hG p l e R s m args below meth c dC dI cy ad L A cells slots Q X (pc + 1) ls (.int (sX dI n) :: st)) : hG p l e R s m args below meth c dC dI cy ad L A cells slots Q X pc ls (.int i :: .ref (dI 100 0) :: st) := fun H locs hP hS => by
  subst hn
  exact va_sld C.1 C.2.1 C.2.2.2.2.2.2.2.2.2.2.1.1 C.2.2.2.2.2.2.2.2.2.2.1.2.1 C.2.2.2.2.2.2.2.2.2.2.1.2.2 hS (hin_vp hi) hdg (k H locs hP hS)
theorem hx_slen (C : hC p s m args meth c dC dI cy ad L A cc nL Ts own) (hdg : decode cc pc = .ok (.arraylength, 1)) (k : hG p l e R s m args below meth c dC dI cy ad L A cells slots Q X (pc + 1) ls (.int (Int32.ofNat (dI 100 1)) :: st)) : hG p l e R s m args below meth c dC dI cy ad L A cells slots Q X pc ls (.ref (dI 100 0) :: st) := fun H locs hP hS => va_slen C.1 C.2.1 C.2.2.2.2.2.2.2.2.2.2.1.1 C.2.2.2.2.2.2.2.2.2.2.1.2.1 C.2.2.2.2.2.2.2.2.2.2.1.2.2 hS hdg (k H locs hP hS)
end HX
end
section
theorem dL_cell_0 : decode cL_cell 0 = .ok (.iload_n 1, 1) := by decide +kernel
theorem dL_cell_1 : decode cL_cell 1 = .ok (.aload_n 0, 1) := by decide +kernel
theorem dL_cell_2 : decode cL_cell 2 = .ok (.arraylength, 1) := by decide +kernel
theorem dL_cell_3 : decode cL_cell 3 = .ok (.if_icmp .ge 9, 3) := by decide +kernel
theorem dL_cell_6 : decode cL_cell 6 = .ok (.aload_n 0, 1) := by decide +kernel
theorem dL_cell_7 : decode cL_cell 7 = .ok (.iload_n 1, 1) := by decide +kernel
theorem dL_cell_8 : decode cL_cell 8 = .ok (.iaload, 1) := by decide +kernel
theorem dL_cell_9 : decode cL_cell 9 = .ok (.goto 10, 3) := by decide +kernel
theorem dL_cell_12 : decode cL_cell 12 = .ok (.ldc 7, 2) := by decide +kernel
theorem dL_cell_14 : decode cL_cell 14 = .ok (.iload_n 1, 1) := by decide +kernel
theorem dL_cell_15 : decode cL_cell 15 = .ok (.imul, 1) := by decide +kernel
theorem dL_cell_16 : decode cL_cell 16 = .ok (.bipush 109, 2) := by decide +kernel
theorem dL_cell_18 : decode cL_cell 18 = .ok (.iadd, 1) := by decide +kernel
theorem dL_cell_19 : decode cL_cell 19 = .ok (.ldc 8, 2) := by decide +kernel
theorem dL_cell_21 : decode cL_cell 21 = .ok (.iand, 1) := by decide +kernel
theorem dL_cell_22 : decode cL_cell 22 = .ok (.ireturn, 1) := by decide +kernel
set_option maxRecDepth 20000 in
theorem ggL_reading_X9_count : GoodIn wsL_reading wsX9_count := goodIn_r _ [6, 7, 8, 9, 10, 11, 12, 13, 14, 15, 16, 17, 18, 19, 20, 5, 21, 22, 23, 24, 25, 26, 27, 28, 29, 30, 31, 32, 33, 34, 35, 36, 37, 38, 39, 40, 41, 42, 43, 44, 45, 46, 47, 48, 49, 50, 51, 52, 53, 54, 144, 145, 146, 147, 148, 149, 150, 151, 152, 153, 154, 155, 156, 157, 158, 159, 160, 161, 162, 163, 164, 165, 166, 167, 168, 169, 170, 171, 172, 173, 174, 175, 176, 177, 178, 179, 180, 181, 182, 183, 184] (by decide +kernel) (by decide +kernel)
set_option maxRecDepth 20000 in
theorem gL_reading_X9_count : GoodIn wsL_reading (wsV RL 9 RX9 yX9_count wsX9_count) := goodIn_app (goodIn_of _ (by decide +kernel)) ggL_reading_X9_count
set_option maxRecDepth 20000 in
theorem ggL_reading_X9_read : GoodIn wsL_reading wsX9_read := goodIn_r _ [58, 59, 60, 61, 62, 63, 64, 5, 65, 18, 19, 20, 21, 7, 8, 22, 66, 67, 68, 69, 70, 71, 72, 73, 74, 75, 76, 77, 78, 79, 160, 161, 162, 163, 164, 165, 166, 167, 168, 169, 170, 171, 144, 145, 146, 147, 148, 149, 150, 157, 158, 159] (by decide +kernel) (by decide +kernel)
set_option maxRecDepth 20000 in
theorem gL_reading_X9_read : GoodIn wsL_reading (wsV RL 15 RX9 yX9_read wsX9_read) := goodIn_app (goodIn_of _ (by decide +kernel)) ggL_reading_X9_read
set_option maxRecDepth 20000 in
theorem ggL_reading_X9_allowed : GoodIn wsL_reading wsX9_allowed := goodIn_r _ [83, 59, 60, 61, 84, 18, 19, 20, 5, 21, 7, 8, 22, 85, 86, 87, 26, 88, 89, 64, 65, 63, 90, 91, 92, 93, 94, 95, 96, 70, 71, 72, 97, 98, 99, 100, 101, 102, 103, 104, 105, 106, 107, 108, 74, 75, 76, 77, 78, 79, 109, 110, 111, 112, 113, 114, 115, 116, 117, 118, 119, 120, 121, 122, 123, 124, 160, 161, 162, 163, 164, 165, 166, 167, 168, 144, 145, 146, 147, 148, 149, 150, 157, 158, 159, 169, 170, 171, 185, 186] (by decide +kernel) (by decide +kernel)
set_option maxRecDepth 20000 in
theorem gL_reading_X9_allowed : GoodIn wsL_reading (wsV RL 18 RX9 yX9_allowed wsX9_allowed) := goodIn_app (goodIn_of _ (by decide +kernel)) ggL_reading_X9_allowed
set_option maxRecDepth 20000 in
theorem ggL_reading_X9_guess : GoodIn wsL_reading wsX9_guess := goodIn_r _ [128, 59, 60, 61, 18, 19, 20, 5, 21, 7, 8, 22, 85, 86, 87, 26, 88, 89, 64, 65, 63, 129, 130, 131, 93, 132, 133, 134, 135, 136, 71, 137, 96, 70, 72, 138, 91, 92, 94, 95, 97, 98, 99, 100, 101, 102, 103, 104, 105, 106, 107, 108, 74, 75, 76, 77, 78, 79, 139, 110, 111, 112, 113, 114, 115, 116, 117, 118, 119, 120, 121, 122, 123, 124, 140, 141, 142, 143, 160, 161, 162, 163, 164, 165, 166, 167, 168, 144, 145, 146, 147, 148, 149, 150, 157, 158, 159, 185, 186, 169, 170, 171] (by decide +kernel) (by decide +kernel)
set_option maxRecDepth 20000 in
theorem gL_reading_X9_guess : GoodIn wsL_reading (wsV RL 23 RX9 yX9_guess wsX9_guess) := goodIn_app (goodIn_of _ (by decide +kernel)) ggL_reading_X9_guess
theorem dL_reading_0 : decode cL_reading 0 = .ok (.aload_n 0, 1) := by decide +kernel
theorem dL_reading_1 : decode cL_reading 1 = .ok (.iconst 0, 1) := by decide +kernel
theorem dL_reading_2 : decode cL_reading 2 = .ok (.invokevirtual 9, 3) := by decide +kernel
theorem dL_reading_5 : decode cL_reading 5 = .ok (.istore_n 3, 1) := by decide +kernel
theorem dL_reading_6 : decode cL_reading 6 = .ok (.aload_n 0, 1) := by decide +kernel
theorem dL_reading_7 : decode cL_reading 7 = .ok (.iload_n 1, 1) := by decide +kernel
theorem dL_reading_8 : decode cL_reading 8 = .ok (.invokevirtual 15, 3) := by decide +kernel
theorem dL_reading_11 : decode cL_reading 11 = .ok (.istore 4, 2) := by decide +kernel
theorem dL_reading_13 : decode cL_reading 13 = .ok (.aload_n 0, 1) := by decide +kernel
theorem dL_reading_14 : decode cL_reading 14 = .ok (.iload 4, 2) := by decide +kernel
theorem dL_reading_16 : decode cL_reading 16 = .ok (.iload_n 2, 1) := by decide +kernel
theorem dL_reading_17 : decode cL_reading 17 = .ok (.iconst 0, 1) := by decide +kernel
theorem dL_reading_18 : decode cL_reading 18 = .ok (.invokevirtual 18, 3) := by decide +kernel
theorem dL_reading_21 : decode cL_reading 21 = .ok (.istore 5, 2) := by decide +kernel
theorem dL_reading_23 : decode cL_reading 23 = .ok (.aload_n 0, 1) := by decide +kernel
theorem dL_reading_24 : decode cL_reading 24 = .ok (.iload 4, 2) := by decide +kernel
theorem dL_reading_26 : decode cL_reading 26 = .ok (.iload_n 2, 1) := by decide +kernel
theorem dL_reading_27 : decode cL_reading 27 = .ok (.iconst 1, 1) := by decide +kernel
theorem dL_reading_28 : decode cL_reading 28 = .ok (.invokevirtual 18, 3) := by decide +kernel
theorem dL_reading_31 : decode cL_reading 31 = .ok (.istore 6, 2) := by decide +kernel
theorem dL_reading_33 : decode cL_reading 33 = .ok (.aload_n 0, 1) := by decide +kernel
theorem dL_reading_34 : decode cL_reading 34 = .ok (.iload 4, 2) := by decide +kernel
theorem dL_reading_36 : decode cL_reading 36 = .ok (.iload_n 2, 1) := by decide +kernel
theorem dL_reading_37 : decode cL_reading 37 = .ok (.iconst 2, 1) := by decide +kernel
theorem dL_reading_38 : decode cL_reading 38 = .ok (.invokevirtual 18, 3) := by decide +kernel
theorem dL_reading_41 : decode cL_reading 41 = .ok (.istore 7, 2) := by decide +kernel
theorem dL_reading_43 : decode cL_reading 43 = .ok (.iload 4, 2) := by decide +kernel
theorem dL_reading_45 : decode cL_reading 45 = .ok (.ifCond .lt 50, 3) := by decide +kernel
theorem dL_reading_48 : decode cL_reading 48 = .ok (.iload 4, 2) := by decide +kernel
theorem dL_reading_50 : decode cL_reading 50 = .ok (.iload_n 3, 1) := by decide +kernel
theorem dL_reading_51 : decode cL_reading 51 = .ok (.irem, 1) := by decide +kernel
theorem dL_reading_52 : decode cL_reading 52 = .ok (.ifCond .ne 43, 3) := by decide +kernel
theorem dL_reading_55 : decode cL_reading 55 = .ok (.iload_n 1, 1) := by decide +kernel
theorem dL_reading_56 : decode cL_reading 56 = .ok (.ifCond .lt 23, 3) := by decide +kernel
theorem dL_reading_59 : decode cL_reading 59 = .ok (.iconst 2, 1) := by decide +kernel
theorem dL_reading_60 : decode cL_reading 60 = .ok (.iload 4, 2) := by decide +kernel
theorem dL_reading_62 : decode cL_reading 62 = .ok (.iload_n 1, 1) := by decide +kernel
theorem dL_reading_63 : decode cL_reading 63 = .ok (.isub, 1) := by decide +kernel
theorem dL_reading_64 : decode cL_reading 64 = .ok (.imul, 1) := by decide +kernel
theorem dL_reading_65 : decode cL_reading 65 = .ok (.iload_n 3, 1) := by decide +kernel
theorem dL_reading_66 : decode cL_reading 66 = .ok (.if_icmp .gt 29, 3) := by decide +kernel
theorem dL_reading_69 : decode cL_reading 69 = .ok (.iconst 2, 1) := by decide +kernel
theorem dL_reading_70 : decode cL_reading 70 = .ok (.iload_n 1, 1) := by decide +kernel
theorem dL_reading_71 : decode cL_reading 71 = .ok (.iload 4, 2) := by decide +kernel
theorem dL_reading_73 : decode cL_reading 73 = .ok (.isub, 1) := by decide +kernel
theorem dL_reading_74 : decode cL_reading 74 = .ok (.imul, 1) := by decide +kernel
theorem dL_reading_75 : decode cL_reading 75 = .ok (.iload_n 3, 1) := by decide +kernel
theorem dL_reading_76 : decode cL_reading 76 = .ok (.if_icmp .gt 19, 3) := by decide +kernel
theorem dL_reading_79 : decode cL_reading 79 = .ok (.aload_n 0, 1) := by decide +kernel
theorem dL_reading_80 : decode cL_reading 80 = .ok (.iload_n 1, 1) := by decide +kernel
theorem dL_reading_81 : decode cL_reading 81 = .ok (.iconst 1, 1) := by decide +kernel
theorem dL_reading_82 : decode cL_reading 82 = .ok (.iadd, 1) := by decide +kernel
theorem dL_reading_83 : decode cL_reading 83 = .ok (.invokevirtual 15, 3) := by decide +kernel
theorem dL_reading_86 : decode cL_reading 86 = .ok (.iload 4, 2) := by decide +kernel
theorem dL_reading_88 : decode cL_reading 88 = .ok (.if_icmp .lt 7, 3) := by decide +kernel
theorem dL_reading_91 : decode cL_reading 91 = .ok (.iconst 1, 1) := by decide +kernel
theorem dL_reading_92 : decode cL_reading 92 = .ok (.goto 4, 3) := by decide +kernel
theorem dL_reading_95 : decode cL_reading 95 = .ok (.iconst 0, 1) := by decide +kernel
theorem dL_reading_96 : decode cL_reading 96 = .ok (.istore 8, 2) := by decide +kernel
theorem dL_reading_98 : decode cL_reading 98 = .ok (.iload 7, 2) := by decide +kernel
theorem dL_reading_100 : decode cL_reading 100 = .ok (.ifCond .ne 41, 3) := by decide +kernel
theorem dL_reading_103 : decode cL_reading 103 = .ok (.iload 8, 2) := by decide +kernel
theorem dL_reading_105 : decode cL_reading 105 = .ok (.ifCond .eq 34, 3) := by decide +kernel
theorem dL_reading_108 : decode cL_reading 108 = .ok (.iload 5, 2) := by decide +kernel
theorem dL_reading_110 : decode cL_reading 110 = .ok (.ldc 22, 2) := by decide +kernel
theorem dL_reading_112 : decode cL_reading 112 = .ok (.if_icmp .ne 27, 3) := by decide +kernel
theorem dL_reading_115 : decode cL_reading 115 = .ok (.iload 6, 2) := by decide +kernel
theorem dL_reading_117 : decode cL_reading 117 = .ok (.ldc 22, 2) := by decide +kernel
theorem dL_reading_119 : decode cL_reading 119 = .ok (.if_icmp .ne 20, 3) := by decide +kernel
theorem dL_reading_122 : decode cL_reading 122 = .ok (.aload_n 0, 1) := by decide +kernel
theorem dL_reading_123 : decode cL_reading 123 = .ok (.iload 4, 2) := by decide +kernel
theorem dL_reading_125 : decode cL_reading 125 = .ok (.iload_n 2, 1) := by decide +kernel
theorem dL_reading_126 : decode cL_reading 126 = .ok (.iconst 0, 1) := by decide +kernel
theorem dL_reading_127 : decode cL_reading 127 = .ok (.invokevirtual 23, 3) := by decide +kernel
theorem dL_reading_130 : decode cL_reading 130 = .ok (.ldc 22, 2) := by decide +kernel
theorem dL_reading_132 : decode cL_reading 132 = .ok (.if_icmp .ne 7, 3) := by decide +kernel
theorem dL_reading_135 : decode cL_reading 135 = .ok (.iconst 1, 1) := by decide +kernel
theorem dL_reading_136 : decode cL_reading 136 = .ok (.goto 4, 3) := by decide +kernel
end
section
theorem dL_reading_139 : decode cL_reading 139 = .ok (.iconst 0, 1) := by decide +kernel
theorem dL_reading_140 : decode cL_reading 140 = .ok (.ireturn, 1) := by decide +kernel
theorem dL_reading_141 : decode cL_reading 141 = .ok (.aload_n 0, 1) := by decide +kernel
theorem dL_reading_142 : decode cL_reading 142 = .ok (.iload 4, 2) := by decide +kernel
theorem dL_reading_144 : decode cL_reading 144 = .ok (.iload_n 2, 1) := by decide +kernel
theorem dL_reading_145 : decode cL_reading 145 = .ok (.iconst 0, 1) := by decide +kernel
theorem dL_reading_146 : decode cL_reading 146 = .ok (.invokevirtual 23, 3) := by decide +kernel
theorem dL_reading_149 : decode cL_reading 149 = .ok (.istore 9, 2) := by decide +kernel
theorem dL_reading_151 : decode cL_reading 151 = .ok (.aload_n 0, 1) := by decide +kernel
theorem dL_reading_152 : decode cL_reading 152 = .ok (.iload 4, 2) := by decide +kernel
theorem dL_reading_154 : decode cL_reading 154 = .ok (.iload_n 2, 1) := by decide +kernel
theorem dL_reading_155 : decode cL_reading 155 = .ok (.iconst 3, 1) := by decide +kernel
theorem dL_reading_156 : decode cL_reading 156 = .ok (.invokevirtual 23, 3) := by decide +kernel
theorem dL_reading_159 : decode cL_reading 159 = .ok (.istore 10, 2) := by decide +kernel
theorem dL_reading_161 : decode cL_reading 161 = .ok (.iload 8, 2) := by decide +kernel
theorem dL_reading_163 : decode cL_reading 163 = .ok (.ifCond .eq 78, 3) := by decide +kernel
theorem dL_reading_166 : decode cL_reading 166 = .ok (.iload 7, 2) := by decide +kernel
theorem dL_reading_168 : decode cL_reading 168 = .ok (.iload 6, 2) := by decide +kernel
theorem dL_reading_170 : decode cL_reading 170 = .ok (.iload 5, 2) := by decide +kernel
theorem dL_reading_172 : decode cL_reading 172 = .ok (.isub, 1) := by decide +kernel
theorem dL_reading_173 : decode cL_reading 173 = .ok (.iconst 1, 1) := by decide +kernel
theorem dL_reading_174 : decode cL_reading 174 = .ok (.iadd, 1) := by decide +kernel
theorem dL_reading_175 : decode cL_reading 175 = .ok (.if_icmp .ne 66, 3) := by decide +kernel
theorem dL_reading_178 : decode cL_reading 178 = .ok (.iload 5, 2) := by decide +kernel
theorem dL_reading_180 : decode cL_reading 180 = .ok (.ifCond .lt 61, 3) := by decide +kernel
theorem dL_reading_183 : decode cL_reading 183 = .ok (.aload_n 0, 1) := by decide +kernel
theorem dL_reading_184 : decode cL_reading 184 = .ok (.iload 4, 2) := by decide +kernel
theorem dL_reading_186 : decode cL_reading 186 = .ok (.iload_n 2, 1) := by decide +kernel
theorem dL_reading_187 : decode cL_reading 187 = .ok (.iconst 1, 1) := by decide +kernel
theorem dL_reading_188 : decode cL_reading 188 = .ok (.invokevirtual 23, 3) := by decide +kernel
theorem dL_reading_191 : decode cL_reading 191 = .ok (.iload 5, 2) := by decide +kernel
theorem dL_reading_193 : decode cL_reading 193 = .ok (.if_icmp .ne 48, 3) := by decide +kernel
theorem dL_reading_196 : decode cL_reading 196 = .ok (.aload_n 0, 1) := by decide +kernel
theorem dL_reading_197 : decode cL_reading 197 = .ok (.iload 4, 2) := by decide +kernel
theorem dL_reading_199 : decode cL_reading 199 = .ok (.iload_n 2, 1) := by decide +kernel
theorem dL_reading_200 : decode cL_reading 200 = .ok (.iconst 2, 1) := by decide +kernel
theorem dL_reading_201 : decode cL_reading 201 = .ok (.invokevirtual 23, 3) := by decide +kernel
theorem dL_reading_204 : decode cL_reading 204 = .ok (.iload 6, 2) := by decide +kernel
theorem dL_reading_206 : decode cL_reading 206 = .ok (.if_icmp .ne 35, 3) := by decide +kernel
theorem dL_reading_209 : decode cL_reading 209 = .ok (.iload 9, 2) := by decide +kernel
theorem dL_reading_211 : decode cL_reading 211 = .ok (.iload 5, 2) := by decide +kernel
theorem dL_reading_213 : decode cL_reading 213 = .ok (.if_icmp .lt 28, 3) := by decide +kernel
theorem dL_reading_216 : decode cL_reading 216 = .ok (.iload 9, 2) := by decide +kernel
theorem dL_reading_218 : decode cL_reading 218 = .ok (.iload 6, 2) := by decide +kernel
theorem dL_reading_220 : decode cL_reading 220 = .ok (.if_icmp .gt 21, 3) := by decide +kernel
theorem dL_reading_223 : decode cL_reading 223 = .ok (.iload 10, 2) := by decide +kernel
theorem dL_reading_225 : decode cL_reading 225 = .ok (.iload 5, 2) := by decide +kernel
theorem dL_reading_227 : decode cL_reading 227 = .ok (.if_icmp .lt 14, 3) := by decide +kernel
theorem dL_reading_230 : decode cL_reading 230 = .ok (.iload 10, 2) := by decide +kernel
theorem dL_reading_232 : decode cL_reading 232 = .ok (.iload 6, 2) := by decide +kernel
theorem dL_reading_234 : decode cL_reading 234 = .ok (.if_icmp .gt 7, 3) := by decide +kernel
theorem dL_reading_237 : decode cL_reading 237 = .ok (.iconst 1, 1) := by decide +kernel
theorem dL_reading_238 : decode cL_reading 238 = .ok (.goto 4, 3) := by decide +kernel
theorem dL_reading_241 : decode cL_reading 241 = .ok (.iconst 0, 1) := by decide +kernel
theorem dL_reading_242 : decode cL_reading 242 = .ok (.ireturn, 1) := by decide +kernel
set_option maxRecDepth 20000 in
theorem ggL_holds_X9_count : GoodIn wsL_holds wsX9_count := goodIn_r _ [7, 8, 9, 10, 11, 12, 13, 14, 15, 16, 17, 18, 19, 20, 21, 6, 22, 23, 24, 25, 26, 27, 28, 29, 30, 31, 32, 33, 34, 35, 36, 37, 38, 39, 40, 41, 42, 43, 44, 45, 46, 47, 48, 49, 50, 51, 52, 53, 54, 55, 229, 230, 231, 232, 233, 234, 235, 236, 237, 238, 239, 240, 241, 242, 243, 244, 245, 246, 247, 248, 249, 250, 251, 252, 253, 254, 255, 256, 257, 258, 259, 260, 261, 262, 263, 264, 265, 266, 267, 268, 269] (by decide +kernel) (by decide +kernel)
set_option maxRecDepth 20000 in
theorem gL_holds_X9_count : GoodIn wsL_holds (wsV RL 9 RX9 yX9_count wsX9_count) := goodIn_app (goodIn_of _ (by decide +kernel)) ggL_holds_X9_count
set_option maxRecDepth 20000 in
theorem ggL_holds_X9_customer : GoodIn wsL_holds wsX9_customer := goodIn_r _ [59, 60, 19, 20, 21, 6, 22, 8, 9, 23, 61, 62, 63, 27, 64, 35, 43, 65, 66, 67, 68, 69, 70, 71, 72, 73, 74, 75, 76, 77, 78, 79, 229, 230, 231, 232, 233, 234, 235, 242, 243, 244, 245, 246, 247, 248, 249, 250, 251, 252, 253, 257, 258, 259, 260, 261, 262] (by decide +kernel) (by decide +kernel)
set_option maxRecDepth 20000 in
theorem gL_holds_X9_customer : GoodIn wsL_holds (wsV RL 26 RX9 yX9_customer wsX9_customer) := goodIn_app (goodIn_of _ (by decide +kernel)) ggL_holds_X9_customer
set_option maxRecDepth 20000 in
theorem ggL_holds_X9_shop : GoodIn wsL_holds wsX9_shop := goodIn_r _ [83, 60, 84, 19, 20, 21, 6, 22, 8, 9, 23, 61, 62, 63, 27, 64, 35, 43, 65, 66, 85, 86, 87, 88, 89, 55, 90, 91, 92, 93, 94, 95, 96, 97, 98, 99, 36, 100, 101, 102, 103, 104, 105, 106, 107, 54, 108, 109, 110, 111, 112, 113, 257, 258, 259, 260, 261, 262, 229, 230, 231, 232, 233, 234, 235, 242, 243, 244, 245, 246, 247, 248, 249, 250, 251, 252, 253, 263, 264, 265, 266, 267, 268, 269] (by decide +kernel) (by decide +kernel)
set_option maxRecDepth 20000 in
theorem gL_holds_X9_shop : GoodIn wsL_holds (wsV RL 30 RX9 yX9_shop wsX9_shop) := goodIn_app (goodIn_of _ (by decide +kernel)) ggL_holds_X9_shop
set_option maxRecDepth 20000 in
theorem ggL_holds_X9_prize : GoodIn wsL_holds wsX9_prize := goodIn_r _ [117, 60, 19, 20, 21, 6, 22, 8, 9, 23, 118, 105, 106, 27, 107, 36, 54, 65, 66, 119, 120, 121, 122, 123, 124, 125, 126, 127, 128, 129, 130, 131, 229, 230, 231, 232, 233, 234, 235, 242, 243, 244, 245, 246, 247, 248, 249, 250, 251, 252, 253, 263, 264, 265, 266, 267, 268, 269] (by decide +kernel) (by decide +kernel)
set_option maxRecDepth 20000 in
theorem gL_holds_X9_prize : GoodIn wsL_holds (wsV RL 33 RX9 yX9_prize wsX9_prize) := goodIn_app (goodIn_of _ (by decide +kernel)) ggL_holds_X9_prize
set_option maxRecDepth 20000 in
theorem ggL_holds_X9_soldOut : GoodIn wsL_holds wsX9_soldOut := goodIn_r _ [135, 60, 136, 19, 20, 21, 6, 22, 8, 9, 23, 118, 105, 106, 27, 107, 36, 54, 65, 66, 137, 138, 139, 122, 140, 124, 125, 126, 127, 128, 129, 130, 141, 142, 143, 144, 145, 146, 147, 148, 149, 150, 92, 93, 94, 108, 109, 110, 111, 112, 113, 229, 230, 231, 232, 233, 234, 235, 242, 243, 244, 245, 246, 247, 248, 249, 250, 251, 252, 253, 263, 264, 265, 266, 267, 268, 269] (by decide +kernel) (by decide +kernel)
set_option maxRecDepth 20000 in
theorem gL_holds_X9_soldOut : GoodIn wsL_holds (wsV RL 36 RX9 yX9_soldOut wsX9_soldOut) := goodIn_app (goodIn_of _ (by decide +kernel)) ggL_holds_X9_soldOut
set_option maxRecDepth 20000 in
theorem ggL_holds_X9_fairest : GoodIn wsL_holds wsX9_fairest := goodIn_r _ [154, 19, 20, 21, 6, 22, 8, 9, 23, 155, 156, 157, 27, 158, 159, 160, 161, 162, 93, 163, 164, 165, 166, 167, 43, 44, 168, 29, 169, 170, 171, 172, 173, 174, 175, 65, 66, 176, 177, 178, 179, 180, 181, 182, 183, 92, 94, 184, 185, 186, 187, 188, 189, 190, 191, 192, 193, 194, 195, 196, 197, 198, 199, 200, 201, 202, 203, 108, 109, 110, 111, 112, 113, 204, 205, 206, 207, 208, 209, 210, 211, 212, 213, 214, 215, 216, 217, 218, 219, 220, 221, 222, 223, 229, 230, 231, 232, 233, 234, 235, 242, 243, 244, 245, 246, 247, 248, 249, 250, 251, 252, 253, 257, 258, 259, 260, 261, 262, 270, 271, 254, 255, 256] (by decide +kernel) (by decide +kernel)
set_option maxRecDepth 20000 in
theorem gL_holds_X9_fairest : GoodIn wsL_holds (wsV RL 39 RX9 yX9_fairest wsX9_fairest) := goodIn_app (goodIn_of _ (by decide +kernel)) ggL_holds_X9_fairest
set_option maxRecDepth 20000 in
theorem ggL_holds_X9_would : GoodIn wsL_holds wsX9_would := goodIn_r _ [227, 60, 85, 65, 6, 66, 19, 20, 21, 22, 8, 9, 23, 228, 165, 166, 27, 167, 160, 43, 44, 168, 159, 29, 169, 170, 171, 172, 173, 174, 175, 176, 177, 178, 179, 180, 181, 182, 183, 92, 93, 94, 184, 185, 186, 187, 188, 189, 190, 191, 192, 193, 194, 195, 196, 197, 198, 199, 200, 201, 202, 203, 108, 109, 110, 111, 112, 113, 204, 205, 206, 207, 208, 209, 210, 211, 212, 213, 214, 215, 216, 217, 218, 219, 220, 221, 222, 223, 229, 230, 231, 232, 233, 234, 235, 242, 243, 244, 245, 246, 247, 248, 249, 250, 251, 252, 253, 257, 258, 259, 260, 261, 262, 270, 271, 254, 255, 256] (by decide +kernel) (by decide +kernel)
set_option maxRecDepth 20000 in
theorem gL_holds_X9_would : GoodIn wsL_holds (wsV RL 43 RX9 yX9_would wsX9_would) := goodIn_app (goodIn_of _ (by decide +kernel)) ggL_holds_X9_would
theorem dL_holds_0 : decode cL_holds 0 = .ok (.iconst 0, 1) := by decide +kernel
theorem dL_holds_1 : decode cL_holds 1 = .ok (.istore_n 1, 1) := by decide +kernel
theorem dL_holds_2 : decode cL_holds 2 = .ok (.iconst 0, 1) := by decide +kernel
theorem dL_holds_3 : decode cL_holds 3 = .ok (.istore_n 2, 1) := by decide +kernel
theorem dL_holds_4 : decode cL_holds 4 = .ok (.iconst 0, 1) := by decide +kernel
theorem dL_holds_5 : decode cL_holds 5 = .ok (.istore_n 3, 1) := by decide +kernel
theorem dL_holds_6 : decode cL_holds 6 = .ok (.iconst 1, 1) := by decide +kernel
theorem dL_holds_7 : decode cL_holds 7 = .ok (.istore 4, 2) := by decide +kernel
theorem dL_holds_9 : decode cL_holds 9 = .ok (.iconst 0, 1) := by decide +kernel
theorem dL_holds_10 : decode cL_holds 10 = .ok (.istore 5, 2) := by decide +kernel
theorem dL_holds_12 : decode cL_holds 12 = .ok (.iload 5, 2) := by decide +kernel
theorem dL_holds_14 : decode cL_holds 14 = .ok (.aload_n 0, 1) := by decide +kernel
theorem dL_holds_15 : decode cL_holds 15 = .ok (.iconst 5, 1) := by decide +kernel
theorem dL_holds_16 : decode cL_holds 16 = .ok (.invokevirtual 9, 3) := by decide +kernel
theorem dL_holds_19 : decode cL_holds 19 = .ok (.if_icmp .ge 119, 3) := by decide +kernel
theorem dL_holds_22 : decode cL_holds 22 = .ok (.iload 4, 2) := by decide +kernel
theorem dL_holds_24 : decode cL_holds 24 = .ok (.ifCond .eq 114, 3) := by decide +kernel
theorem dL_holds_27 : decode cL_holds 27 = .ok (.iload_n 1, 1) := by decide +kernel
theorem dL_holds_28 : decode cL_holds 28 = .ok (.aload_n 0, 1) := by decide +kernel
theorem dL_holds_29 : decode cL_holds 29 = .ok (.iload 5, 2) := by decide +kernel
theorem dL_holds_31 : decode cL_holds 31 = .ok (.iconst 0, 1) := by decide +kernel
theorem dL_holds_32 : decode cL_holds 32 = .ok (.invokevirtual 26, 3) := by decide +kernel
theorem dL_holds_35 : decode cL_holds 35 = .ok (.iadd, 1) := by decide +kernel
theorem dL_holds_36 : decode cL_holds 36 = .ok (.istore_n 1, 1) := by decide +kernel
theorem dL_holds_37 : decode cL_holds 37 = .ok (.iload_n 3, 1) := by decide +kernel
theorem dL_holds_38 : decode cL_holds 38 = .ok (.aload_n 0, 1) := by decide +kernel
theorem dL_holds_39 : decode cL_holds 39 = .ok (.iload 5, 2) := by decide +kernel
end
section
theorem dL_holds_41 : decode cL_holds 41 = .ok (.iconst 1, 1) := by decide +kernel
theorem dL_holds_42 : decode cL_holds 42 = .ok (.invokevirtual 26, 3) := by decide +kernel
theorem dL_holds_45 : decode cL_holds 45 = .ok (.ifCond .ge 7, 3) := by decide +kernel
theorem dL_holds_48 : decode cL_holds 48 = .ok (.iconst 0, 1) := by decide +kernel
theorem dL_holds_49 : decode cL_holds 49 = .ok (.goto 4, 3) := by decide +kernel
theorem dL_holds_52 : decode cL_holds 52 = .ok (.iconst 1, 1) := by decide +kernel
theorem dL_holds_53 : decode cL_holds 53 = .ok (.iadd, 1) := by decide +kernel
theorem dL_holds_54 : decode cL_holds 54 = .ok (.istore_n 3, 1) := by decide +kernel
theorem dL_holds_55 : decode cL_holds 55 = .ok (.aload_n 0, 1) := by decide +kernel
theorem dL_holds_56 : decode cL_holds 56 = .ok (.iload 5, 2) := by decide +kernel
theorem dL_holds_58 : decode cL_holds 58 = .ok (.iconst 0, 1) := by decide +kernel
theorem dL_holds_59 : decode cL_holds 59 = .ok (.invokevirtual 26, 3) := by decide +kernel
theorem dL_holds_62 : decode cL_holds 62 = .ok (.ifCond .lt 67, 3) := by decide +kernel
theorem dL_holds_65 : decode cL_holds 65 = .ok (.aload_n 0, 1) := by decide +kernel
theorem dL_holds_66 : decode cL_holds 66 = .ok (.iload 5, 2) := by decide +kernel
theorem dL_holds_68 : decode cL_holds 68 = .ok (.iconst 1, 1) := by decide +kernel
theorem dL_holds_69 : decode cL_holds 69 = .ok (.invokevirtual 30, 3) := by decide +kernel
theorem dL_holds_72 : decode cL_holds 72 = .ok (.ifCond .lt 57, 3) := by decide +kernel
theorem dL_holds_75 : decode cL_holds 75 = .ok (.aload_n 0, 1) := by decide +kernel
theorem dL_holds_76 : decode cL_holds 76 = .ok (.iload 5, 2) := by decide +kernel
theorem dL_holds_78 : decode cL_holds 78 = .ok (.iconst 1, 1) := by decide +kernel
theorem dL_holds_79 : decode cL_holds 79 = .ok (.invokevirtual 30, 3) := by decide +kernel
theorem dL_holds_82 : decode cL_holds 82 = .ok (.aload_n 0, 1) := by decide +kernel
theorem dL_holds_83 : decode cL_holds 83 = .ok (.iload 5, 2) := by decide +kernel
theorem dL_holds_85 : decode cL_holds 85 = .ok (.iconst 0, 1) := by decide +kernel
theorem dL_holds_86 : decode cL_holds 86 = .ok (.invokevirtual 26, 3) := by decide +kernel
theorem dL_holds_89 : decode cL_holds 89 = .ok (.if_icmp .gt 40, 3) := by decide +kernel
theorem dL_holds_92 : decode cL_holds 92 = .ok (.aload_n 0, 1) := by decide +kernel
theorem dL_holds_93 : decode cL_holds 93 = .ok (.iload 5, 2) := by decide +kernel
theorem dL_holds_95 : decode cL_holds 95 = .ok (.iconst 0, 1) := by decide +kernel
theorem dL_holds_96 : decode cL_holds 96 = .ok (.invokevirtual 30, 3) := by decide +kernel
theorem dL_holds_99 : decode cL_holds 99 = .ok (.ifCond .ne 7, 3) := by decide +kernel
theorem dL_holds_102 : decode cL_holds 102 = .ok (.iconst 1, 1) := by decide +kernel
theorem dL_holds_103 : decode cL_holds 103 = .ok (.goto 4, 3) := by decide +kernel
theorem dL_holds_106 : decode cL_holds 106 = .ok (.iconst 0, 1) := by decide +kernel
theorem dL_holds_107 : decode cL_holds 107 = .ok (.aload_n 0, 1) := by decide +kernel
theorem dL_holds_108 : decode cL_holds 108 = .ok (.iload 5, 2) := by decide +kernel
theorem dL_holds_110 : decode cL_holds 110 = .ok (.iconst 2, 1) := by decide +kernel
theorem dL_holds_111 : decode cL_holds 111 = .ok (.invokevirtual 30, 3) := by decide +kernel
theorem dL_holds_114 : decode cL_holds 114 = .ok (.ifCond .ne 7, 3) := by decide +kernel
theorem dL_holds_117 : decode cL_holds 117 = .ok (.iconst 1, 1) := by decide +kernel
theorem dL_holds_118 : decode cL_holds 118 = .ok (.goto 4, 3) := by decide +kernel
theorem dL_holds_121 : decode cL_holds 121 = .ok (.iconst 0, 1) := by decide +kernel
theorem dL_holds_122 : decode cL_holds 122 = .ok (.if_icmp .ne 7, 3) := by decide +kernel
theorem dL_holds_125 : decode cL_holds 125 = .ok (.iconst 1, 1) := by decide +kernel
theorem dL_holds_126 : decode cL_holds 126 = .ok (.goto 4, 3) := by decide +kernel
theorem dL_holds_129 : decode cL_holds 129 = .ok (.iconst 0, 1) := by decide +kernel
theorem dL_holds_130 : decode cL_holds 130 = .ok (.istore 4, 2) := by decide +kernel
theorem dL_holds_132 : decode cL_holds 132 = .ok (.iinc 5 1, 3) := by decide +kernel
theorem dL_holds_135 : decode cL_holds 135 = .ok (.goto (-123), 3) := by decide +kernel
theorem dL_holds_138 : decode cL_holds 138 = .ok (.iconst 0, 1) := by decide +kernel
theorem dL_holds_139 : decode cL_holds 139 = .ok (.istore 5, 2) := by decide +kernel
theorem dL_holds_141 : decode cL_holds 141 = .ok (.iload 5, 2) := by decide +kernel
theorem dL_holds_143 : decode cL_holds 143 = .ok (.aload_n 0, 1) := by decide +kernel
theorem dL_holds_144 : decode cL_holds 144 = .ok (.bipush 6, 2) := by decide +kernel
theorem dL_holds_146 : decode cL_holds 146 = .ok (.invokevirtual 9, 3) := by decide +kernel
theorem dL_holds_149 : decode cL_holds 149 = .ok (.if_icmp .ge 91, 3) := by decide +kernel
theorem dL_holds_152 : decode cL_holds 152 = .ok (.iload 4, 2) := by decide +kernel
theorem dL_holds_154 : decode cL_holds 154 = .ok (.ifCond .eq 86, 3) := by decide +kernel
theorem dL_holds_157 : decode cL_holds 157 = .ok (.aload_n 0, 1) := by decide +kernel
theorem dL_holds_158 : decode cL_holds 158 = .ok (.iload 5, 2) := by decide +kernel
theorem dL_holds_160 : decode cL_holds 160 = .ok (.iconst 2, 1) := by decide +kernel
theorem dL_holds_161 : decode cL_holds 161 = .ok (.invokevirtual 33, 3) := by decide +kernel
theorem dL_holds_164 : decode cL_holds 164 = .ok (.istore 6, 2) := by decide +kernel
theorem dL_holds_166 : decode cL_holds 166 = .ok (.iload_n 2, 1) := by decide +kernel
theorem dL_holds_167 : decode cL_holds 167 = .ok (.iload 6, 2) := by decide +kernel
theorem dL_holds_169 : decode cL_holds 169 = .ok (.iadd, 1) := by decide +kernel
theorem dL_holds_170 : decode cL_holds 170 = .ok (.istore_n 2, 1) := by decide +kernel
theorem dL_holds_171 : decode cL_holds 171 = .ok (.iload 6, 2) := by decide +kernel
theorem dL_holds_173 : decode cL_holds 173 = .ok (.ifCond .lt 58, 3) := by decide +kernel
theorem dL_holds_176 : decode cL_holds 176 = .ok (.iload 6, 2) := by decide +kernel
theorem dL_holds_178 : decode cL_holds 178 = .ok (.bipush 99, 2) := by decide +kernel
theorem dL_holds_180 : decode cL_holds 180 = .ok (.if_icmp .gt 51, 3) := by decide +kernel
theorem dL_holds_183 : decode cL_holds 183 = .ok (.aload_n 0, 1) := by decide +kernel
theorem dL_holds_184 : decode cL_holds 184 = .ok (.iload 5, 2) := by decide +kernel
theorem dL_holds_186 : decode cL_holds 186 = .ok (.iconst 5, 1) := by decide +kernel
theorem dL_holds_187 : decode cL_holds 187 = .ok (.invokevirtual 33, 3) := by decide +kernel
theorem dL_holds_190 : decode cL_holds 190 = .ok (.aload_n 0, 1) := by decide +kernel
theorem dL_holds_191 : decode cL_holds 191 = .ok (.iload 5, 2) := by decide +kernel
theorem dL_holds_193 : decode cL_holds 193 = .ok (.iconst 3, 1) := by decide +kernel
theorem dL_holds_194 : decode cL_holds 194 = .ok (.invokevirtual 33, 3) := by decide +kernel
theorem dL_holds_197 : decode cL_holds 197 = .ok (.if_icmp .ge 34, 3) := by decide +kernel
theorem dL_holds_200 : decode cL_holds 200 = .ok (.aload_n 0, 1) := by decide +kernel
theorem dL_holds_201 : decode cL_holds 201 = .ok (.iload 5, 2) := by decide +kernel
theorem dL_holds_203 : decode cL_holds 203 = .ok (.invokevirtual 36, 3) := by decide +kernel
theorem dL_holds_206 : decode cL_holds 206 = .ok (.ifCond .ne 7, 3) := by decide +kernel
theorem dL_holds_209 : decode cL_holds 209 = .ok (.iconst 1, 1) := by decide +kernel
theorem dL_holds_210 : decode cL_holds 210 = .ok (.goto 4, 3) := by decide +kernel
theorem dL_holds_213 : decode cL_holds 213 = .ok (.iconst 0, 1) := by decide +kernel
theorem dL_holds_214 : decode cL_holds 214 = .ok (.iload 6, 2) := by decide +kernel
theorem dL_holds_216 : decode cL_holds 216 = .ok (.ifCond .ne 7, 3) := by decide +kernel
theorem dL_holds_219 : decode cL_holds 219 = .ok (.iconst 1, 1) := by decide +kernel
theorem dL_holds_220 : decode cL_holds 220 = .ok (.goto 4, 3) := by decide +kernel
theorem dL_holds_223 : decode cL_holds 223 = .ok (.iconst 0, 1) := by decide +kernel
theorem dL_holds_224 : decode cL_holds 224 = .ok (.if_icmp .ne 7, 3) := by decide +kernel
theorem dL_holds_227 : decode cL_holds 227 = .ok (.iconst 1, 1) := by decide +kernel
theorem dL_holds_228 : decode cL_holds 228 = .ok (.goto 4, 3) := by decide +kernel
theorem dL_holds_231 : decode cL_holds 231 = .ok (.iconst 0, 1) := by decide +kernel
theorem dL_holds_232 : decode cL_holds 232 = .ok (.istore 4, 2) := by decide +kernel
theorem dL_holds_234 : decode cL_holds 234 = .ok (.iinc 5 1, 3) := by decide +kernel
theorem dL_holds_237 : decode cL_holds 237 = .ok (.goto (-96), 3) := by decide +kernel
theorem dL_holds_240 : decode cL_holds 240 = .ok (.aload_n 0, 1) := by decide +kernel
theorem dL_holds_241 : decode cL_holds 241 = .ok (.invokevirtual 39, 3) := by decide +kernel
theorem dL_holds_244 : decode cL_holds 244 = .ok (.istore 5, 2) := by decide +kernel
theorem dL_holds_246 : decode cL_holds 246 = .ok (.iconst 0, 1) := by decide +kernel
theorem dL_holds_247 : decode cL_holds 247 = .ok (.istore 6, 2) := by decide +kernel
theorem dL_holds_249 : decode cL_holds 249 = .ok (.iload 6, 2) := by decide +kernel
theorem dL_holds_251 : decode cL_holds 251 = .ok (.iconst 4, 1) := by decide +kernel
theorem dL_holds_252 : decode cL_holds 252 = .ok (.if_icmp .ge 61, 3) := by decide +kernel
theorem dL_holds_255 : decode cL_holds 255 = .ok (.iload 4, 2) := by decide +kernel
end
section
theorem dL_holds_257 : decode cL_holds 257 = .ok (.ifCond .eq 56, 3) := by decide +kernel
theorem dL_holds_260 : decode cL_holds 260 = .ok (.iload 5, 2) := by decide +kernel
theorem dL_holds_262 : decode cL_holds 262 = .ok (.ifCond .lt 51, 3) := by decide +kernel
theorem dL_holds_265 : decode cL_holds 265 = .ok (.aload_n 0, 1) := by decide +kernel
theorem dL_holds_266 : decode cL_holds 266 = .ok (.iload 5, 2) := by decide +kernel
theorem dL_holds_268 : decode cL_holds 268 = .ok (.invokevirtual 43, 3) := by decide +kernel
theorem dL_holds_271 : decode cL_holds 271 = .ok (.ldc 46, 2) := by decide +kernel
theorem dL_holds_273 : decode cL_holds 273 = .ok (.isub, 1) := by decide +kernel
theorem dL_holds_274 : decode cL_holds 274 = .ok (.istore 7, 2) := by decide +kernel
theorem dL_holds_276 : decode cL_holds 276 = .ok (.aload_n 0, 1) := by decide +kernel
theorem dL_holds_277 : decode cL_holds 277 = .ok (.iload 6, 2) := by decide +kernel
theorem dL_holds_279 : decode cL_holds 279 = .ok (.invokevirtual 43, 3) := by decide +kernel
theorem dL_holds_282 : decode cL_holds 282 = .ok (.ldc 46, 2) := by decide +kernel
theorem dL_holds_284 : decode cL_holds 284 = .ok (.isub, 1) := by decide +kernel
theorem dL_holds_285 : decode cL_holds 285 = .ok (.istore 8, 2) := by decide +kernel
theorem dL_holds_287 : decode cL_holds 287 = .ok (.iload 7, 2) := by decide +kernel
theorem dL_holds_289 : decode cL_holds 289 = .ok (.iload 7, 2) := by decide +kernel
theorem dL_holds_291 : decode cL_holds 291 = .ok (.imul, 1) := by decide +kernel
theorem dL_holds_292 : decode cL_holds 292 = .ok (.iload 8, 2) := by decide +kernel
theorem dL_holds_294 : decode cL_holds 294 = .ok (.iload 8, 2) := by decide +kernel
theorem dL_holds_296 : decode cL_holds 296 = .ok (.imul, 1) := by decide +kernel
theorem dL_holds_297 : decode cL_holds 297 = .ok (.if_icmp .gt 7, 3) := by decide +kernel
theorem dL_holds_300 : decode cL_holds 300 = .ok (.iconst 1, 1) := by decide +kernel
theorem dL_holds_301 : decode cL_holds 301 = .ok (.goto 4, 3) := by decide +kernel
theorem dL_holds_304 : decode cL_holds 304 = .ok (.iconst 0, 1) := by decide +kernel
theorem dL_holds_305 : decode cL_holds 305 = .ok (.istore 4, 2) := by decide +kernel
theorem dL_holds_307 : decode cL_holds 307 = .ok (.iinc 6 1, 3) := by decide +kernel
theorem dL_holds_310 : decode cL_holds 310 = .ok (.goto (-61), 3) := by decide +kernel
theorem dL_holds_313 : decode cL_holds 313 = .ok (.iload 4, 2) := by decide +kernel
theorem dL_holds_315 : decode cL_holds 315 = .ok (.ifCond .eq 65, 3) := by decide +kernel
theorem dL_holds_318 : decode cL_holds 318 = .ok (.iload_n 1, 1) := by decide +kernel
theorem dL_holds_319 : decode cL_holds 319 = .ok (.aload_n 0, 1) := by decide +kernel
theorem dL_holds_320 : decode cL_holds 320 = .ok (.bipush 9, 2) := by decide +kernel
theorem dL_holds_322 : decode cL_holds 322 = .ok (.invokevirtual 9, 3) := by decide +kernel
theorem dL_holds_325 : decode cL_holds 325 = .ok (.if_icmp .ne 55, 3) := by decide +kernel
theorem dL_holds_328 : decode cL_holds 328 = .ok (.iload_n 2, 1) := by decide +kernel
theorem dL_holds_329 : decode cL_holds 329 = .ok (.aload_n 0, 1) := by decide +kernel
theorem dL_holds_330 : decode cL_holds 330 = .ok (.bipush 10, 2) := by decide +kernel
theorem dL_holds_332 : decode cL_holds 332 = .ok (.invokevirtual 9, 3) := by decide +kernel
theorem dL_holds_335 : decode cL_holds 335 = .ok (.if_icmp .ne 45, 3) := by decide +kernel
theorem dL_holds_338 : decode cL_holds 338 = .ok (.iload_n 3, 1) := by decide +kernel
theorem dL_holds_339 : decode cL_holds 339 = .ok (.aload_n 0, 1) := by decide +kernel
theorem dL_holds_340 : decode cL_holds 340 = .ok (.bipush 7, 2) := by decide +kernel
theorem dL_holds_342 : decode cL_holds 342 = .ok (.invokevirtual 9, 3) := by decide +kernel
theorem dL_holds_345 : decode cL_holds 345 = .ok (.if_icmp .ne 35, 3) := by decide +kernel
theorem dL_holds_348 : decode cL_holds 348 = .ok (.iload 5, 2) := by decide +kernel
theorem dL_holds_350 : decode cL_holds 350 = .ok (.ifCond .lt 7, 3) := by decide +kernel
theorem dL_holds_353 : decode cL_holds 353 = .ok (.iconst 1, 1) := by decide +kernel
theorem dL_holds_354 : decode cL_holds 354 = .ok (.goto 4, 3) := by decide +kernel
theorem dL_holds_357 : decode cL_holds 357 = .ok (.iconst 0, 1) := by decide +kernel
theorem dL_holds_358 : decode cL_holds 358 = .ok (.aload_n 0, 1) := by decide +kernel
theorem dL_holds_359 : decode cL_holds 359 = .ok (.iconst 1, 1) := by decide +kernel
theorem dL_holds_360 : decode cL_holds 360 = .ok (.invokevirtual 43, 3) := by decide +kernel
theorem dL_holds_363 : decode cL_holds 363 = .ok (.ldc 22, 2) := by decide +kernel
theorem dL_holds_365 : decode cL_holds 365 = .ok (.if_icmp .eq 7, 3) := by decide +kernel
theorem dL_holds_368 : decode cL_holds 368 = .ok (.iconst 1, 1) := by decide +kernel
theorem dL_holds_369 : decode cL_holds 369 = .ok (.goto 4, 3) := by decide +kernel
theorem dL_holds_372 : decode cL_holds 372 = .ok (.iconst 0, 1) := by decide +kernel
theorem dL_holds_373 : decode cL_holds 373 = .ok (.if_icmp .ne 7, 3) := by decide +kernel
theorem dL_holds_376 : decode cL_holds 376 = .ok (.iconst 1, 1) := by decide +kernel
theorem dL_holds_377 : decode cL_holds 377 = .ok (.goto 4, 3) := by decide +kernel
theorem dL_holds_380 : decode cL_holds 380 = .ok (.iconst 0, 1) := by decide +kernel
theorem dL_holds_381 : decode cL_holds 381 = .ok (.ireturn, 1) := by decide +kernel
set_option maxRecDepth 20000 in
theorem ggL_apart_X9_apartUpTo : GoodIn wsL_apart wsX9_apartUpTo := goodIn_r _ [5, 6, 7, 8, 9, 10, 4, 11, 12, 13, 14, 15, 16, 17, 18, 19, 20, 21, 22, 23, 24, 25, 26, 27, 28, 29, 30, 31, 32, 33, 34, 35, 36, 37, 38, 39, 40, 41, 42, 43, 44, 45, 46, 47, 48, 49, 50, 51, 52, 53, 54, 55, 56, 57, 243, 244, 245, 246, 247, 248, 249, 250, 251, 252, 253, 254, 255, 256, 257, 258, 259, 260, 261, 262, 263, 264, 265, 266] (by decide +kernel) (by decide +kernel)
set_option maxRecDepth 20000 in
theorem gL_apart_X9_apartUpTo : GoodIn wsL_apart (wsV RL 47 RX9 yX9_apartUpTo wsX9_apartUpTo) := goodIn_app (goodIn_of _ (by decide +kernel)) ggL_apart_X9_apartUpTo
set_option maxRecDepth 20000 in
theorem ggL_apart_X9_bestStep : GoodIn wsL_apart wsX9_bestStep := goodIn_r _ [61, 6, 7, 8, 9, 10, 4, 11, 12, 13, 14, 15, 16, 17, 18, 19, 20, 21, 22, 62, 63, 64, 65, 26, 66, 67, 68, 69, 70, 71, 29, 30, 31, 32, 33, 34, 35, 36, 37, 38, 39, 40, 41, 42, 43, 44, 45, 46, 47, 48, 49, 50, 51, 52, 53, 54, 55, 56, 57, 243, 244, 245, 246, 247, 248, 249, 250, 251, 252, 253, 254, 255, 256, 257, 258, 259, 260, 261, 262, 263, 264, 265, 266] (by decide +kernel) (by decide +kernel)
set_option maxRecDepth 20000 in
theorem gL_apart_X9_bestStep : GoodIn wsL_apart (wsV RL 50 RX9 yX9_bestStep wsX9_bestStep) := goodIn_app (goodIn_of _ (by decide +kernel)) ggL_apart_X9_bestStep
set_option maxRecDepth 20000 in
theorem ggL_apart_X9_count : GoodIn wsL_apart wsX9_count := goodIn_r _ [75, 12, 13, 76, 77, 78, 79, 80, 81, 82, 83, 84, 8, 9, 10, 4, 11, 14, 85, 86, 87, 18, 88, 89, 90, 91, 92, 93, 94, 95, 96, 97, 98, 99, 100, 101, 102, 103, 104, 105, 106, 107, 108, 109, 110, 111, 112, 113, 114, 115, 252, 253, 254, 255, 256, 257, 258, 267, 268, 269, 270, 271, 272, 259, 260, 261, 243, 244, 245, 246, 247, 248, 249, 250, 251, 262, 263, 264, 273, 274, 275, 276, 277, 278, 279, 280, 281, 282, 283, 284, 285] (by decide +kernel) (by decide +kernel)
set_option maxRecDepth 20000 in
theorem gL_apart_X9_count : GoodIn wsL_apart (wsV RL 9 RX9 yX9_count wsX9_count) := goodIn_app (goodIn_of _ (by decide +kernel)) ggL_apart_X9_count
set_option maxRecDepth 20000 in
theorem ggL_apart_X9_kind : GoodIn wsL_apart wsX9_kind := goodIn_r _ [119, 6, 120, 121, 8, 9, 10, 4, 11, 12, 13, 14, 15, 16, 17, 18, 19, 20, 21, 22, 62, 265, 266, 252, 253, 254, 255, 256, 257, 258, 259, 260, 261, 243, 244, 245, 246, 247, 248, 249, 250, 251] (by decide +kernel) (by decide +kernel)
set_option maxRecDepth 20000 in
theorem gL_apart_X9_kind : GoodIn wsL_apart (wsV RL 53 RX9 yX9_kind wsX9_kind) := goodIn_app (goodIn_of _ (by decide +kernel)) ggL_apart_X9_kind
set_option maxRecDepth 20000 in
theorem ggL_apart_X9_read : GoodIn wsL_apart wsX9_read := goodIn_r _ [125, 126, 6, 7, 127, 62, 21, 4, 22, 8, 9, 10, 11, 12, 13, 14, 128, 41, 42, 43, 44, 45, 46, 47, 48, 49, 50, 51, 52, 53, 243, 244, 245, 246, 247, 248, 249, 250, 251, 262, 263, 264, 252, 253, 254, 255, 256, 257, 258, 259, 260, 261] (by decide +kernel) (by decide +kernel)
set_option maxRecDepth 20000 in
theorem gL_apart_X9_read : GoodIn wsL_apart (wsV RL 15 RX9 yX9_read wsX9_read) := goodIn_app (goodIn_of _ (by decide +kernel)) ggL_apart_X9_read
set_option maxRecDepth 20000 in
theorem ggL_apart_X9_allowed : GoodIn wsL_apart wsX9_allowed := goodIn_r _ [132, 126, 6, 7, 133, 8, 9, 10, 4, 11, 12, 13, 14, 15, 16, 17, 18, 19, 20, 21, 22, 62, 134, 135, 136, 26, 137, 33, 138, 44, 45, 46, 34, 35, 36, 37, 38, 39, 40, 139, 140, 141, 142, 28, 48, 49, 50, 51, 52, 53, 143, 144, 145, 146, 147, 148, 149, 150, 151, 152, 153, 154, 54, 55, 56, 57, 243, 244, 245, 246, 247, 248, 249, 250, 251, 252, 253, 254, 255, 256, 257, 258, 259, 260, 261, 262, 263, 264, 265, 266] (by decide +kernel) (by decide +kernel)
set_option maxRecDepth 20000 in
theorem gL_apart_X9_allowed : GoodIn wsL_apart (wsV RL 18 RX9 yX9_allowed wsX9_allowed) := goodIn_app (goodIn_of _ (by decide +kernel)) ggL_apart_X9_allowed
set_option maxRecDepth 20000 in
theorem ggL_apart_X9_setScale : GoodIn wsL_apart wsX9_setScale := goodIn_r _ [158, 12, 159, 160, 161, 162, 163, 164, 165, 166, 167, 168, 82, 169, 170, 84, 171, 172, 173, 174, 18, 175, 20, 103, 114, 89, 95, 96, 93, 94, 97, 176, 177, 178, 37, 179, 39, 40, 180, 181, 182, 183, 184, 185, 186, 187, 188, 189, 190, 191, 192, 193, 194, 195, 196, 197, 198, 199, 200, 201, 202, 203, 204, 205, 26, 206, 28, 33, 207, 8, 9, 10, 4, 11, 13, 14, 208, 209, 210, 211, 98, 90, 91, 92, 212, 213, 45, 214, 215, 44, 46, 21, 22, 216, 217, 218, 219, 220, 221, 6, 222, 223, 224, 225, 226, 227, 228, 229, 230, 231, 232, 233, 252, 253, 254, 255, 256, 257, 258, 259, 260, 261, 243, 244, 245, 246, 247, 248, 249, 250, 251, 265, 266, 273, 274, 275, 276, 277, 278, 279, 280, 281, 282, 283, 284, 285, 262, 263, 264] (by decide +kernel) (by decide +kernel)
set_option maxRecDepth 20000 in
theorem gL_apart_X9_setScale : GoodIn wsL_apart (wsV RL 56 RX9 yX9_setScale wsX9_setScale) := goodIn_app (goodIn_of _ (by decide +kernel)) ggL_apart_X9_setScale
set_option maxRecDepth 20000 in
theorem ggL_apart_X9_undo : GoodIn wsL_apart wsX9_undo := goodIn_r _ [237, 12, 238, 239, 240, 162, 241, 228, 242, 165, 229, 21, 4, 22, 252, 253, 254, 255, 256, 257, 258] (by decide +kernel) (by decide +kernel)
set_option maxRecDepth 20000 in
theorem gL_apart_X9_undo : GoodIn wsL_apart (wsV RL 59 RX9 yX9_undo wsX9_undo) := goodIn_app (goodIn_of _ (by decide +kernel)) ggL_apart_X9_undo
theorem dL_apart_0 : decode cL_apart 0 = .ok (.aload_n 0, 1) := by decide +kernel
theorem dL_apart_1 : decode cL_apart 1 = .ok (.iload_n 1, 1) := by decide +kernel
theorem dL_apart_2 : decode cL_apart 2 = .ok (.invokevirtual 47, 3) := by decide +kernel
theorem dL_apart_5 : decode cL_apart 5 = .ok (.istore_n 3, 1) := by decide +kernel
theorem dL_apart_6 : decode cL_apart 6 = .ok (.iload_n 2, 1) := by decide +kernel
theorem dL_apart_7 : decode cL_apart 7 = .ok (.bipush 40, 2) := by decide +kernel
theorem dL_apart_9 : decode cL_apart 9 = .ok (.irem, 1) := by decide +kernel
theorem dL_apart_10 : decode cL_apart 10 = .ok (.istore 4, 2) := by decide +kernel
theorem dL_apart_12 : decode cL_apart 12 = .ok (.aload_n 0, 1) := by decide +kernel
theorem dL_apart_13 : decode cL_apart 13 = .ok (.iload_n 1, 1) := by decide +kernel
theorem dL_apart_14 : decode cL_apart 14 = .ok (.iload 4, 2) := by decide +kernel
theorem dL_apart_16 : decode cL_apart 16 = .ok (.invokevirtual 50, 3) := by decide +kernel
theorem dL_apart_19 : decode cL_apart 19 = .ok (.istore 5, 2) := by decide +kernel
theorem dL_apart_21 : decode cL_apart 21 = .ok (.iload_n 3, 1) := by decide +kernel
theorem dL_apart_22 : decode cL_apart 22 = .ok (.ifCond .lt 38, 3) := by decide +kernel
end
section
theorem dL_apart_25 : decode cL_apart 25 = .ok (.iload 5, 2) := by decide +kernel
theorem dL_apart_27 : decode cL_apart 27 = .ok (.ifCond .lt 29, 3) := by decide +kernel
theorem dL_apart_30 : decode cL_apart 30 = .ok (.aload_n 0, 1) := by decide +kernel
theorem dL_apart_31 : decode cL_apart 31 = .ok (.iconst 0, 1) := by decide +kernel
theorem dL_apart_32 : decode cL_apart 32 = .ok (.invokevirtual 9, 3) := by decide +kernel
theorem dL_apart_35 : decode cL_apart 35 = .ok (.iload 5, 2) := by decide +kernel
theorem dL_apart_37 : decode cL_apart 37 = .ok (.if_icmp .gt 19, 3) := by decide +kernel
theorem dL_apart_40 : decode cL_apart 40 = .ok (.iload_n 3, 1) := by decide +kernel
theorem dL_apart_41 : decode cL_apart 41 = .ok (.iload 4, 2) := by decide +kernel
theorem dL_apart_43 : decode cL_apart 43 = .ok (.if_icmp .ge 13, 3) := by decide +kernel
theorem dL_apart_46 : decode cL_apart 46 = .ok (.aload_n 0, 1) := by decide +kernel
theorem dL_apart_47 : decode cL_apart 47 = .ok (.iconst 0, 1) := by decide +kernel
theorem dL_apart_48 : decode cL_apart 48 = .ok (.invokevirtual 9, 3) := by decide +kernel
theorem dL_apart_51 : decode cL_apart 51 = .ok (.iload 5, 2) := by decide +kernel
theorem dL_apart_53 : decode cL_apart 53 = .ok (.if_icmp .ge 7, 3) := by decide +kernel
theorem dL_apart_56 : decode cL_apart 56 = .ok (.iconst 1, 1) := by decide +kernel
theorem dL_apart_57 : decode cL_apart 57 = .ok (.goto 4, 3) := by decide +kernel
theorem dL_apart_60 : decode cL_apart 60 = .ok (.iconst 0, 1) := by decide +kernel
theorem dL_apart_61 : decode cL_apart 61 = .ok (.istore 6, 2) := by decide +kernel
theorem dL_apart_63 : decode cL_apart 63 = .ok (.iconst 0, 1) := by decide +kernel
theorem dL_apart_64 : decode cL_apart 64 = .ok (.istore 7, 2) := by decide +kernel
theorem dL_apart_66 : decode cL_apart 66 = .ok (.iload 7, 2) := by decide +kernel
theorem dL_apart_68 : decode cL_apart 68 = .ok (.bipush 6, 2) := by decide +kernel
theorem dL_apart_70 : decode cL_apart 70 = .ok (.if_icmp .ge 96, 3) := by decide +kernel
theorem dL_apart_73 : decode cL_apart 73 = .ok (.iload 6, 2) := by decide +kernel
theorem dL_apart_75 : decode cL_apart 75 = .ok (.ifCond .eq 91, 3) := by decide +kernel
theorem dL_apart_78 : decode cL_apart 78 = .ok (.iload_n 3, 1) := by decide +kernel
theorem dL_apart_79 : decode cL_apart 79 = .ok (.ifCond .ne 7, 3) := by decide +kernel
theorem dL_apart_82 : decode cL_apart 82 = .ok (.iconst 0, 1) := by decide +kernel
theorem dL_apart_83 : decode cL_apart 83 = .ok (.goto 12, 3) := by decide +kernel
theorem dL_apart_86 : decode cL_apart 86 = .ok (.iload_n 2, 1) := by decide +kernel
theorem dL_apart_87 : decode cL_apart 87 = .ok (.bipush 64, 2) := by decide +kernel
theorem dL_apart_89 : decode cL_apart 89 = .ok (.idiv, 1) := by decide +kernel
theorem dL_apart_90 : decode cL_apart 90 = .ok (.iload 7, 2) := by decide +kernel
theorem dL_apart_92 : decode cL_apart 92 = .ok (.iadd, 1) := by decide +kernel
theorem dL_apart_93 : decode cL_apart 93 = .ok (.iload_n 3, 1) := by decide +kernel
theorem dL_apart_94 : decode cL_apart 94 = .ok (.irem, 1) := by decide +kernel
theorem dL_apart_95 : decode cL_apart 95 = .ok (.istore 8, 2) := by decide +kernel
theorem dL_apart_97 : decode cL_apart 97 = .ok (.aload_n 0, 1) := by decide +kernel
theorem dL_apart_98 : decode cL_apart 98 = .ok (.iload 8, 2) := by decide +kernel
theorem dL_apart_100 : decode cL_apart 100 = .ok (.aload_n 0, 1) := by decide +kernel
theorem dL_apart_101 : decode cL_apart 101 = .ok (.iload_n 1, 1) := by decide +kernel
theorem dL_apart_102 : decode cL_apart 102 = .ok (.iconst 0, 1) := by decide +kernel
theorem dL_apart_103 : decode cL_apart 103 = .ok (.invokevirtual 53, 3) := by decide +kernel
theorem dL_apart_106 : decode cL_apart 106 = .ok (.imul, 1) := by decide +kernel
theorem dL_apart_107 : decode cL_apart 107 = .ok (.invokevirtual 15, 3) := by decide +kernel
theorem dL_apart_110 : decode cL_apart 110 = .ok (.istore 9, 2) := by decide +kernel
theorem dL_apart_112 : decode cL_apart 112 = .ok (.iload_n 3, 1) := by decide +kernel
theorem dL_apart_113 : decode cL_apart 113 = .ok (.ifCond .eq 40, 3) := by decide +kernel
theorem dL_apart_116 : decode cL_apart 116 = .ok (.aload_n 0, 1) := by decide +kernel
theorem dL_apart_117 : decode cL_apart 117 = .ok (.iload 9, 2) := by decide +kernel
theorem dL_apart_119 : decode cL_apart 119 = .ok (.iload_n 1, 1) := by decide +kernel
theorem dL_apart_120 : decode cL_apart 120 = .ok (.iconst 0, 1) := by decide +kernel
theorem dL_apart_121 : decode cL_apart 121 = .ok (.invokevirtual 18, 3) := by decide +kernel
theorem dL_apart_124 : decode cL_apart 124 = .ok (.iload 8, 2) := by decide +kernel
theorem dL_apart_126 : decode cL_apart 126 = .ok (.if_icmp .lt 15, 3) := by decide +kernel
theorem dL_apart_129 : decode cL_apart 129 = .ok (.aload_n 0, 1) := by decide +kernel
theorem dL_apart_130 : decode cL_apart 130 = .ok (.iload 9, 2) := by decide +kernel
theorem dL_apart_132 : decode cL_apart 132 = .ok (.iload_n 1, 1) := by decide +kernel
theorem dL_apart_133 : decode cL_apart 133 = .ok (.iconst 0, 1) := by decide +kernel
theorem dL_apart_134 : decode cL_apart 134 = .ok (.invokevirtual 18, 3) := by decide +kernel
theorem dL_apart_137 : decode cL_apart 137 = .ok (.iload_n 3, 1) := by decide +kernel
theorem dL_apart_138 : decode cL_apart 138 = .ok (.if_icmp .le 15, 3) := by decide +kernel
theorem dL_apart_141 : decode cL_apart 141 = .ok (.aload_n 0, 1) := by decide +kernel
theorem dL_apart_142 : decode cL_apart 142 = .ok (.iload 9, 2) := by decide +kernel
theorem dL_apart_144 : decode cL_apart 144 = .ok (.iload_n 1, 1) := by decide +kernel
theorem dL_apart_145 : decode cL_apart 145 = .ok (.iconst 2, 1) := by decide +kernel
theorem dL_apart_146 : decode cL_apart 146 = .ok (.invokevirtual 18, 3) := by decide +kernel
theorem dL_apart_149 : decode cL_apart 149 = .ok (.iconst 1, 1) := by decide +kernel
theorem dL_apart_150 : decode cL_apart 150 = .ok (.if_icmp .ne 7, 3) := by decide +kernel
theorem dL_apart_153 : decode cL_apart 153 = .ok (.iconst 1, 1) := by decide +kernel
theorem dL_apart_154 : decode cL_apart 154 = .ok (.goto 4, 3) := by decide +kernel
theorem dL_apart_157 : decode cL_apart 157 = .ok (.iconst 0, 1) := by decide +kernel
theorem dL_apart_158 : decode cL_apart 158 = .ok (.istore 6, 2) := by decide +kernel
theorem dL_apart_160 : decode cL_apart 160 = .ok (.iinc 7 1, 3) := by decide +kernel
theorem dL_apart_163 : decode cL_apart 163 = .ok (.goto (-97), 3) := by decide +kernel
theorem dL_apart_166 : decode cL_apart 166 = .ok (.aload_n 0, 1) := by decide +kernel
theorem dL_apart_167 : decode cL_apart 167 = .ok (.iconst 1, 1) := by decide +kernel
theorem dL_apart_168 : decode cL_apart 168 = .ok (.invokevirtual 9, 3) := by decide +kernel
theorem dL_apart_171 : decode cL_apart 171 = .ok (.istore 7, 2) := by decide +kernel
theorem dL_apart_173 : decode cL_apart 173 = .ok (.iload 5, 2) := by decide +kernel
theorem dL_apart_175 : decode cL_apart 175 = .ok (.ifCond .le 57, 3) := by decide +kernel
theorem dL_apart_178 : decode cL_apart 178 = .ok (.iload 6, 2) := by decide +kernel
theorem dL_apart_180 : decode cL_apart 180 = .ok (.ifCond .eq 49, 3) := by decide +kernel
theorem dL_apart_183 : decode cL_apart 183 = .ok (.aload_n 0, 1) := by decide +kernel
theorem dL_apart_184 : decode cL_apart 184 = .ok (.iload 5, 2) := by decide +kernel
theorem dL_apart_186 : decode cL_apart 186 = .ok (.iload 7, 2) := by decide +kernel
theorem dL_apart_188 : decode cL_apart 188 = .ok (.invokevirtual 56, 3) := by decide +kernel
theorem dL_apart_191 : decode cL_apart 191 = .ok (.aload_n 0, 1) := by decide +kernel
theorem dL_apart_192 : decode cL_apart 192 = .ok (.iconst 2, 1) := by decide +kernel
theorem dL_apart_193 : decode cL_apart 193 = .ok (.invokevirtual 9, 3) := by decide +kernel
theorem dL_apart_196 : decode cL_apart 196 = .ok (.if_icmp .ne 33, 3) := by decide +kernel
theorem dL_apart_199 : decode cL_apart 199 = .ok (.aload_n 0, 1) := by decide +kernel
theorem dL_apart_200 : decode cL_apart 200 = .ok (.iload_n 1, 1) := by decide +kernel
theorem dL_apart_201 : decode cL_apart 201 = .ok (.invokevirtual 47, 3) := by decide +kernel
theorem dL_apart_204 : decode cL_apart 204 = .ok (.iload 4, 2) := by decide +kernel
theorem dL_apart_206 : decode cL_apart 206 = .ok (.if_icmp .lt 23, 3) := by decide +kernel
theorem dL_apart_209 : decode cL_apart 209 = .ok (.aload_n 0, 1) := by decide +kernel
theorem dL_apart_210 : decode cL_apart 210 = .ok (.invokevirtual 59, 3) := by decide +kernel
theorem dL_apart_213 : decode cL_apart 213 = .ok (.ifCond .lt 16, 3) := by decide +kernel
theorem dL_apart_216 : decode cL_apart 216 = .ok (.aload_n 0, 1) := by decide +kernel
theorem dL_apart_217 : decode cL_apart 217 = .ok (.iload_n 1, 1) := by decide +kernel
theorem dL_apart_218 : decode cL_apart 218 = .ok (.invokevirtual 47, 3) := by decide +kernel
theorem dL_apart_221 : decode cL_apart 221 = .ok (.iload_n 3, 1) := by decide +kernel
theorem dL_apart_222 : decode cL_apart 222 = .ok (.if_icmp .ne 7, 3) := by decide +kernel
theorem dL_apart_225 : decode cL_apart 225 = .ok (.iconst 1, 1) := by decide +kernel
theorem dL_apart_226 : decode cL_apart 226 = .ok (.goto 4, 3) := by decide +kernel
theorem dL_apart_229 : decode cL_apart 229 = .ok (.iconst 0, 1) := by decide +kernel
theorem dL_apart_230 : decode cL_apart 230 = .ok (.istore 6, 2) := by decide +kernel
theorem dL_apart_232 : decode cL_apart 232 = .ok (.iload 6, 2) := by decide +kernel
end
section
theorem dL_apart_234 : decode cL_apart 234 = .ok (.ireturn, 1) := by decide +kernel
set_option maxRecDepth 20000 in
theorem ggL_weighs_X9_kind : GoodIn wsL_weighs wsX9_kind := goodIn_r _ [5, 6, 7, 8, 9, 10, 11, 4, 12, 13, 14, 15, 16, 17, 18, 19, 20, 21, 22, 23, 24, 246, 247, 248, 249, 250, 251, 252, 253, 254, 255, 256, 257, 258, 259, 260, 261, 262, 263, 264, 265, 266] (by decide +kernel) (by decide +kernel)
set_option maxRecDepth 20000 in
theorem gL_weighs_X9_kind : GoodIn wsL_weighs (wsV RL 53 RX9 yX9_kind wsX9_kind) := goodIn_app (goodIn_of _ (by decide +kernel)) ggL_weighs_X9_kind
set_option maxRecDepth 20000 in
theorem ggL_weighs_X9_customer : GoodIn wsL_weighs wsX9_customer := goodIn_r _ [28, 6, 9, 10, 11, 4, 12, 13, 14, 15, 29, 30, 31, 19, 32, 33, 34, 22, 23, 35, 36, 37, 38, 39, 40, 41, 42, 43, 44, 45, 46, 47, 248, 249, 250, 251, 252, 253, 254, 255, 256, 257, 258, 259, 260, 261, 262, 263, 264, 265, 266, 267, 268, 269, 270, 271, 272] (by decide +kernel) (by decide +kernel)
set_option maxRecDepth 20000 in
theorem gL_weighs_X9_customer : GoodIn wsL_weighs (wsV RL 26 RX9 yX9_customer wsX9_customer) := goodIn_app (goodIn_of _ (by decide +kernel)) ggL_weighs_X9_customer
set_option maxRecDepth 20000 in
theorem ggL_weighs_X9_count : GoodIn wsL_weighs wsX9_count := goodIn_r _ [51, 13, 14, 52, 53, 54, 55, 56, 57, 58, 59, 60, 9, 10, 11, 4, 12, 15, 61, 62, 63, 19, 64, 65, 66, 67, 68, 69, 70, 33, 71, 72, 73, 74, 75, 76, 77, 34, 78, 79, 80, 81, 82, 83, 84, 85, 86, 87, 88, 89, 248, 249, 250, 251, 252, 253, 254, 273, 274, 275, 276, 277, 278, 255, 256, 257, 258, 259, 260, 261, 262, 263, 264, 265, 266, 279, 280, 281, 267, 268, 269, 270, 271, 272, 282, 283, 284, 285, 286, 287, 288] (by decide +kernel) (by decide +kernel)
set_option maxRecDepth 20000 in
theorem gL_weighs_X9_count : GoodIn wsL_weighs (wsV RL 9 RX9 yX9_count wsX9_count) := goodIn_app (goodIn_of _ (by decide +kernel)) ggL_weighs_X9_count
set_option maxRecDepth 20000 in
theorem ggL_weighs_X9_weigh : GoodIn wsL_weighs wsX9_weigh := goodIn_r _ [93, 13, 94, 95, 96, 97, 98, 99, 100, 101, 102, 103, 58, 104, 105, 60, 106, 107, 108, 109, 19, 110, 21, 34, 88, 65, 33, 71, 69, 70, 72, 111, 112, 113, 114, 115, 116, 117, 118, 119, 120, 38, 121, 41, 42, 44, 45, 46, 47, 122, 123, 124, 125, 126, 127, 128, 129, 130, 131, 132, 133, 134, 135, 136, 137, 138, 139, 140, 141, 9, 10, 11, 4, 12, 14, 15, 142, 143, 144, 145, 73, 146, 66, 147, 68, 148, 30, 31, 32, 22, 23, 149, 17, 18, 20, 150, 151, 152, 153, 154, 155, 156, 157, 158, 159, 160, 161, 162, 163, 164, 165, 166, 167, 168, 169, 170, 171, 172, 173, 174, 175, 176, 177, 178, 179, 180, 181, 182, 183, 184, 185, 186, 187, 188, 189, 190, 191, 192, 193, 194, 195, 196, 197, 198, 199, 200, 201, 202, 203, 204, 205, 206, 207, 208, 209, 210, 211, 212, 213, 214, 215, 216, 217, 218, 219, 6, 220, 221, 222, 223, 224, 225, 226, 227, 228, 229, 230, 231, 248, 249, 250, 251, 252, 253, 254, 255, 256, 257, 258, 259, 260, 261, 262, 263, 264, 265, 266, 246, 247, 267, 268, 269, 270, 271, 272, 282, 283, 284, 285, 286, 287, 288, 279, 280, 281] (by decide +kernel) (by decide +kernel)
set_option maxRecDepth 20000 in
theorem gL_weighs_X9_weigh : GoodIn wsL_weighs (wsV RL 62 RX9 yX9_weigh wsX9_weigh) := goodIn_app (goodIn_of _ (by decide +kernel)) ggL_weighs_X9_weigh
set_option maxRecDepth 20000 in
theorem ggL_weighs_X9_allowed : GoodIn wsL_weighs wsX9_allowed := goodIn_r _ [235, 236, 6, 237, 238, 9, 10, 11, 4, 12, 13, 14, 15, 16, 17, 18, 19, 20, 21, 22, 23, 24, 239, 174, 175, 137, 176, 140, 172, 153, 154, 155, 177, 178, 179, 114, 180, 116, 117, 181, 182, 183, 184, 139, 157, 158, 159, 160, 161, 162, 240, 186, 187, 188, 189, 190, 191, 192, 193, 194, 195, 196, 197, 198, 199, 200, 258, 259, 260, 261, 262, 263, 264, 265, 266, 248, 249, 250, 251, 252, 253, 254, 255, 256, 257, 279, 280, 281, 246, 247] (by decide +kernel) (by decide +kernel)
set_option maxRecDepth 20000 in
theorem gL_weighs_X9_allowed : GoodIn wsL_weighs (wsV RL 18 RX9 yX9_allowed wsX9_allowed) := goodIn_app (goodIn_of _ (by decide +kernel)) ggL_weighs_X9_allowed
set_option maxRecDepth 20000 in
theorem ggL_weighs_X9_guess : GoodIn wsL_weighs wsX9_guess := goodIn_r _ [244, 236, 6, 237, 9, 10, 11, 4, 12, 13, 14, 15, 16, 17, 18, 19, 20, 21, 22, 23, 24, 245, 164, 165, 137, 166, 167, 168, 169, 170, 154, 171, 172, 153, 155, 173, 174, 175, 176, 140, 177, 178, 179, 114, 180, 116, 117, 181, 182, 183, 184, 139, 157, 158, 159, 160, 161, 162, 185, 186, 187, 188, 189, 190, 191, 192, 193, 194, 195, 196, 197, 198, 199, 200, 201, 202, 203, 204, 258, 259, 260, 261, 262, 263, 264, 265, 266, 248, 249, 250, 251, 252, 253, 254, 255, 256, 257, 246, 247, 279, 280, 281] (by decide +kernel) (by decide +kernel)
set_option maxRecDepth 20000 in
theorem gL_weighs_X9_guess : GoodIn wsL_weighs (wsV RL 23 RX9 yX9_guess wsX9_guess) := goodIn_app (goodIn_of _ (by decide +kernel)) ggL_weighs_X9_guess
theorem dL_weighs_0 : decode cL_weighs 0 = .ok (.iload_n 2, 1) := by decide +kernel
theorem dL_weighs_1 : decode cL_weighs 1 = .ok (.iconst 4, 1) := by decide +kernel
theorem dL_weighs_2 : decode cL_weighs 2 = .ok (.irem, 1) := by decide +kernel
theorem dL_weighs_3 : decode cL_weighs 3 = .ok (.istore_n 3, 1) := by decide +kernel
theorem dL_weighs_4 : decode cL_weighs 4 = .ok (.iconst 1, 1) := by decide +kernel
theorem dL_weighs_5 : decode cL_weighs 5 = .ok (.iload_n 2, 1) := by decide +kernel
theorem dL_weighs_6 : decode cL_weighs 6 = .ok (.iconst 4, 1) := by decide +kernel
theorem dL_weighs_7 : decode cL_weighs 7 = .ok (.idiv, 1) := by decide +kernel
theorem dL_weighs_8 : decode cL_weighs 8 = .ok (.bipush 80, 2) := by decide +kernel
theorem dL_weighs_10 : decode cL_weighs 10 = .ok (.irem, 1) := by decide +kernel
theorem dL_weighs_11 : decode cL_weighs 11 = .ok (.iadd, 1) := by decide +kernel
theorem dL_weighs_12 : decode cL_weighs 12 = .ok (.istore 4, 2) := by decide +kernel
theorem dL_weighs_14 : decode cL_weighs 14 = .ok (.iload 4, 2) := by decide +kernel
theorem dL_weighs_16 : decode cL_weighs 16 = .ok (.aload_n 0, 1) := by decide +kernel
theorem dL_weighs_17 : decode cL_weighs 17 = .ok (.iload_n 3, 1) := by decide +kernel
theorem dL_weighs_18 : decode cL_weighs 18 = .ok (.iconst 1, 1) := by decide +kernel
theorem dL_weighs_19 : decode cL_weighs 19 = .ok (.invokevirtual 53, 3) := by decide +kernel
theorem dL_weighs_22 : decode cL_weighs 22 = .ok (.imul, 1) := by decide +kernel
theorem dL_weighs_23 : decode cL_weighs 23 = .ok (.istore 5, 2) := by decide +kernel
theorem dL_weighs_25 : decode cL_weighs 25 = .ok (.aload_n 0, 1) := by decide +kernel
theorem dL_weighs_26 : decode cL_weighs 26 = .ok (.iload_n 1, 1) := by decide +kernel
theorem dL_weighs_27 : decode cL_weighs 27 = .ok (.iconst 0, 1) := by decide +kernel
theorem dL_weighs_28 : decode cL_weighs 28 = .ok (.invokevirtual 26, 3) := by decide +kernel
theorem dL_weighs_31 : decode cL_weighs 31 = .ok (.istore 6, 2) := by decide +kernel
theorem dL_weighs_33 : decode cL_weighs 33 = .ok (.aload_n 0, 1) := by decide +kernel
theorem dL_weighs_34 : decode cL_weighs 34 = .ok (.bipush 8, 2) := by decide +kernel
theorem dL_weighs_36 : decode cL_weighs 36 = .ok (.invokevirtual 9, 3) := by decide +kernel
theorem dL_weighs_39 : decode cL_weighs 39 = .ok (.istore 7, 2) := by decide +kernel
theorem dL_weighs_41 : decode cL_weighs 41 = .ok (.aload_n 0, 1) := by decide +kernel
theorem dL_weighs_42 : decode cL_weighs 42 = .ok (.iload_n 1, 1) := by decide +kernel
theorem dL_weighs_43 : decode cL_weighs 43 = .ok (.iload_n 3, 1) := by decide +kernel
theorem dL_weighs_44 : decode cL_weighs 44 = .ok (.iload 4, 2) := by decide +kernel
theorem dL_weighs_46 : decode cL_weighs 46 = .ok (.iload_n 2, 1) := by decide +kernel
theorem dL_weighs_47 : decode cL_weighs 47 = .ok (.sipush 512, 3) := by decide +kernel
theorem dL_weighs_50 : decode cL_weighs 50 = .ok (.idiv, 1) := by decide +kernel
theorem dL_weighs_51 : decode cL_weighs 51 = .ok (.iconst 2, 1) := by decide +kernel
theorem dL_weighs_52 : decode cL_weighs 52 = .ok (.iload 5, 2) := by decide +kernel
theorem dL_weighs_54 : decode cL_weighs 54 = .ok (.imul, 1) := by decide +kernel
theorem dL_weighs_55 : decode cL_weighs 55 = .ok (.iconst 1, 1) := by decide +kernel
theorem dL_weighs_56 : decode cL_weighs 56 = .ok (.iadd, 1) := by decide +kernel
theorem dL_weighs_57 : decode cL_weighs 57 = .ok (.irem, 1) := by decide +kernel
theorem dL_weighs_58 : decode cL_weighs 58 = .ok (.iload 5, 2) := by decide +kernel
theorem dL_weighs_60 : decode cL_weighs 60 = .ok (.isub, 1) := by decide +kernel
theorem dL_weighs_61 : decode cL_weighs 61 = .ok (.invokevirtual 62, 3) := by decide +kernel
theorem dL_weighs_64 : decode cL_weighs 64 = .ok (.istore 8, 2) := by decide +kernel
theorem dL_weighs_66 : decode cL_weighs 66 = .ok (.aload_n 0, 1) := by decide +kernel
theorem dL_weighs_67 : decode cL_weighs 67 = .ok (.iload_n 1, 1) := by decide +kernel
theorem dL_weighs_68 : decode cL_weighs 68 = .ok (.iconst 3, 1) := by decide +kernel
theorem dL_weighs_69 : decode cL_weighs 69 = .ok (.invokevirtual 26, 3) := by decide +kernel
theorem dL_weighs_72 : decode cL_weighs 72 = .ok (.istore 9, 2) := by decide +kernel
theorem dL_weighs_74 : decode cL_weighs 74 = .ok (.iload 8, 2) := by decide +kernel
theorem dL_weighs_76 : decode cL_weighs 76 = .ok (.ifCond .lt 103, 3) := by decide +kernel
theorem dL_weighs_79 : decode cL_weighs 79 = .ok (.aload_n 0, 1) := by decide +kernel
theorem dL_weighs_80 : decode cL_weighs 80 = .ok (.iload_n 1, 1) := by decide +kernel
theorem dL_weighs_81 : decode cL_weighs 81 = .ok (.iconst 0, 1) := by decide +kernel
theorem dL_weighs_82 : decode cL_weighs 82 = .ok (.invokevirtual 26, 3) := by decide +kernel
theorem dL_weighs_85 : decode cL_weighs 85 = .ok (.iload 6, 2) := by decide +kernel
theorem dL_weighs_87 : decode cL_weighs 87 = .ok (.iload 8, 2) := by decide +kernel
theorem dL_weighs_89 : decode cL_weighs 89 = .ok (.iadd, 1) := by decide +kernel
theorem dL_weighs_90 : decode cL_weighs 90 = .ok (.if_icmp .ne 89, 3) := by decide +kernel
theorem dL_weighs_93 : decode cL_weighs 93 = .ok (.aload_n 0, 1) := by decide +kernel
theorem dL_weighs_94 : decode cL_weighs 94 = .ok (.bipush 8, 2) := by decide +kernel
theorem dL_weighs_96 : decode cL_weighs 96 = .ok (.invokevirtual 9, 3) := by decide +kernel
theorem dL_weighs_99 : decode cL_weighs 99 = .ok (.iload 7, 2) := by decide +kernel
theorem dL_weighs_101 : decode cL_weighs 101 = .ok (.iload 8, 2) := by decide +kernel
theorem dL_weighs_103 : decode cL_weighs 103 = .ok (.iadd, 1) := by decide +kernel
theorem dL_weighs_104 : decode cL_weighs 104 = .ok (.iload 4, 2) := by decide +kernel
theorem dL_weighs_106 : decode cL_weighs 106 = .ok (.isub, 1) := by decide +kernel
theorem dL_weighs_107 : decode cL_weighs 107 = .ok (.if_icmp .ne 72, 3) := by decide +kernel
theorem dL_weighs_110 : decode cL_weighs 110 = .ok (.aload_n 0, 1) := by decide +kernel
theorem dL_weighs_111 : decode cL_weighs 111 = .ok (.iload_n 1, 1) := by decide +kernel
theorem dL_weighs_112 : decode cL_weighs 112 = .ok (.iconst 4, 1) := by decide +kernel
theorem dL_weighs_113 : decode cL_weighs 113 = .ok (.invokevirtual 26, 3) := by decide +kernel
theorem dL_weighs_116 : decode cL_weighs 116 = .ok (.iload 8, 2) := by decide +kernel
theorem dL_weighs_118 : decode cL_weighs 118 = .ok (.if_icmp .ne 61, 3) := by decide +kernel
theorem dL_weighs_121 : decode cL_weighs 121 = .ok (.aload_n 0, 1) := by decide +kernel
theorem dL_weighs_122 : decode cL_weighs 122 = .ok (.iload_n 1, 1) := by decide +kernel
theorem dL_weighs_123 : decode cL_weighs 123 = .ok (.iconst 2, 1) := by decide +kernel
theorem dL_weighs_124 : decode cL_weighs 124 = .ok (.invokevirtual 26, 3) := by decide +kernel
theorem dL_weighs_127 : decode cL_weighs 127 = .ok (.iload 4, 2) := by decide +kernel
theorem dL_weighs_129 : decode cL_weighs 129 = .ok (.if_icmp .ne 50, 3) := by decide +kernel
theorem dL_weighs_132 : decode cL_weighs 132 = .ok (.aload_n 0, 1) := by decide +kernel
theorem dL_weighs_133 : decode cL_weighs 133 = .ok (.iload 9, 2) := by decide +kernel
theorem dL_weighs_135 : decode cL_weighs 135 = .ok (.iload_n 3, 1) := by decide +kernel
theorem dL_weighs_136 : decode cL_weighs 136 = .ok (.iconst 0, 1) := by decide +kernel
end
section
theorem dL_weighs_137 : decode cL_weighs 137 = .ok (.invokevirtual 18, 3) := by decide +kernel
theorem dL_weighs_140 : decode cL_weighs 140 = .ok (.iload 4, 2) := by decide +kernel
theorem dL_weighs_142 : decode cL_weighs 142 = .ok (.if_icmp .gt 37, 3) := by decide +kernel
theorem dL_weighs_145 : decode cL_weighs 145 = .ok (.iload 4, 2) := by decide +kernel
theorem dL_weighs_147 : decode cL_weighs 147 = .ok (.aload_n 0, 1) := by decide +kernel
theorem dL_weighs_148 : decode cL_weighs 148 = .ok (.iload 9, 2) := by decide +kernel
theorem dL_weighs_150 : decode cL_weighs 150 = .ok (.iload_n 3, 1) := by decide +kernel
theorem dL_weighs_151 : decode cL_weighs 151 = .ok (.iconst 1, 1) := by decide +kernel
theorem dL_weighs_152 : decode cL_weighs 152 = .ok (.invokevirtual 18, 3) := by decide +kernel
theorem dL_weighs_155 : decode cL_weighs 155 = .ok (.if_icmp .gt 24, 3) := by decide +kernel
theorem dL_weighs_158 : decode cL_weighs 158 = .ok (.aload_n 0, 1) := by decide +kernel
theorem dL_weighs_159 : decode cL_weighs 159 = .ok (.iload 9, 2) := by decide +kernel
theorem dL_weighs_161 : decode cL_weighs 161 = .ok (.iload_n 3, 1) := by decide +kernel
theorem dL_weighs_162 : decode cL_weighs 162 = .ok (.aload_n 0, 1) := by decide +kernel
theorem dL_weighs_163 : decode cL_weighs 163 = .ok (.iconst 3, 1) := by decide +kernel
theorem dL_weighs_164 : decode cL_weighs 164 = .ok (.invokevirtual 9, 3) := by decide +kernel
theorem dL_weighs_167 : decode cL_weighs 167 = .ok (.invokevirtual 23, 3) := by decide +kernel
theorem dL_weighs_170 : decode cL_weighs 170 = .ok (.iload 8, 2) := by decide +kernel
theorem dL_weighs_172 : decode cL_weighs 172 = .ok (.if_icmp .ne 7, 3) := by decide +kernel
theorem dL_weighs_175 : decode cL_weighs 175 = .ok (.iconst 1, 1) := by decide +kernel
theorem dL_weighs_176 : decode cL_weighs 176 = .ok (.goto 4, 3) := by decide +kernel
theorem dL_weighs_179 : decode cL_weighs 179 = .ok (.iconst 0, 1) := by decide +kernel
theorem dL_weighs_180 : decode cL_weighs 180 = .ok (.ireturn, 1) := by decide +kernel
set_option maxRecDepth 20000 in
theorem ggL_claims_X9_count : GoodIn wsL_claims wsX9_count := goodIn_r _ [7, 8, 9, 10, 11, 12, 13, 14, 15, 16, 17, 18, 19, 20, 21, 6, 22, 23, 24, 25, 26, 27, 28, 29, 30, 31, 32, 33, 34, 35, 36, 37, 38, 39, 40, 41, 42, 43, 44, 45, 46, 47, 48, 49, 50, 51, 52, 53, 54, 55, 219, 220, 221, 222, 223, 224, 225, 226, 227, 228, 229, 230, 231, 232, 233, 234, 235, 236, 237, 238, 239, 240, 241, 242, 243, 244, 245, 246, 247, 248, 249, 250, 251, 252, 253, 254, 255, 256, 257, 258, 259] (by decide +kernel) (by decide +kernel)
set_option maxRecDepth 20000 in
theorem gL_claims_X9_count : GoodIn wsL_claims (wsV RL 9 RX9 yX9_count wsX9_count) := goodIn_app (goodIn_of _ (by decide +kernel)) ggL_claims_X9_count
set_option maxRecDepth 20000 in
theorem ggL_claims_X9_customer : GoodIn wsL_claims wsX9_customer := goodIn_r _ [59, 60, 19, 20, 21, 6, 22, 8, 9, 23, 61, 62, 63, 27, 64, 35, 43, 65, 66, 67, 68, 69, 70, 71, 72, 73, 74, 75, 76, 77, 78, 79, 219, 220, 221, 222, 223, 224, 225, 232, 233, 234, 235, 236, 237, 238, 239, 240, 241, 242, 243, 247, 248, 249, 250, 251, 252] (by decide +kernel) (by decide +kernel)
set_option maxRecDepth 20000 in
theorem gL_claims_X9_customer : GoodIn wsL_claims (wsV RL 26 RX9 yX9_customer wsX9_customer) := goodIn_app (goodIn_of _ (by decide +kernel)) ggL_claims_X9_customer
set_option maxRecDepth 20000 in
theorem ggL_claims_X9_claim : GoodIn wsL_claims wsX9_claim := goodIn_r _ [83, 8, 84, 85, 86, 87, 88, 89, 90, 91, 92, 93, 16, 94, 95, 18, 96, 97, 98, 99, 27, 100, 101, 43, 54, 29, 35, 36, 33, 34, 37, 102, 103, 104, 105, 106, 107, 108, 109, 110, 111, 70, 112, 73, 74, 76, 77, 78, 79, 113, 114, 115, 116, 117, 118, 119, 120, 121, 122, 123, 124, 125, 126, 127, 128, 129, 130, 131, 132, 19, 20, 21, 6, 22, 9, 23, 133, 134, 135, 136, 38, 44, 137, 138, 139, 140, 141, 142, 62, 63, 64, 65, 66, 143, 144, 145, 146, 147, 148, 149, 150, 151, 152, 153, 154, 155, 156, 157, 158, 159, 160, 161, 162, 163, 164, 165, 166, 167, 168, 169, 170, 171, 172, 173, 174, 175, 176, 177, 178, 179, 180, 181, 182, 183, 184, 185, 186, 187, 188, 189, 190, 191, 192, 193, 194, 195, 196, 197, 198, 199, 200, 201, 202, 203, 204, 205, 206, 60, 207, 208, 209, 210, 211, 212, 213, 214, 215, 216, 217, 218, 219, 220, 221, 222, 223, 224, 225, 232, 233, 234, 235, 236, 237, 238, 239, 240, 241, 242, 243, 260, 261, 247, 248, 249, 250, 251, 252, 253, 254, 255, 256, 257, 258, 259, 244, 245, 246] (by decide +kernel) (by decide +kernel)
set_option maxRecDepth 20000 in
theorem gL_claims_X9_claim : GoodIn wsL_claims (wsV RL 66 RX9 yX9_claim wsX9_claim) := goodIn_app (goodIn_of _ (by decide +kernel)) ggL_claims_X9_claim
theorem dL_claims_0 : decode cL_claims 0 = .ok (.aload_n 0, 1) := by decide +kernel
theorem dL_claims_1 : decode cL_claims 1 = .ok (.bipush 8, 2) := by decide +kernel
theorem dL_claims_3 : decode cL_claims 3 = .ok (.invokevirtual 9, 3) := by decide +kernel
theorem dL_claims_6 : decode cL_claims 6 = .ok (.istore_n 3, 1) := by decide +kernel
theorem dL_claims_7 : decode cL_claims 7 = .ok (.aload_n 0, 1) := by decide +kernel
theorem dL_claims_8 : decode cL_claims 8 = .ok (.iload_n 1, 1) := by decide +kernel
theorem dL_claims_9 : decode cL_claims 9 = .ok (.iconst 2, 1) := by decide +kernel
theorem dL_claims_10 : decode cL_claims 10 = .ok (.invokevirtual 26, 3) := by decide +kernel
theorem dL_claims_13 : decode cL_claims 13 = .ok (.istore 4, 2) := by decide +kernel
theorem dL_claims_15 : decode cL_claims 15 = .ok (.aload_n 0, 1) := by decide +kernel
theorem dL_claims_16 : decode cL_claims 16 = .ok (.iload_n 1, 1) := by decide +kernel
theorem dL_claims_17 : decode cL_claims 17 = .ok (.iconst 4, 1) := by decide +kernel
theorem dL_claims_18 : decode cL_claims 18 = .ok (.invokevirtual 26, 3) := by decide +kernel
theorem dL_claims_21 : decode cL_claims 21 = .ok (.istore 5, 2) := by decide +kernel
theorem dL_claims_23 : decode cL_claims 23 = .ok (.iload 4, 2) := by decide +kernel
theorem dL_claims_25 : decode cL_claims 25 = .ok (.ifCond .ge 10, 3) := by decide +kernel
theorem dL_claims_28 : decode cL_claims 28 = .ok (.iload_n 2, 1) := by decide +kernel
theorem dL_claims_29 : decode cL_claims 29 = .ok (.bipush 9, 2) := by decide +kernel
theorem dL_claims_31 : decode cL_claims 31 = .ok (.irem, 1) := by decide +kernel
theorem dL_claims_32 : decode cL_claims 32 = .ok (.goto 23, 3) := by decide +kernel
theorem dL_claims_35 : decode cL_claims 35 = .ok (.iload_n 2, 1) := by decide +kernel
theorem dL_claims_36 : decode cL_claims 36 = .ok (.iconst 2, 1) := by decide +kernel
theorem dL_claims_37 : decode cL_claims 37 = .ok (.irem, 1) := by decide +kernel
theorem dL_claims_38 : decode cL_claims 38 = .ok (.ifCond .ne 8, 3) := by decide +kernel
theorem dL_claims_41 : decode cL_claims 41 = .ok (.iload 4, 2) := by decide +kernel
theorem dL_claims_43 : decode cL_claims 43 = .ok (.goto 12, 3) := by decide +kernel
theorem dL_claims_46 : decode cL_claims 46 = .ok (.iload 5, 2) := by decide +kernel
theorem dL_claims_48 : decode cL_claims 48 = .ok (.iload_n 2, 1) := by decide +kernel
theorem dL_claims_49 : decode cL_claims 49 = .ok (.iconst 2, 1) := by decide +kernel
theorem dL_claims_50 : decode cL_claims 50 = .ok (.idiv, 1) := by decide +kernel
theorem dL_claims_51 : decode cL_claims 51 = .ok (.bipush 7, 2) := by decide +kernel
theorem dL_claims_53 : decode cL_claims 53 = .ok (.irem, 1) := by decide +kernel
theorem dL_claims_54 : decode cL_claims 54 = .ok (.iadd, 1) := by decide +kernel
theorem dL_claims_55 : decode cL_claims 55 = .ok (.istore 6, 2) := by decide +kernel
theorem dL_claims_57 : decode cL_claims 57 = .ok (.aload_n 0, 1) := by decide +kernel
theorem dL_claims_58 : decode cL_claims 58 = .ok (.iload_n 1, 1) := by decide +kernel
theorem dL_claims_59 : decode cL_claims 59 = .ok (.iload 6, 2) := by decide +kernel
theorem dL_claims_61 : decode cL_claims 61 = .ok (.invokevirtual 66, 3) := by decide +kernel
theorem dL_claims_64 : decode cL_claims 64 = .ok (.istore 7, 2) := by decide +kernel
theorem dL_claims_66 : decode cL_claims 66 = .ok (.iload 4, 2) := by decide +kernel
theorem dL_claims_68 : decode cL_claims 68 = .ok (.ifCond .lt 10, 3) := by decide +kernel
theorem dL_claims_71 : decode cL_claims 71 = .ok (.iload 6, 2) := by decide +kernel
theorem dL_claims_73 : decode cL_claims 73 = .ok (.iload 5, 2) := by decide +kernel
theorem dL_claims_75 : decode cL_claims 75 = .ok (.if_icmp .ne 26, 3) := by decide +kernel
theorem dL_claims_78 : decode cL_claims 78 = .ok (.iload 7, 2) := by decide +kernel
theorem dL_claims_80 : decode cL_claims 80 = .ok (.ldc 69, 2) := by decide +kernel
theorem dL_claims_82 : decode cL_claims 82 = .ok (.if_icmp .ne 17, 3) := by decide +kernel
theorem dL_claims_85 : decode cL_claims 85 = .ok (.aload_n 0, 1) := by decide +kernel
theorem dL_claims_86 : decode cL_claims 86 = .ok (.bipush 8, 2) := by decide +kernel
theorem dL_claims_88 : decode cL_claims 88 = .ok (.invokevirtual 9, 3) := by decide +kernel
theorem dL_claims_91 : decode cL_claims 91 = .ok (.iload_n 3, 1) := by decide +kernel
theorem dL_claims_92 : decode cL_claims 92 = .ok (.if_icmp .ne 7, 3) := by decide +kernel
theorem dL_claims_95 : decode cL_claims 95 = .ok (.iconst 1, 1) := by decide +kernel
theorem dL_claims_96 : decode cL_claims 96 = .ok (.goto 4, 3) := by decide +kernel
theorem dL_claims_99 : decode cL_claims 99 = .ok (.iconst 0, 1) := by decide +kernel
theorem dL_claims_100 : decode cL_claims 100 = .ok (.ireturn, 1) := by decide +kernel
theorem dL_claims_101 : decode cL_claims 101 = .ok (.iload 7, 2) := by decide +kernel
theorem dL_claims_103 : decode cL_claims 103 = .ok (.ifCond .lt 62, 3) := by decide +kernel
theorem dL_claims_106 : decode cL_claims 106 = .ok (.iload 7, 2) := by decide +kernel
theorem dL_claims_108 : decode cL_claims 108 = .ok (.iconst 2, 1) := by decide +kernel
theorem dL_claims_109 : decode cL_claims 109 = .ok (.if_icmp .gt 56, 3) := by decide +kernel
theorem dL_claims_112 : decode cL_claims 112 = .ok (.aload_n 0, 1) := by decide +kernel
theorem dL_claims_113 : decode cL_claims 113 = .ok (.iload_n 1, 1) := by decide +kernel
theorem dL_claims_114 : decode cL_claims 114 = .ok (.iconst 1, 1) := by decide +kernel
theorem dL_claims_115 : decode cL_claims 115 = .ok (.invokevirtual 26, 3) := by decide +kernel
theorem dL_claims_118 : decode cL_claims 118 = .ok (.ldc 22, 2) := by decide +kernel
theorem dL_claims_120 : decode cL_claims 120 = .ok (.if_icmp .ne 45, 3) := by decide +kernel
theorem dL_claims_123 : decode cL_claims 123 = .ok (.aload_n 0, 1) := by decide +kernel
theorem dL_claims_124 : decode cL_claims 124 = .ok (.bipush 8, 2) := by decide +kernel
theorem dL_claims_126 : decode cL_claims 126 = .ok (.invokevirtual 9, 3) := by decide +kernel
theorem dL_claims_129 : decode cL_claims 129 = .ok (.iload 7, 2) := by decide +kernel
theorem dL_claims_131 : decode cL_claims 131 = .ok (.ifCond .ne 7, 3) := by decide +kernel
theorem dL_claims_134 : decode cL_claims 134 = .ok (.iload_n 3, 1) := by decide +kernel
theorem dL_claims_135 : decode cL_claims 135 = .ok (.goto 10, 3) := by decide +kernel
theorem dL_claims_138 : decode cL_claims 138 = .ok (.iload_n 3, 1) := by decide +kernel
end
section
theorem dL_claims_139 : decode cL_claims 139 = .ok (.iload 4, 2) := by decide +kernel
theorem dL_claims_141 : decode cL_claims 141 = .ok (.iadd, 1) := by decide +kernel
theorem dL_claims_142 : decode cL_claims 142 = .ok (.iload 5, 2) := by decide +kernel
theorem dL_claims_144 : decode cL_claims 144 = .ok (.isub, 1) := by decide +kernel
theorem dL_claims_145 : decode cL_claims 145 = .ok (.if_icmp .ne 20, 3) := by decide +kernel
theorem dL_claims_148 : decode cL_claims 148 = .ok (.iload 7, 2) := by decide +kernel
theorem dL_claims_150 : decode cL_claims 150 = .ok (.iconst 1, 1) := by decide +kernel
theorem dL_claims_151 : decode cL_claims 151 = .ok (.if_icmp .ne 10, 3) := by decide +kernel
theorem dL_claims_154 : decode cL_claims 154 = .ok (.iload 6, 2) := by decide +kernel
theorem dL_claims_156 : decode cL_claims 156 = .ok (.iload 5, 2) := by decide +kernel
theorem dL_claims_158 : decode cL_claims 158 = .ok (.if_icmp .eq 7, 3) := by decide +kernel
theorem dL_claims_161 : decode cL_claims 161 = .ok (.iconst 1, 1) := by decide +kernel
theorem dL_claims_162 : decode cL_claims 162 = .ok (.goto 4, 3) := by decide +kernel
theorem dL_claims_165 : decode cL_claims 165 = .ok (.iconst 0, 1) := by decide +kernel
theorem dL_claims_166 : decode cL_claims 166 = .ok (.ireturn, 1) := by decide +kernel
set_option maxRecDepth 20000 in
theorem ggL_law_X9_init_p0 : GoodIn wsL_law (.code yX9_init cX9_init 1 none :: wsX9_init_r1) := goodIn_r _ [11, 12, 13, 14, 15, 16, 17, 18, 19, 20, 21, 22, 23, 24, 25, 26, 27, 28, 29, 30, 31, 32, 33, 34, 35] (by decide +kernel) (by decide +kernel)
set_option maxRecDepth 20000 in
theorem ggL_law_X9_init_p1 : GoodIn wsL_law (wsX9_init_r2) := goodIn_r _ [36, 37, 38, 39, 40, 41, 42, 43, 44, 45, 46, 47, 48, 49, 50, 51, 52, 53, 54, 55, 56, 57, 58, 59] (by decide +kernel) (by decide +kernel)
set_option maxRecDepth 20000 in
theorem ggL_law_X9_init_p2 : GoodIn wsL_law (wsX9_init_r3) := goodIn_r _ [60, 61, 62, 63, 64, 65, 66, 67, 68, 69, 70, 71, 72, 73, 74, 75, 76, 77, 78, 79, 80, 81, 82, 83] (by decide +kernel) (by decide +kernel)
set_option maxRecDepth 20000 in
theorem ggL_law_X9_init_p3 : GoodIn wsL_law (wsX9_init_r4) := goodIn_r _ [84, 85, 86, 87, 88, 89, 90, 91, 92, 93, 94, 95, 96] (by decide +kernel) (by decide +kernel)
set_option maxRecDepth 20000 in
theorem ggL_law_X9_init_t0 : GoodIn wsL_law (wsX30) := goodIn_r _ [562, 563, 564, 565] (by decide +kernel) (by decide +kernel)
set_option maxRecDepth 20000 in
theorem ggL_law_X9_init_t1 : GoodIn wsL_law (wsX90) := goodIn_r _ [559, 560, 561] (by decide +kernel) (by decide +kernel)
set_option maxRecDepth 20000 in
theorem ggL_law_X9_init_t2 : GoodIn wsL_law (wsX60) := goodIn_r _ [566, 567, 568, 569, 570, 571] (by decide +kernel) (by decide +kernel)
set_option maxRecDepth 20000 in
theorem ggL_law_X9_init_t3 : GoodIn wsL_law (wsX50) := goodIn_r _ [572, 573, 574, 575, 576, 577, 578] (by decide +kernel) (by decide +kernel)
set_option maxRecDepth 20000 in
theorem ggL_law_X9_init_t4 : GoodIn wsL_law (wsX80) := goodIn_r _ [579, 580, 581] (by decide +kernel) (by decide +kernel)
set_option maxRecDepth 20000 in
theorem ggL_law_X9_init_t5 : GoodIn wsL_law (wsX00) := goodIn_r _ [582, 583, 584, 585, 586, 587, 588, 589, 590] (by decide +kernel) (by decide +kernel)
set_option maxRecDepth 20000 in
theorem ggL_law_X9_init_t6 : GoodIn wsL_law (wsX70) := goodIn_r _ [591, 592, 593] (by decide +kernel) (by decide +kernel)
set_option maxRecDepth 20000 in
theorem ggL_law_X9_init_t7 : GoodIn wsL_law (wsX40) := goodIn_r _ [594, 595] (by decide +kernel) (by decide +kernel)
set_option maxRecDepth 20000 in
theorem ggL_law_X9_init_t8 : GoodIn wsL_law (wsX10) := goodIn_r _ [596, 597, 598, 599, 600, 601] (by decide +kernel) (by decide +kernel)
set_option maxRecDepth 20000 in
theorem ggL_law_X9_init_t9 : GoodIn wsL_law (wsX20) := goodIn_r _ [602, 603, 604, 605] (by decide +kernel) (by decide +kernel)
theorem ggL_law_X9_init : GoodIn wsL_law wsX9_init := (goodIn_ca (goodIn_ca (goodIn_ca (goodIn_ca (goodIn_ca (goodIn_ca (goodIn_ca (goodIn_ca (goodIn_ca (goodIn_ca (goodIn_ca ggL_law_X9_init_p0 (goodIn_app ggL_law_X9_init_p1 (goodIn_app ggL_law_X9_init_p2 ggL_law_X9_init_p3))) ggL_law_X9_init_t0) ggL_law_X9_init_t1) ggL_law_X9_init_t2) ggL_law_X9_init_t3) ggL_law_X9_init_t4) ggL_law_X9_init_t5) ggL_law_X9_init_t6) ggL_law_X9_init_t7) ggL_law_X9_init_t8) ggL_law_X9_init_t9)
set_option maxRecDepth 20000 in
theorem gL_law_X9_init : GoodIn wsL_law (wsX9_init) := ggL_law_X9_init
set_option maxRecDepth 20000 in
theorem ggL_law_L_holds_p0 : GoodIn wsL_law (.code yL_holds cL_holds 9 (some .boolean) :: wsL_holds_r1) := goodIn_r _ [100, 8, 7, 101, 102, 103, 2, 104, 18, 105, 106, 22, 107, 108, 109, 110, 34, 111, 47, 112, 113, 114, 115, 116, 117] (by decide +kernel) (by decide +kernel)
set_option maxRecDepth 20000 in
theorem ggL_law_L_holds_p1 : GoodIn wsL_law (wsL_holds_r2) := goodIn_r _ [118, 119, 43, 120, 57, 121, 122, 123, 124, 62, 125, 126, 127, 128, 129, 130, 131, 132, 59, 133, 134, 135, 136, 137] (by decide +kernel) (by decide +kernel)
set_option maxRecDepth 20000 in
theorem ggL_law_L_holds_p2 : GoodIn wsL_law (wsL_holds_r3) := goodIn_r _ [138, 139, 140, 141, 142, 61, 143, 144, 145, 146, 147, 148, 149, 150, 151, 152, 153, 154, 155, 156, 157, 66, 158, 159] (by decide +kernel) (by decide +kernel)
set_option maxRecDepth 20000 in
theorem ggL_law_L_holds_p3 : GoodIn wsL_law (wsL_holds_r4) := goodIn_r _ [160, 161, 162, 163, 164, 165, 166, 167, 168, 169, 170, 171, 172, 173, 174, 175, 176, 177, 178, 179, 180, 181, 182, 183] (by decide +kernel) (by decide +kernel)
set_option maxRecDepth 20000 in
theorem ggL_law_L_holds_p4 : GoodIn wsL_law (wsL_holds_r5) := goodIn_r _ [184, 185, 186, 187, 188, 189, 190, 191, 192, 193, 194, 195, 196, 197, 198, 199, 200, 201, 202, 203, 204, 205, 206, 207] (by decide +kernel) (by decide +kernel)
set_option maxRecDepth 20000 in
theorem ggL_law_L_holds_p5 : GoodIn wsL_law (wsL_holds_r6) := goodIn_r _ [208, 25, 209, 210, 211, 212, 213, 214, 215, 216, 217, 218, 219, 220, 221, 26, 222, 223, 224, 225, 226, 227, 228, 229] (by decide +kernel) (by decide +kernel)
set_option maxRecDepth 20000 in
theorem ggL_law_L_holds_p6 : GoodIn wsL_law (wsL_holds_r7) := goodIn_r _ [230, 231, 232, 233, 234, 235, 236, 237, 238, 239, 240, 241, 242, 243, 244, 245, 246, 247, 248, 249, 250, 251, 252, 253] (by decide +kernel) (by decide +kernel)
set_option maxRecDepth 20000 in
theorem ggL_law_L_holds_p7 : GoodIn wsL_law (wsL_holds_r8) := goodIn_r _ [254, 255, 256, 257, 258, 259, 53, 260, 261, 262, 56, 263, 264, 265, 266, 267, 268, 269, 270, 271, 272, 273, 71, 274] (by decide +kernel) (by decide +kernel)
set_option maxRecDepth 20000 in
theorem ggL_law_L_holds_p8 : GoodIn wsL_law (wsL_holds_r9) := goodIn_r _ [275, 276, 64, 277, 75, 76, 278, 279, 280, 281, 70, 282, 283, 284, 285, 286, 287, 288, 289, 290, 291, 292, 293, 294] (by decide +kernel) (by decide +kernel)
set_option maxRecDepth 20000 in
theorem ggL_law_L_holds_p9 : GoodIn wsL_law (wsL_holds_r10) := goodIn_r _ [295, 296, 297, 298, 299, 300, 301, 302, 303, 304, 305, 306] (by decide +kernel) (by decide +kernel)
set_option maxRecDepth 20000 in
theorem ggL_law_L_holds_t0 : GoodIn wsL_law (wsX90) := goodIn_r _ [559, 560, 561] (by decide +kernel) (by decide +kernel)
set_option maxRecDepth 20000 in
theorem ggL_law_L_holds_t1 : GoodIn wsL_law (wsX30) := goodIn_r _ [562, 563, 564, 565] (by decide +kernel) (by decide +kernel)
set_option maxRecDepth 20000 in
theorem ggL_law_L_holds_t2 : GoodIn wsL_law (wsX60) := goodIn_r _ [566, 567, 568, 569, 570, 571] (by decide +kernel) (by decide +kernel)
set_option maxRecDepth 20000 in
theorem ggL_law_L_holds_t3 : GoodIn wsL_law (wsX80) := goodIn_r _ [579, 580, 581] (by decide +kernel) (by decide +kernel)
set_option maxRecDepth 20000 in
theorem ggL_law_L_holds_t4 : GoodIn wsL_law (wsX00) := goodIn_r _ [582, 583, 584, 585, 586, 587, 588, 589, 590] (by decide +kernel) (by decide +kernel)
set_option maxRecDepth 20000 in
theorem ggL_law_L_holds_t5 : GoodIn wsL_law (wsX70) := goodIn_r _ [591, 592, 593] (by decide +kernel) (by decide +kernel)
end
section
set_option maxRecDepth 20000 in
theorem ggL_law_L_holds_t6 : GoodIn wsL_law (wsX10) := goodIn_r _ [596, 597, 598, 599, 600, 601] (by decide +kernel) (by decide +kernel)
set_option maxRecDepth 20000 in
theorem ggL_law_L_holds_t7 : GoodIn wsL_law (wsX50) := goodIn_r _ [572, 573, 574, 575, 576, 577, 578] (by decide +kernel) (by decide +kernel)
set_option maxRecDepth 20000 in
theorem ggL_law_L_holds_t8 : GoodIn wsL_law (wsX40) := goodIn_r _ [594, 595] (by decide +kernel) (by decide +kernel)
theorem ggL_law_L_holds : GoodIn wsL_law wsL_holds := (goodIn_ca (goodIn_ca (goodIn_ca (goodIn_ca (goodIn_ca (goodIn_ca (goodIn_ca (goodIn_ca (goodIn_ca (goodIn_ca ggL_law_L_holds_p0 (goodIn_app ggL_law_L_holds_p1 (goodIn_app ggL_law_L_holds_p2 (goodIn_app ggL_law_L_holds_p3 (goodIn_app ggL_law_L_holds_p4 (goodIn_app ggL_law_L_holds_p5 (goodIn_app ggL_law_L_holds_p6 (goodIn_app ggL_law_L_holds_p7 (goodIn_app ggL_law_L_holds_p8 ggL_law_L_holds_p9))))))))) ggL_law_L_holds_t0) ggL_law_L_holds_t1) ggL_law_L_holds_t2) ggL_law_L_holds_t3) ggL_law_L_holds_t4) ggL_law_L_holds_t5) ggL_law_L_holds_t6) ggL_law_L_holds_t7) ggL_law_L_holds_t8)
set_option maxRecDepth 20000 in
theorem gL_law_L_holds : GoodIn wsL_law (va_wsS RL 71 yL_holds wsL_holds) := goodIn_app (goodIn_of _ (by decide +kernel)) ggL_law_L_holds
set_option maxRecDepth 20000 in
theorem ggL_law_L_cell : GoodIn wsL_law wsL_cell := goodIn_r _ [309, 310, 311] (by decide +kernel) (by decide +kernel)
set_option maxRecDepth 20000 in
theorem gL_law_L_cell : GoodIn wsL_law (va_wsS RL 77 yL_cell wsL_cell) := goodIn_app (goodIn_of _ (by decide +kernel)) ggL_law_L_cell
set_option maxRecDepth 20000 in
theorem ggL_law_X9_setKind_p0 : GoodIn wsL_law (.code yX9_setKind cX9_setKind 4 (some .int) :: wsX9_setKind_r1) := goodIn_r _ [315, 18, 316, 317, 318, 17, 319, 36, 35, 320, 321, 322, 34, 323, 44, 47, 45, 324, 325, 326, 43, 327, 53, 59, 61] (by decide +kernel) (by decide +kernel)
set_option maxRecDepth 20000 in
theorem ggL_law_X9_setKind_p1 : GoodIn wsL_law (wsX9_setKind_r2) := goodIn_r _ [57, 125, 126, 124, 62, 127, 328, 329, 330, 64, 331, 75, 76, 332, 333, 334, 66, 335, 160, 161, 163, 164, 165, 166] (by decide +kernel) (by decide +kernel)
set_option maxRecDepth 20000 in
theorem ggL_law_X9_setKind_p2 : GoodIn wsL_law (wsX9_setKind_r3) := goodIn_r _ [336, 223, 224, 25, 225, 210, 211, 212, 213, 214, 215, 216, 337, 338, 339, 56, 340, 70, 71, 341, 112, 113, 114, 2] (by decide +kernel) (by decide +kernel)
set_option maxRecDepth 20000 in
theorem ggL_law_X9_setKind_p3 : GoodIn wsL_law (wsX9_setKind_r4) := goodIn_r _ [115, 105, 116, 342, 343, 344, 345, 128, 346, 347, 256, 257, 258, 259, 153, 154, 348, 349, 350, 351, 352, 353, 148, 354] (by decide +kernel) (by decide +kernel)
set_option maxRecDepth 20000 in
theorem ggL_law_X9_setKind_p4 : GoodIn wsL_law (wsX9_setKind_r5) := goodIn_r _ [355, 356, 357, 358, 359, 360, 32, 361, 362, 363, 364] (by decide +kernel) (by decide +kernel)
set_option maxRecDepth 20000 in
theorem ggL_law_X9_setKind_t0 : GoodIn wsL_law (wsX90) := goodIn_r _ [559, 560, 561] (by decide +kernel) (by decide +kernel)
set_option maxRecDepth 20000 in
theorem ggL_law_X9_setKind_t1 : GoodIn wsL_law (wsX30) := goodIn_r _ [562, 563, 564, 565] (by decide +kernel) (by decide +kernel)
set_option maxRecDepth 20000 in
theorem ggL_law_X9_setKind_t2 : GoodIn wsL_law (wsX80) := goodIn_r _ [579, 580, 581] (by decide +kernel) (by decide +kernel)
set_option maxRecDepth 20000 in
theorem ggL_law_X9_setKind_t3 : GoodIn wsL_law (wsX00) := goodIn_r _ [582, 583, 584, 585, 586, 587, 588, 589, 590] (by decide +kernel) (by decide +kernel)
set_option maxRecDepth 20000 in
theorem ggL_law_X9_setKind_t4 : GoodIn wsL_law (wsX40) := goodIn_r _ [594, 595] (by decide +kernel) (by decide +kernel)
set_option maxRecDepth 20000 in
theorem ggL_law_X9_setKind_t5 : GoodIn wsL_law (wsX10) := goodIn_r _ [596, 597, 598, 599, 600, 601] (by decide +kernel) (by decide +kernel)
set_option maxRecDepth 20000 in
theorem ggL_law_X9_setKind_t6 : GoodIn wsL_law (wsX50) := goodIn_r _ [572, 573, 574, 575, 576, 577, 578] (by decide +kernel) (by decide +kernel)
set_option maxRecDepth 20000 in
theorem ggL_law_X9_setKind_t7 : GoodIn wsL_law (wsX70) := goodIn_r _ [591, 592, 593] (by decide +kernel) (by decide +kernel)
theorem ggL_law_X9_setKind : GoodIn wsL_law wsX9_setKind := (goodIn_ca (goodIn_ca (goodIn_ca (goodIn_ca (goodIn_ca (goodIn_ca (goodIn_ca (goodIn_ca (goodIn_ca ggL_law_X9_setKind_p0 (goodIn_app ggL_law_X9_setKind_p1 (goodIn_app ggL_law_X9_setKind_p2 (goodIn_app ggL_law_X9_setKind_p3 ggL_law_X9_setKind_p4)))) ggL_law_X9_setKind_t0) ggL_law_X9_setKind_t1) ggL_law_X9_setKind_t2) ggL_law_X9_setKind_t3) ggL_law_X9_setKind_t4) ggL_law_X9_setKind_t5) ggL_law_X9_setKind_t6) ggL_law_X9_setKind_t7)
set_option maxRecDepth 20000 in
theorem gL_law_X9_setKind : GoodIn wsL_law (wsV RL 81 RX9 yX9_setKind wsX9_setKind) := goodIn_app (goodIn_of _ (by decide +kernel)) ggL_law_X9_setKind
set_option maxRecDepth 20000 in
theorem ggL_law_X9_come_p0 : GoodIn wsL_law (.code yX9_come cX9_come 2 (some .int) :: wsX9_come_r1) := goodIn_r _ [368, 18, 316, 317, 318, 17, 319, 36, 35, 320, 321, 322, 34, 323, 44, 47, 45, 324, 325, 326, 43, 327, 53, 59, 61] (by decide +kernel) (by decide +kernel)
set_option maxRecDepth 20000 in
theorem ggL_law_X9_come_p1 : GoodIn wsL_law (wsX9_come_r2) := goodIn_r _ [57, 125, 126, 124, 62, 127, 328, 329, 330, 64, 331, 75, 76, 332, 333, 334, 66, 335, 160, 161, 163, 164, 165, 166] (by decide +kernel) (by decide +kernel)
set_option maxRecDepth 20000 in
theorem ggL_law_X9_come_p2 : GoodIn wsL_law (wsX9_come_r3) := goodIn_r _ [336, 223, 224, 25, 225, 210, 211, 212, 213, 214, 215, 216, 337, 338, 339, 56, 340, 70, 71, 341, 112, 113, 114, 2] (by decide +kernel) (by decide +kernel)
set_option maxRecDepth 20000 in
theorem ggL_law_X9_come_p3 : GoodIn wsL_law (wsX9_come_r4) := goodIn_r _ [115, 105, 116, 369, 370, 371, 372, 128, 373, 153, 154, 374, 375, 376, 377, 348, 349, 350, 351, 352, 353, 148, 354, 355] (by decide +kernel) (by decide +kernel)
set_option maxRecDepth 20000 in
theorem ggL_law_X9_come_p4 : GoodIn wsL_law (wsX9_come_r5) := goodIn_r _ [356, 357, 358, 359, 360, 32, 361, 362, 363, 364] (by decide +kernel) (by decide +kernel)
set_option maxRecDepth 20000 in
theorem ggL_law_X9_come_t0 : GoodIn wsL_law (wsX90) := goodIn_r _ [559, 560, 561] (by decide +kernel) (by decide +kernel)
set_option maxRecDepth 20000 in
theorem ggL_law_X9_come_t1 : GoodIn wsL_law (wsX30) := goodIn_r _ [562, 563, 564, 565] (by decide +kernel) (by decide +kernel)
set_option maxRecDepth 20000 in
theorem ggL_law_X9_come_t2 : GoodIn wsL_law (wsX80) := goodIn_r _ [579, 580, 581] (by decide +kernel) (by decide +kernel)
set_option maxRecDepth 20000 in
theorem ggL_law_X9_come_t3 : GoodIn wsL_law (wsX00) := goodIn_r _ [582, 583, 584, 585, 586, 587, 588, 589, 590] (by decide +kernel) (by decide +kernel)
set_option maxRecDepth 20000 in
theorem ggL_law_X9_come_t4 : GoodIn wsL_law (wsX40) := goodIn_r _ [594, 595] (by decide +kernel) (by decide +kernel)
set_option maxRecDepth 20000 in
theorem ggL_law_X9_come_t5 : GoodIn wsL_law (wsX10) := goodIn_r _ [596, 597, 598, 599, 600, 601] (by decide +kernel) (by decide +kernel)
set_option maxRecDepth 20000 in
theorem ggL_law_X9_come_t6 : GoodIn wsL_law (wsX50) := goodIn_r _ [572, 573, 574, 575, 576, 577, 578] (by decide +kernel) (by decide +kernel)
set_option maxRecDepth 20000 in
theorem ggL_law_X9_come_t7 : GoodIn wsL_law (wsX70) := goodIn_r _ [591, 592, 593] (by decide +kernel) (by decide +kernel)
theorem ggL_law_X9_come : GoodIn wsL_law wsX9_come := (goodIn_ca (goodIn_ca (goodIn_ca (goodIn_ca (goodIn_ca (goodIn_ca (goodIn_ca (goodIn_ca (goodIn_ca ggL_law_X9_come_p0 (goodIn_app ggL_law_X9_come_p1 (goodIn_app ggL_law_X9_come_p2 (goodIn_app ggL_law_X9_come_p3 ggL_law_X9_come_p4)))) ggL_law_X9_come_t0) ggL_law_X9_come_t1) ggL_law_X9_come_t2) ggL_law_X9_come_t3) ggL_law_X9_come_t4) ggL_law_X9_come_t5) ggL_law_X9_come_t6) ggL_law_X9_come_t7)
set_option maxRecDepth 20000 in
theorem gL_law_X9_come : GoodIn wsL_law (wsV RL 84 RX9 yX9_come wsX9_come) := goodIn_app (goodIn_of _ (by decide +kernel)) ggL_law_X9_come
set_option maxRecDepth 20000 in
theorem ggL_law_X9_addPrize_p0 : GoodIn wsL_law (.code yX9_addPrize cX9_addPrize 6 (some .int) :: wsX9_addPrize_r1) := goodIn_r _ [381, 18, 316, 317, 318, 17, 319, 36, 35, 320, 321, 322, 34, 323, 44, 47, 45, 324, 325, 326, 43, 327, 53, 59, 61] (by decide +kernel) (by decide +kernel)
set_option maxRecDepth 20000 in
theorem ggL_law_X9_addPrize_p1 : GoodIn wsL_law (wsX9_addPrize_r2) := goodIn_r _ [57, 125, 126, 124, 62, 127, 328, 329, 330, 64, 331, 75, 76, 332, 333, 334, 66, 335, 160, 161, 163, 164, 165, 166] (by decide +kernel) (by decide +kernel)
end
section
set_option maxRecDepth 20000 in
theorem ggL_law_X9_addPrize_p2 : GoodIn wsL_law (wsX9_addPrize_r3) := goodIn_r _ [336, 223, 224, 25, 225, 210, 211, 212, 213, 214, 215, 216, 337, 338, 339, 56, 340, 70, 71, 341, 112, 113, 114, 2] (by decide +kernel) (by decide +kernel)
set_option maxRecDepth 20000 in
theorem ggL_law_X9_addPrize_p3 : GoodIn wsL_law (wsX9_addPrize_r4) := goodIn_r _ [115, 105, 116, 382, 383, 384, 385, 128, 245, 373, 153, 154, 386, 387, 388, 389, 348, 349, 350, 351, 352, 353, 148, 354] (by decide +kernel) (by decide +kernel)
set_option maxRecDepth 20000 in
theorem ggL_law_X9_addPrize_p4 : GoodIn wsL_law (wsX9_addPrize_r5) := goodIn_r _ [355, 356, 357, 358, 359, 360, 32, 361, 362, 363, 364] (by decide +kernel) (by decide +kernel)
set_option maxRecDepth 20000 in
theorem ggL_law_X9_addPrize_t0 : GoodIn wsL_law (wsX90) := goodIn_r _ [559, 560, 561] (by decide +kernel) (by decide +kernel)
set_option maxRecDepth 20000 in
theorem ggL_law_X9_addPrize_t1 : GoodIn wsL_law (wsX30) := goodIn_r _ [562, 563, 564, 565] (by decide +kernel) (by decide +kernel)
set_option maxRecDepth 20000 in
theorem ggL_law_X9_addPrize_t2 : GoodIn wsL_law (wsX80) := goodIn_r _ [579, 580, 581] (by decide +kernel) (by decide +kernel)
set_option maxRecDepth 20000 in
theorem ggL_law_X9_addPrize_t3 : GoodIn wsL_law (wsX00) := goodIn_r _ [582, 583, 584, 585, 586, 587, 588, 589, 590] (by decide +kernel) (by decide +kernel)
set_option maxRecDepth 20000 in
theorem ggL_law_X9_addPrize_t4 : GoodIn wsL_law (wsX40) := goodIn_r _ [594, 595] (by decide +kernel) (by decide +kernel)
set_option maxRecDepth 20000 in
theorem ggL_law_X9_addPrize_t5 : GoodIn wsL_law (wsX10) := goodIn_r _ [596, 597, 598, 599, 600, 601] (by decide +kernel) (by decide +kernel)
set_option maxRecDepth 20000 in
theorem ggL_law_X9_addPrize_t6 : GoodIn wsL_law (wsX50) := goodIn_r _ [572, 573, 574, 575, 576, 577, 578] (by decide +kernel) (by decide +kernel)
set_option maxRecDepth 20000 in
theorem ggL_law_X9_addPrize_t7 : GoodIn wsL_law (wsX70) := goodIn_r _ [591, 592, 593] (by decide +kernel) (by decide +kernel)
theorem ggL_law_X9_addPrize : GoodIn wsL_law wsX9_addPrize := (goodIn_ca (goodIn_ca (goodIn_ca (goodIn_ca (goodIn_ca (goodIn_ca (goodIn_ca (goodIn_ca (goodIn_ca ggL_law_X9_addPrize_p0 (goodIn_app ggL_law_X9_addPrize_p1 (goodIn_app ggL_law_X9_addPrize_p2 (goodIn_app ggL_law_X9_addPrize_p3 ggL_law_X9_addPrize_p4)))) ggL_law_X9_addPrize_t0) ggL_law_X9_addPrize_t1) ggL_law_X9_addPrize_t2) ggL_law_X9_addPrize_t3) ggL_law_X9_addPrize_t4) ggL_law_X9_addPrize_t5) ggL_law_X9_addPrize_t6) ggL_law_X9_addPrize_t7)
set_option maxRecDepth 20000 in
theorem gL_law_X9_addPrize : GoodIn wsL_law (wsV RL 88 RX9 yX9_addPrize wsX9_addPrize) := goodIn_app (goodIn_of _ (by decide +kernel)) ggL_law_X9_addPrize
set_option maxRecDepth 20000 in
theorem ggL_law_X9_setScale_p0 : GoodIn wsL_law (.code yX9_setScale cX9_setScale 3 (some .int) :: wsX9_setScale_r1) := goodIn_r _ [393, 18, 316, 317, 318, 17, 319, 36, 35, 320, 321, 322, 34, 323, 44, 47, 45, 324, 325, 326, 43, 327, 53, 59, 61] (by decide +kernel) (by decide +kernel)
set_option maxRecDepth 20000 in
theorem ggL_law_X9_setScale_p1 : GoodIn wsL_law (wsX9_setScale_r2) := goodIn_r _ [57, 125, 126, 124, 62, 127, 328, 329, 330, 64, 331, 75, 76, 332, 333, 334, 66, 335, 160, 161, 163, 164, 165, 166] (by decide +kernel) (by decide +kernel)
set_option maxRecDepth 20000 in
theorem ggL_law_X9_setScale_p2 : GoodIn wsL_law (wsX9_setScale_r3) := goodIn_r _ [336, 223, 224, 25, 225, 210, 211, 212, 213, 214, 215, 216, 337, 338, 339, 56, 340, 70, 71, 341, 112, 113, 114, 2] (by decide +kernel) (by decide +kernel)
set_option maxRecDepth 20000 in
theorem ggL_law_X9_setScale_p3 : GoodIn wsL_law (wsX9_setScale_r4) := goodIn_r _ [115, 105, 116, 394, 395, 396, 397, 128, 121, 122, 123, 178, 179, 180, 181, 398, 268, 269, 153, 154, 348, 349, 350, 351] (by decide +kernel) (by decide +kernel)
set_option maxRecDepth 20000 in
theorem ggL_law_X9_setScale_p4 : GoodIn wsL_law (wsX9_setScale_r5) := goodIn_r _ [352, 353, 148, 354, 355, 356, 357, 358, 359, 360, 32, 361, 362, 363, 364] (by decide +kernel) (by decide +kernel)
set_option maxRecDepth 20000 in
theorem ggL_law_X9_setScale_t0 : GoodIn wsL_law (wsX90) := goodIn_r _ [559, 560, 561] (by decide +kernel) (by decide +kernel)
set_option maxRecDepth 20000 in
theorem ggL_law_X9_setScale_t1 : GoodIn wsL_law (wsX30) := goodIn_r _ [562, 563, 564, 565] (by decide +kernel) (by decide +kernel)
set_option maxRecDepth 20000 in
theorem ggL_law_X9_setScale_t2 : GoodIn wsL_law (wsX80) := goodIn_r _ [579, 580, 581] (by decide +kernel) (by decide +kernel)
set_option maxRecDepth 20000 in
theorem ggL_law_X9_setScale_t3 : GoodIn wsL_law (wsX00) := goodIn_r _ [582, 583, 584, 585, 586, 587, 588, 589, 590] (by decide +kernel) (by decide +kernel)
set_option maxRecDepth 20000 in
theorem ggL_law_X9_setScale_t4 : GoodIn wsL_law (wsX40) := goodIn_r _ [594, 595] (by decide +kernel) (by decide +kernel)
set_option maxRecDepth 20000 in
theorem ggL_law_X9_setScale_t5 : GoodIn wsL_law (wsX10) := goodIn_r _ [596, 597, 598, 599, 600, 601] (by decide +kernel) (by decide +kernel)
set_option maxRecDepth 20000 in
theorem ggL_law_X9_setScale_t6 : GoodIn wsL_law (wsX50) := goodIn_r _ [572, 573, 574, 575, 576, 577, 578] (by decide +kernel) (by decide +kernel)
set_option maxRecDepth 20000 in
theorem ggL_law_X9_setScale_t7 : GoodIn wsL_law (wsX70) := goodIn_r _ [591, 592, 593] (by decide +kernel) (by decide +kernel)
theorem ggL_law_X9_setScale : GoodIn wsL_law wsX9_setScale := (goodIn_ca (goodIn_ca (goodIn_ca (goodIn_ca (goodIn_ca (goodIn_ca (goodIn_ca (goodIn_ca (goodIn_ca ggL_law_X9_setScale_p0 (goodIn_app ggL_law_X9_setScale_p1 (goodIn_app ggL_law_X9_setScale_p2 (goodIn_app ggL_law_X9_setScale_p3 ggL_law_X9_setScale_p4)))) ggL_law_X9_setScale_t0) ggL_law_X9_setScale_t1) ggL_law_X9_setScale_t2) ggL_law_X9_setScale_t3) ggL_law_X9_setScale_t4) ggL_law_X9_setScale_t5) ggL_law_X9_setScale_t6) ggL_law_X9_setScale_t7)
set_option maxRecDepth 20000 in
theorem gL_law_X9_setScale : GoodIn wsL_law (wsV RL 56 RX9 yX9_setScale wsX9_setScale) := goodIn_app (goodIn_of _ (by decide +kernel)) ggL_law_X9_setScale
set_option maxRecDepth 20000 in
theorem ggL_law_X9_count_p0 : GoodIn wsL_law (.code yX9_count cX9_count 2 (some .int) :: wsX9_count_r1) := goodIn_r _ [104, 18, 105, 106, 22, 107, 108, 109, 110, 34, 111, 47, 112, 113, 114, 2, 115, 116, 117, 118, 119, 43, 120, 57, 121] (by decide +kernel) (by decide +kernel)
set_option maxRecDepth 20000 in
theorem ggL_law_X9_count_p1 : GoodIn wsL_law (wsX9_count_r2) := goodIn_r _ [122, 123, 124, 62, 125, 126, 127, 128, 129, 130, 131, 132, 59, 133, 134, 135, 136, 137, 138, 139, 140, 141, 142, 61] (by decide +kernel) (by decide +kernel)
set_option maxRecDepth 20000 in
theorem ggL_law_X9_count_p2 : GoodIn wsL_law (wsX9_count_r3) := goodIn_r _ [143] (by decide +kernel) (by decide +kernel)
set_option maxRecDepth 20000 in
theorem ggL_law_X9_count_t0 : GoodIn wsL_law (wsX90) := goodIn_r _ [559, 560, 561] (by decide +kernel) (by decide +kernel)
set_option maxRecDepth 20000 in
theorem ggL_law_X9_count_t1 : GoodIn wsL_law (wsX30) := goodIn_r _ [562, 563, 564, 565] (by decide +kernel) (by decide +kernel)
set_option maxRecDepth 20000 in
theorem ggL_law_X9_count_t2 : GoodIn wsL_law (wsX60) := goodIn_r _ [566, 567, 568, 569, 570, 571] (by decide +kernel) (by decide +kernel)
set_option maxRecDepth 20000 in
theorem ggL_law_X9_count_t3 : GoodIn wsL_law (wsX80) := goodIn_r _ [579, 580, 581] (by decide +kernel) (by decide +kernel)
set_option maxRecDepth 20000 in
theorem ggL_law_X9_count_t4 : GoodIn wsL_law (wsX00) := goodIn_r _ [582, 583, 584, 585, 586, 587, 588, 589, 590] (by decide +kernel) (by decide +kernel)
set_option maxRecDepth 20000 in
theorem ggL_law_X9_count_t5 : GoodIn wsL_law (wsX70) := goodIn_r _ [591, 592, 593] (by decide +kernel) (by decide +kernel)
set_option maxRecDepth 20000 in
theorem ggL_law_X9_count_t6 : GoodIn wsL_law (wsX10) := goodIn_r _ [596, 597, 598, 599, 600, 601] (by decide +kernel) (by decide +kernel)
end
section
set_option maxRecDepth 20000 in
theorem ggL_law_X9_count_t7 : GoodIn wsL_law (wsX50) := goodIn_r _ [572, 573, 574, 575, 576, 577, 578] (by decide +kernel) (by decide +kernel)
theorem ggL_law_X9_count : GoodIn wsL_law wsX9_count := (goodIn_ca (goodIn_ca (goodIn_ca (goodIn_ca (goodIn_ca (goodIn_ca (goodIn_ca (goodIn_ca (goodIn_ca ggL_law_X9_count_p0 (goodIn_app ggL_law_X9_count_p1 ggL_law_X9_count_p2)) ggL_law_X9_count_t0) ggL_law_X9_count_t1) ggL_law_X9_count_t2) ggL_law_X9_count_t3) ggL_law_X9_count_t4) ggL_law_X9_count_t5) ggL_law_X9_count_t6) ggL_law_X9_count_t7)
set_option maxRecDepth 20000 in
theorem gL_law_X9_count : GoodIn wsL_law (wsV RL 9 RX9 yX9_count wsX9_count) := goodIn_app (goodIn_of _ (by decide +kernel)) ggL_law_X9_count
set_option maxRecDepth 20000 in
theorem ggL_law_X9_setRule_p0 : GoodIn wsL_law (.code yX9_setRule cX9_setRule 2 (some .int) :: wsX9_setRule_r1) := goodIn_r _ [402, 18, 316, 317, 318, 17, 319, 36, 35, 320, 321, 322, 34, 323, 44, 47, 45, 324, 325, 326, 43, 327, 53, 59, 61] (by decide +kernel) (by decide +kernel)
set_option maxRecDepth 20000 in
theorem ggL_law_X9_setRule_p1 : GoodIn wsL_law (wsX9_setRule_r2) := goodIn_r _ [57, 125, 126, 124, 62, 127, 328, 329, 330, 64, 331, 75, 76, 332, 333, 334, 66, 335, 160, 161, 163, 164, 165, 166] (by decide +kernel) (by decide +kernel)
set_option maxRecDepth 20000 in
theorem ggL_law_X9_setRule_p2 : GoodIn wsL_law (wsX9_setRule_r3) := goodIn_r _ [336, 223, 224, 25, 225, 210, 211, 212, 213, 214, 215, 216, 337, 338, 339, 56, 340, 70, 71, 341, 112, 113, 114, 2] (by decide +kernel) (by decide +kernel)
set_option maxRecDepth 20000 in
theorem ggL_law_X9_setRule_p3 : GoodIn wsL_law (wsX9_setRule_r4) := goodIn_r _ [115, 105, 116, 403, 404, 405, 406, 128, 153, 154, 348, 349, 350, 351, 352, 353, 148, 354, 355, 356, 357, 358, 359, 360] (by decide +kernel) (by decide +kernel)
set_option maxRecDepth 20000 in
theorem ggL_law_X9_setRule_p4 : GoodIn wsL_law (wsX9_setRule_r5) := goodIn_r _ [32, 361, 362, 363, 364] (by decide +kernel) (by decide +kernel)
set_option maxRecDepth 20000 in
theorem ggL_law_X9_setRule_t0 : GoodIn wsL_law (wsX90) := goodIn_r _ [559, 560, 561] (by decide +kernel) (by decide +kernel)
set_option maxRecDepth 20000 in
theorem ggL_law_X9_setRule_t1 : GoodIn wsL_law (wsX30) := goodIn_r _ [562, 563, 564, 565] (by decide +kernel) (by decide +kernel)
set_option maxRecDepth 20000 in
theorem ggL_law_X9_setRule_t2 : GoodIn wsL_law (wsX80) := goodIn_r _ [579, 580, 581] (by decide +kernel) (by decide +kernel)
set_option maxRecDepth 20000 in
theorem ggL_law_X9_setRule_t3 : GoodIn wsL_law (wsX00) := goodIn_r _ [582, 583, 584, 585, 586, 587, 588, 589, 590] (by decide +kernel) (by decide +kernel)
set_option maxRecDepth 20000 in
theorem ggL_law_X9_setRule_t4 : GoodIn wsL_law (wsX40) := goodIn_r _ [594, 595] (by decide +kernel) (by decide +kernel)
set_option maxRecDepth 20000 in
theorem ggL_law_X9_setRule_t5 : GoodIn wsL_law (wsX10) := goodIn_r _ [596, 597, 598, 599, 600, 601] (by decide +kernel) (by decide +kernel)
set_option maxRecDepth 20000 in
theorem ggL_law_X9_setRule_t6 : GoodIn wsL_law (wsX50) := goodIn_r _ [572, 573, 574, 575, 576, 577, 578] (by decide +kernel) (by decide +kernel)
set_option maxRecDepth 20000 in
theorem ggL_law_X9_setRule_t7 : GoodIn wsL_law (wsX70) := goodIn_r _ [591, 592, 593] (by decide +kernel) (by decide +kernel)
theorem ggL_law_X9_setRule : GoodIn wsL_law wsX9_setRule := (goodIn_ca (goodIn_ca (goodIn_ca (goodIn_ca (goodIn_ca (goodIn_ca (goodIn_ca (goodIn_ca (goodIn_ca ggL_law_X9_setRule_p0 (goodIn_app ggL_law_X9_setRule_p1 (goodIn_app ggL_law_X9_setRule_p2 (goodIn_app ggL_law_X9_setRule_p3 ggL_law_X9_setRule_p4)))) ggL_law_X9_setRule_t0) ggL_law_X9_setRule_t1) ggL_law_X9_setRule_t2) ggL_law_X9_setRule_t3) ggL_law_X9_setRule_t4) ggL_law_X9_setRule_t5) ggL_law_X9_setRule_t6) ggL_law_X9_setRule_t7)
set_option maxRecDepth 20000 in
theorem gL_law_X9_setRule : GoodIn wsL_law (wsV RL 92 RX9 yX9_setRule wsX9_setRule) := goodIn_app (goodIn_of _ (by decide +kernel)) ggL_law_X9_setRule
set_option maxRecDepth 20000 in
theorem ggL_law_L_apart_p0 : GoodIn wsL_law (.code yL_apart cL_apart 10 (some .boolean) :: wsL_apart_r1) := goodIn_r _ [409, 410, 411, 412, 2, 413, 148, 414, 112, 113, 114, 115, 18, 105, 116, 415, 257, 258, 43, 259, 53, 153, 154, 416, 417] (by decide +kernel) (by decide +kernel)
set_option maxRecDepth 20000 in
theorem ggL_law_L_apart_p1 : GoodIn wsL_law (wsL_apart_r2) := goodIn_r _ [418, 56, 419, 70, 420, 421, 422, 423, 71, 274, 275, 276, 64, 277, 75, 76, 424, 425, 426, 268, 180, 269, 427, 195] (by decide +kernel) (by decide +kernel)
set_option maxRecDepth 20000 in
theorem ggL_law_L_apart_p2 : GoodIn wsL_law (wsL_apart_r3) := goodIn_r _ [196, 197, 198, 199, 200, 294, 295, 296, 297, 428, 429, 430, 431, 172, 432, 433, 434, 435, 264, 436, 437, 438, 439, 101] (by decide +kernel) (by decide +kernel)
set_option maxRecDepth 20000 in
theorem ggL_law_L_apart_p3 : GoodIn wsL_law (wsL_apart_r4) := goodIn_r _ [102, 103, 104, 106, 22, 107, 108, 109, 110, 34, 111, 47, 117, 118, 119, 120, 57, 121, 122, 123, 124, 62, 125, 126] (by decide +kernel) (by decide +kernel)
set_option maxRecDepth 20000 in
theorem ggL_law_L_apart_p4 : GoodIn wsL_law (wsL_apart_r5) := goodIn_r _ [127, 128, 129, 130, 131, 132, 59, 133, 134, 135, 136, 137, 138, 139, 140, 141, 142, 61, 143, 440, 441, 442, 443, 444] (by decide +kernel) (by decide +kernel)
set_option maxRecDepth 20000 in
theorem ggL_law_L_apart_p5 : GoodIn wsL_law (wsL_apart_r6) := goodIn_r _ [445, 446, 447, 448, 449, 450, 451, 452, 453, 454, 455, 456, 457, 458, 271, 272, 273, 267, 278, 279, 280, 281, 459, 283] (by decide +kernel) (by decide +kernel)
set_option maxRecDepth 20000 in
theorem ggL_law_L_apart_p6 : GoodIn wsL_law (wsL_apart_r7) := goodIn_r _ [284, 285, 286, 287, 288, 289, 290, 291, 292, 293, 390, 391, 392, 393, 316, 317, 318, 17, 319, 36, 35, 320, 321, 322] (by decide +kernel) (by decide +kernel)
set_option maxRecDepth 20000 in
theorem ggL_law_L_apart_p7 : GoodIn wsL_law (wsL_apart_r8) := goodIn_r _ [323, 44, 45, 324, 325, 326, 327, 328, 329, 330, 331, 332, 333, 334, 66, 335, 160, 161, 163, 164, 165, 166, 336, 223] (by decide +kernel) (by decide +kernel)
set_option maxRecDepth 20000 in
theorem ggL_law_L_apart_p8 : GoodIn wsL_law (wsL_apart_r9) := goodIn_r _ [224, 25, 225, 210, 211, 212, 213, 214, 215, 216, 337, 338, 339, 340, 341, 394, 395, 396, 397, 178, 179, 181, 398, 348] (by decide +kernel) (by decide +kernel)
set_option maxRecDepth 20000 in
theorem ggL_law_L_apart_p9 : GoodIn wsL_law (wsL_apart_r10) := goodIn_r _ [349, 350, 351, 352, 353, 354, 355, 356, 357, 358, 359, 360, 32, 361, 362, 363, 364, 460, 461, 462, 463, 464, 465, 466] (by decide +kernel) (by decide +kernel)
set_option maxRecDepth 20000 in
theorem ggL_law_L_apart_p10 : GoodIn wsL_law (wsL_apart_r11) := goodIn_r _ [467, 468] (by decide +kernel) (by decide +kernel)
set_option maxRecDepth 20000 in
theorem ggL_law_L_apart_t0 : GoodIn wsL_law (wsX00) := goodIn_r _ [582, 583, 584, 585, 586, 587, 588, 589, 590] (by decide +kernel) (by decide +kernel)
set_option maxRecDepth 20000 in
theorem ggL_law_L_apart_t1 : GoodIn wsL_law (wsX90) := goodIn_r _ [559, 560, 561] (by decide +kernel) (by decide +kernel)
set_option maxRecDepth 20000 in
theorem ggL_law_L_apart_t2 : GoodIn wsL_law (wsX30) := goodIn_r _ [562, 563, 564, 565] (by decide +kernel) (by decide +kernel)
set_option maxRecDepth 20000 in
theorem ggL_law_L_apart_t3 : GoodIn wsL_law (wsX80) := goodIn_r _ [579, 580, 581] (by decide +kernel) (by decide +kernel)
set_option maxRecDepth 20000 in
theorem ggL_law_L_apart_t4 : GoodIn wsL_law (wsX70) := goodIn_r _ [591, 592, 593] (by decide +kernel) (by decide +kernel)
set_option maxRecDepth 20000 in
theorem ggL_law_L_apart_t5 : GoodIn wsL_law (wsX40) := goodIn_r _ [594, 595] (by decide +kernel) (by decide +kernel)
set_option maxRecDepth 20000 in
theorem ggL_law_L_apart_t6 : GoodIn wsL_law (wsX60) := goodIn_r _ [566, 567, 568, 569, 570, 571] (by decide +kernel) (by decide +kernel)
set_option maxRecDepth 20000 in
theorem ggL_law_L_apart_t7 : GoodIn wsL_law (wsX10) := goodIn_r _ [596, 597, 598, 599, 600, 601] (by decide +kernel) (by decide +kernel)
set_option maxRecDepth 20000 in
theorem ggL_law_L_apart_t8 : GoodIn wsL_law (wsX50) := goodIn_r _ [572, 573, 574, 575, 576, 577, 578] (by decide +kernel) (by decide +kernel)
end
section
theorem ggL_law_L_apart : GoodIn wsL_law wsL_apart := (goodIn_ca (goodIn_ca (goodIn_ca (goodIn_ca (goodIn_ca (goodIn_ca (goodIn_ca (goodIn_ca (goodIn_ca (goodIn_ca ggL_law_L_apart_p0 (goodIn_app ggL_law_L_apart_p1 (goodIn_app ggL_law_L_apart_p2 (goodIn_app ggL_law_L_apart_p3 (goodIn_app ggL_law_L_apart_p4 (goodIn_app ggL_law_L_apart_p5 (goodIn_app ggL_law_L_apart_p6 (goodIn_app ggL_law_L_apart_p7 (goodIn_app ggL_law_L_apart_p8 (goodIn_app ggL_law_L_apart_p9 ggL_law_L_apart_p10)))))))))) ggL_law_L_apart_t0) ggL_law_L_apart_t1) ggL_law_L_apart_t2) ggL_law_L_apart_t3) ggL_law_L_apart_t4) ggL_law_L_apart_t5) ggL_law_L_apart_t6) ggL_law_L_apart_t7) ggL_law_L_apart_t8)
set_option maxRecDepth 20000 in
theorem gL_law_L_apart : GoodIn wsL_law (va_wsS RL 95 yL_apart wsL_apart) := goodIn_app (goodIn_of _ (by decide +kernel)) ggL_law_L_apart
set_option maxRecDepth 20000 in
theorem ggL_law_X9_setBias_p0 : GoodIn wsL_law (.code yX9_setBias cX9_setBias 2 (some .int) :: wsX9_setBias_r1) := goodIn_r _ [472, 18, 316, 317, 318, 17, 319, 36, 35, 320, 321, 322, 34, 323, 44, 47, 45, 324, 325, 326, 43, 327, 53, 59, 61] (by decide +kernel) (by decide +kernel)
set_option maxRecDepth 20000 in
theorem ggL_law_X9_setBias_p1 : GoodIn wsL_law (wsX9_setBias_r2) := goodIn_r _ [57, 125, 126, 124, 62, 127, 328, 329, 330, 64, 331, 75, 76, 332, 333, 334, 66, 335, 160, 161, 163, 164, 165, 166] (by decide +kernel) (by decide +kernel)
set_option maxRecDepth 20000 in
theorem ggL_law_X9_setBias_p2 : GoodIn wsL_law (wsX9_setBias_r3) := goodIn_r _ [336, 223, 224, 25, 225, 210, 211, 212, 213, 214, 215, 216, 337, 338, 339, 56, 340, 70, 71, 341, 112, 113, 114, 2] (by decide +kernel) (by decide +kernel)
set_option maxRecDepth 20000 in
theorem ggL_law_X9_setBias_p3 : GoodIn wsL_law (wsX9_setBias_r4) := goodIn_r _ [115, 105, 116, 473, 474, 475, 476, 122, 128, 123, 153, 154, 348, 349, 350, 351, 352, 353, 148, 354, 355, 356, 357, 358] (by decide +kernel) (by decide +kernel)
set_option maxRecDepth 20000 in
theorem ggL_law_X9_setBias_p4 : GoodIn wsL_law (wsX9_setBias_r5) := goodIn_r _ [359, 360, 32, 361, 362, 363, 364] (by decide +kernel) (by decide +kernel)
set_option maxRecDepth 20000 in
theorem ggL_law_X9_setBias_t0 : GoodIn wsL_law (wsX90) := goodIn_r _ [559, 560, 561] (by decide +kernel) (by decide +kernel)
set_option maxRecDepth 20000 in
theorem ggL_law_X9_setBias_t1 : GoodIn wsL_law (wsX30) := goodIn_r _ [562, 563, 564, 565] (by decide +kernel) (by decide +kernel)
set_option maxRecDepth 20000 in
theorem ggL_law_X9_setBias_t2 : GoodIn wsL_law (wsX80) := goodIn_r _ [579, 580, 581] (by decide +kernel) (by decide +kernel)
set_option maxRecDepth 20000 in
theorem ggL_law_X9_setBias_t3 : GoodIn wsL_law (wsX00) := goodIn_r _ [582, 583, 584, 585, 586, 587, 588, 589, 590] (by decide +kernel) (by decide +kernel)
set_option maxRecDepth 20000 in
theorem ggL_law_X9_setBias_t4 : GoodIn wsL_law (wsX40) := goodIn_r _ [594, 595] (by decide +kernel) (by decide +kernel)
set_option maxRecDepth 20000 in
theorem ggL_law_X9_setBias_t5 : GoodIn wsL_law (wsX10) := goodIn_r _ [596, 597, 598, 599, 600, 601] (by decide +kernel) (by decide +kernel)
set_option maxRecDepth 20000 in
theorem ggL_law_X9_setBias_t6 : GoodIn wsL_law (wsX50) := goodIn_r _ [572, 573, 574, 575, 576, 577, 578] (by decide +kernel) (by decide +kernel)
set_option maxRecDepth 20000 in
theorem ggL_law_X9_setBias_t7 : GoodIn wsL_law (wsX70) := goodIn_r _ [591, 592, 593] (by decide +kernel) (by decide +kernel)
theorem ggL_law_X9_setBias : GoodIn wsL_law wsX9_setBias := (goodIn_ca (goodIn_ca (goodIn_ca (goodIn_ca (goodIn_ca (goodIn_ca (goodIn_ca (goodIn_ca (goodIn_ca ggL_law_X9_setBias_p0 (goodIn_app ggL_law_X9_setBias_p1 (goodIn_app ggL_law_X9_setBias_p2 (goodIn_app ggL_law_X9_setBias_p3 ggL_law_X9_setBias_p4)))) ggL_law_X9_setBias_t0) ggL_law_X9_setBias_t1) ggL_law_X9_setBias_t2) ggL_law_X9_setBias_t3) ggL_law_X9_setBias_t4) ggL_law_X9_setBias_t5) ggL_law_X9_setBias_t6) ggL_law_X9_setBias_t7)
set_option maxRecDepth 20000 in
theorem gL_law_X9_setBias : GoodIn wsL_law (wsV RL 99 RX9 yX9_setBias wsX9_setBias) := goodIn_app (goodIn_of _ (by decide +kernel)) ggL_law_X9_setBias
set_option maxRecDepth 20000 in
theorem ggL_law_L_claims_p0 : GoodIn wsL_law (.code yL_claims cL_claims 8 (some .boolean) :: wsL_claims_r1) := goodIn_r _ [479, 4, 7, 101, 102, 103, 2, 104, 18, 105, 106, 22, 107, 108, 109, 110, 34, 111, 47, 112, 113, 114, 115, 116, 117] (by decide +kernel) (by decide +kernel)
set_option maxRecDepth 20000 in
theorem ggL_law_L_claims_p1 : GoodIn wsL_law (wsL_claims_r2) := goodIn_r _ [118, 119, 43, 120, 57, 121, 122, 123, 124, 62, 125, 126, 127, 128, 129, 130, 131, 132, 59, 133, 134, 135, 136, 137] (by decide +kernel) (by decide +kernel)
set_option maxRecDepth 20000 in
theorem ggL_law_L_claims_p2 : GoodIn wsL_law (wsL_claims_r3) := goodIn_r _ [138, 139, 140, 141, 142, 61, 143, 144, 145, 146, 147, 148, 149, 150, 151, 152, 153, 154, 155, 156, 157, 66, 158, 159] (by decide +kernel) (by decide +kernel)
set_option maxRecDepth 20000 in
theorem ggL_law_L_claims_p3 : GoodIn wsL_law (wsL_claims_r4) := goodIn_r _ [160, 161, 162, 163, 164, 165, 166, 480, 481, 482, 483, 316, 317, 318, 17, 319, 36, 35, 320, 321, 322, 323, 44, 45] (by decide +kernel) (by decide +kernel)
set_option maxRecDepth 20000 in
theorem ggL_law_L_claims_p4 : GoodIn wsL_law (wsL_claims_r5) := goodIn_r _ [324, 325, 326, 327, 53, 328, 329, 330, 64, 331, 75, 76, 332, 333, 334, 335, 336, 223, 224, 25, 225, 210, 211, 212] (by decide +kernel) (by decide +kernel)
set_option maxRecDepth 20000 in
theorem ggL_law_L_claims_p5 : GoodIn wsL_law (wsL_claims_r6) := goodIn_r _ [213, 214, 215, 216, 337, 338, 339, 56, 340, 70, 71, 341, 484, 485, 486, 487, 488, 489, 253, 254, 255, 490, 256, 257] (by decide +kernel) (by decide +kernel)
set_option maxRecDepth 20000 in
theorem ggL_law_L_claims_p6 : GoodIn wsL_law (wsL_claims_r7) := goodIn_r _ [258, 259, 491, 492, 493, 494, 495, 271, 272, 273, 267, 268, 180, 269, 274, 275, 276, 277, 278, 279, 280, 281, 195, 196] (by decide +kernel) (by decide +kernel)
set_option maxRecDepth 20000 in
theorem ggL_law_L_claims_p7 : GoodIn wsL_law (wsL_claims_r8) := goodIn_r _ [197, 198, 199, 200, 496, 283, 284, 285, 286, 287, 288, 289, 290, 291, 292, 293, 294, 295, 296, 297, 497, 498, 499, 500] (by decide +kernel) (by decide +kernel)
set_option maxRecDepth 20000 in
theorem ggL_law_L_claims_p8 : GoodIn wsL_law (wsL_claims_r9) := goodIn_r _ [501, 502, 503, 504, 505, 506, 247, 248, 348, 349, 350, 351, 352, 353, 354, 355, 356, 357, 358, 359, 360, 32, 361, 362] (by decide +kernel) (by decide +kernel)
set_option maxRecDepth 20000 in
theorem ggL_law_L_claims_p9 : GoodIn wsL_law (wsL_claims_r10) := goodIn_r _ [363, 364] (by decide +kernel) (by decide +kernel)
set_option maxRecDepth 20000 in
theorem ggL_law_L_claims_t0 : GoodIn wsL_law (wsX90) := goodIn_r _ [559, 560, 561] (by decide +kernel) (by decide +kernel)
set_option maxRecDepth 20000 in
theorem ggL_law_L_claims_t1 : GoodIn wsL_law (wsX30) := goodIn_r _ [562, 563, 564, 565] (by decide +kernel) (by decide +kernel)
set_option maxRecDepth 20000 in
theorem ggL_law_L_claims_t2 : GoodIn wsL_law (wsX60) := goodIn_r _ [566, 567, 568, 569, 570, 571] (by decide +kernel) (by decide +kernel)
set_option maxRecDepth 20000 in
theorem ggL_law_L_claims_t3 : GoodIn wsL_law (wsX80) := goodIn_r _ [579, 580, 581] (by decide +kernel) (by decide +kernel)
set_option maxRecDepth 20000 in
theorem ggL_law_L_claims_t4 : GoodIn wsL_law (wsX00) := goodIn_r _ [582, 583, 584, 585, 586, 587, 588, 589, 590] (by decide +kernel) (by decide +kernel)
set_option maxRecDepth 20000 in
theorem ggL_law_L_claims_t5 : GoodIn wsL_law (wsX70) := goodIn_r _ [591, 592, 593] (by decide +kernel) (by decide +kernel)
set_option maxRecDepth 20000 in
theorem ggL_law_L_claims_t6 : GoodIn wsL_law (wsX10) := goodIn_r _ [596, 597, 598, 599, 600, 601] (by decide +kernel) (by decide +kernel)
set_option maxRecDepth 20000 in
theorem ggL_law_L_claims_t7 : GoodIn wsL_law (wsX50) := goodIn_r _ [572, 573, 574, 575, 576, 577, 578] (by decide +kernel) (by decide +kernel)
set_option maxRecDepth 20000 in
theorem ggL_law_L_claims_t8 : GoodIn wsL_law (wsX40) := goodIn_r _ [594, 595] (by decide +kernel) (by decide +kernel)
theorem ggL_law_L_claims : GoodIn wsL_law wsL_claims := (goodIn_ca (goodIn_ca (goodIn_ca (goodIn_ca (goodIn_ca (goodIn_ca (goodIn_ca (goodIn_ca (goodIn_ca (goodIn_ca ggL_law_L_claims_p0 (goodIn_app ggL_law_L_claims_p1 (goodIn_app ggL_law_L_claims_p2 (goodIn_app ggL_law_L_claims_p3 (goodIn_app ggL_law_L_claims_p4 (goodIn_app ggL_law_L_claims_p5 (goodIn_app ggL_law_L_claims_p6 (goodIn_app ggL_law_L_claims_p7 (goodIn_app ggL_law_L_claims_p8 ggL_law_L_claims_p9))))))))) ggL_law_L_claims_t0) ggL_law_L_claims_t1) ggL_law_L_claims_t2) ggL_law_L_claims_t3) ggL_law_L_claims_t4) ggL_law_L_claims_t5) ggL_law_L_claims_t6) ggL_law_L_claims_t7) ggL_law_L_claims_t8)
set_option maxRecDepth 20000 in
theorem gL_law_L_claims : GoodIn wsL_law (va_wsS RL 102 yL_claims wsL_claims) := goodIn_app (goodIn_of _ (by decide +kernel)) ggL_law_L_claims
end
section
set_option maxRecDepth 20000 in
theorem ggL_law_X9_customer : GoodIn wsL_law wsX9_customer := goodIn_r _ [147, 148, 112, 113, 114, 2, 115, 18, 105, 116, 149, 150, 151, 43, 152, 125, 59, 153, 154, 155, 156, 157, 66, 158, 159, 160, 161, 162, 163, 164, 165, 166, 559, 560, 561, 562, 563, 564, 565, 579, 580, 581, 582, 583, 584, 585, 586, 587, 588, 589, 590, 596, 597, 598, 599, 600, 601] (by decide +kernel) (by decide +kernel)
set_option maxRecDepth 20000 in
theorem gL_law_X9_customer : GoodIn wsL_law (wsV RL 26 RX9 yX9_customer wsX9_customer) := goodIn_app (goodIn_of _ (by decide +kernel)) ggL_law_X9_customer
set_option maxRecDepth 20000 in
theorem ggL_law_X9_buy_p0 : GoodIn wsL_law (.code yX9_buy cX9_buy 4 (some .int) :: wsX9_buy_r1) := goodIn_r _ [510, 18, 316, 317, 318, 17, 319, 36, 35, 320, 321, 322, 34, 323, 44, 47, 45, 324, 325, 326, 43, 327, 53, 59, 61] (by decide +kernel) (by decide +kernel)
set_option maxRecDepth 20000 in
theorem ggL_law_X9_buy_p1 : GoodIn wsL_law (wsX9_buy_r2) := goodIn_r _ [57, 125, 126, 124, 62, 127, 328, 329, 330, 64, 331, 75, 76, 332, 333, 334, 66, 335, 160, 161, 163, 164, 165, 166] (by decide +kernel) (by decide +kernel)
set_option maxRecDepth 20000 in
theorem ggL_law_X9_buy_p2 : GoodIn wsL_law (wsX9_buy_r3) := goodIn_r _ [336, 223, 224, 25, 225, 210, 211, 212, 213, 214, 215, 216, 337, 338, 339, 56, 340, 70, 71, 341, 112, 113, 114, 2] (by decide +kernel) (by decide +kernel)
set_option maxRecDepth 20000 in
theorem ggL_law_X9_buy_p3 : GoodIn wsL_law (wsX9_buy_r4) := goodIn_r _ [115, 105, 116, 511, 512, 513, 514, 128, 138, 177, 489, 143, 373, 490, 150, 151, 152, 153, 154, 191, 192, 193, 194, 515] (by decide +kernel) (by decide +kernel)
set_option maxRecDepth 20000 in
theorem ggL_law_X9_buy_p4 : GoodIn wsL_law (wsX9_buy_r5) := goodIn_r _ [232, 233, 234, 235, 179, 180, 181, 195, 196, 197, 198, 199, 200, 348, 349, 350, 351, 352, 353, 148, 354, 355, 356, 357] (by decide +kernel) (by decide +kernel)
set_option maxRecDepth 20000 in
theorem ggL_law_X9_buy_p5 : GoodIn wsL_law (wsX9_buy_r6) := goodIn_r _ [358, 359, 360, 32, 361, 362, 363, 364] (by decide +kernel) (by decide +kernel)
set_option maxRecDepth 20000 in
theorem ggL_law_X9_buy_t0 : GoodIn wsL_law (wsX90) := goodIn_r _ [559, 560, 561] (by decide +kernel) (by decide +kernel)
set_option maxRecDepth 20000 in
theorem ggL_law_X9_buy_t1 : GoodIn wsL_law (wsX30) := goodIn_r _ [562, 563, 564, 565] (by decide +kernel) (by decide +kernel)
set_option maxRecDepth 20000 in
theorem ggL_law_X9_buy_t2 : GoodIn wsL_law (wsX80) := goodIn_r _ [579, 580, 581] (by decide +kernel) (by decide +kernel)
set_option maxRecDepth 20000 in
theorem ggL_law_X9_buy_t3 : GoodIn wsL_law (wsX00) := goodIn_r _ [582, 583, 584, 585, 586, 587, 588, 589, 590] (by decide +kernel) (by decide +kernel)
set_option maxRecDepth 20000 in
theorem ggL_law_X9_buy_t4 : GoodIn wsL_law (wsX40) := goodIn_r _ [594, 595] (by decide +kernel) (by decide +kernel)
set_option maxRecDepth 20000 in
theorem ggL_law_X9_buy_t5 : GoodIn wsL_law (wsX10) := goodIn_r _ [596, 597, 598, 599, 600, 601] (by decide +kernel) (by decide +kernel)
set_option maxRecDepth 20000 in
theorem ggL_law_X9_buy_t6 : GoodIn wsL_law (wsX50) := goodIn_r _ [572, 573, 574, 575, 576, 577, 578] (by decide +kernel) (by decide +kernel)
set_option maxRecDepth 20000 in
theorem ggL_law_X9_buy_t7 : GoodIn wsL_law (wsX70) := goodIn_r _ [591, 592, 593] (by decide +kernel) (by decide +kernel)
theorem ggL_law_X9_buy : GoodIn wsL_law wsX9_buy := (goodIn_ca (goodIn_ca (goodIn_ca (goodIn_ca (goodIn_ca (goodIn_ca (goodIn_ca (goodIn_ca (goodIn_ca ggL_law_X9_buy_p0 (goodIn_app ggL_law_X9_buy_p1 (goodIn_app ggL_law_X9_buy_p2 (goodIn_app ggL_law_X9_buy_p3 (goodIn_app ggL_law_X9_buy_p4 ggL_law_X9_buy_p5))))) ggL_law_X9_buy_t0) ggL_law_X9_buy_t1) ggL_law_X9_buy_t2) ggL_law_X9_buy_t3) ggL_law_X9_buy_t4) ggL_law_X9_buy_t5) ggL_law_X9_buy_t6) ggL_law_X9_buy_t7)
set_option maxRecDepth 20000 in
theorem gL_law_X9_buy : GoodIn wsL_law (wsV RL 105 RX9 yX9_buy wsX9_buy) := goodIn_app (goodIn_of _ (by decide +kernel)) ggL_law_X9_buy
set_option maxRecDepth 20000 in
theorem ggL_law_X9_prize : GoodIn wsL_law wsX9_prize := goodIn_r _ [204, 148, 112, 113, 114, 2, 115, 18, 105, 116, 205, 192, 193, 43, 194, 126, 61, 153, 154, 206, 207, 208, 25, 209, 210, 211, 212, 213, 214, 215, 216, 217, 559, 560, 561, 562, 563, 564, 565, 579, 580, 581, 582, 583, 584, 585, 586, 587, 588, 589, 590, 572, 573, 574, 575, 576, 577, 578] (by decide +kernel) (by decide +kernel)
set_option maxRecDepth 20000 in
theorem gL_law_X9_prize : GoodIn wsL_law (wsV RL 33 RX9 yX9_prize wsX9_prize) := goodIn_app (goodIn_of _ (by decide +kernel)) ggL_law_X9_prize
set_option maxRecDepth 20000 in
theorem ggL_law_X9_read : GoodIn wsL_law wsX9_read := goodIn_r _ [449, 450, 148, 414, 451, 172, 153, 2, 154, 112, 113, 114, 115, 18, 105, 116, 452, 424, 425, 426, 268, 180, 269, 427, 195, 196, 197, 198, 199, 200, 582, 583, 584, 585, 586, 587, 588, 589, 590, 591, 592, 593, 559, 560, 561, 562, 563, 564, 565, 579, 580, 581] (by decide +kernel) (by decide +kernel)
set_option maxRecDepth 20000 in
theorem gL_law_X9_read : GoodIn wsL_law (wsV RL 15 RX9 yX9_read wsX9_read) := goodIn_app (goodIn_of _ (by decide +kernel)) ggL_law_X9_read
set_option maxRecDepth 20000 in
theorem ggL_law_X9_mixed_p0 : GoodIn wsL_law (.code yX9_mixed cX9_mixed 7 (some .int) :: wsX9_mixed_r1) := goodIn_r _ [519, 148, 450, 414, 112, 113, 114, 2, 115, 18, 105, 116, 415, 257, 258, 43, 259, 53, 153, 154, 172, 520, 521, 522, 56] (by decide +kernel) (by decide +kernel)
set_option maxRecDepth 20000 in
theorem ggL_law_X9_mixed_p1 : GoodIn wsL_law (wsX9_mixed_r2) := goodIn_r _ [523, 264, 524, 525, 526, 527, 71, 286, 287, 288, 289, 70, 294, 295, 296, 64, 297, 75, 76, 274, 275, 276, 277, 290] (by decide +kernel) (by decide +kernel)
set_option maxRecDepth 20000 in
theorem ggL_law_X9_mixed_p2 : GoodIn wsL_law (wsX9_mixed_r3) := goodIn_r _ [291, 292, 293, 278, 279, 280, 281] (by decide +kernel) (by decide +kernel)
set_option maxRecDepth 20000 in
theorem ggL_law_X9_mixed_t0 : GoodIn wsL_law (wsX00) := goodIn_r _ [582, 583, 584, 585, 586, 587, 588, 589, 590] (by decide +kernel) (by decide +kernel)
set_option maxRecDepth 20000 in
theorem ggL_law_X9_mixed_t1 : GoodIn wsL_law (wsX90) := goodIn_r _ [559, 560, 561] (by decide +kernel) (by decide +kernel)
set_option maxRecDepth 20000 in
theorem ggL_law_X9_mixed_t2 : GoodIn wsL_law (wsX30) := goodIn_r _ [562, 563, 564, 565] (by decide +kernel) (by decide +kernel)
set_option maxRecDepth 20000 in
theorem ggL_law_X9_mixed_t3 : GoodIn wsL_law (wsX80) := goodIn_r _ [579, 580, 581] (by decide +kernel) (by decide +kernel)
set_option maxRecDepth 20000 in
theorem ggL_law_X9_mixed_t4 : GoodIn wsL_law (wsX70) := goodIn_r _ [591, 592, 593] (by decide +kernel) (by decide +kernel)
set_option maxRecDepth 20000 in
theorem ggL_law_X9_mixed_t5 : GoodIn wsL_law (wsX40) := goodIn_r _ [594, 595] (by decide +kernel) (by decide +kernel)
theorem ggL_law_X9_mixed : GoodIn wsL_law wsX9_mixed := (goodIn_ca (goodIn_ca (goodIn_ca (goodIn_ca (goodIn_ca (goodIn_ca (goodIn_ca ggL_law_X9_mixed_p0 (goodIn_app ggL_law_X9_mixed_p1 ggL_law_X9_mixed_p2)) ggL_law_X9_mixed_t0) ggL_law_X9_mixed_t1) ggL_law_X9_mixed_t2) ggL_law_X9_mixed_t3) ggL_law_X9_mixed_t4) ggL_law_X9_mixed_t5)
set_option maxRecDepth 20000 in
theorem gL_law_X9_mixed : GoodIn wsL_law (wsV RL 110 RX9 yX9_mixed wsX9_mixed) := goodIn_app (goodIn_of _ (by decide +kernel)) ggL_law_X9_mixed
set_option maxRecDepth 20000 in
theorem ggL_law_L_weighs_p0 : GoodIn wsL_law (.code yL_weighs cL_weighs 10 (some .boolean) :: wsL_weighs_r1) := goodIn_r _ [530, 440, 441, 442, 2, 443, 148, 444, 445, 112, 113, 114, 115, 18, 105, 116, 415, 257, 258, 43, 259, 53, 153, 154, 172] (by decide +kernel) (by decide +kernel)
set_option maxRecDepth 20000 in
theorem ggL_law_L_weighs_p1 : GoodIn wsL_law (wsL_weighs_r2) := goodIn_r _ [144, 145, 146, 147, 149, 150, 151, 152, 125, 59, 155, 156, 157, 66, 158, 159, 160, 161, 162, 163, 164, 165, 166, 101] (by decide +kernel) (by decide +kernel)
set_option maxRecDepth 20000 in
theorem ggL_law_L_weighs_p2 : GoodIn wsL_law (wsL_weighs_r3) := goodIn_r _ [102, 103, 104, 106, 22, 107, 108, 109, 110, 34, 111, 47, 117, 118, 119, 120, 57, 121, 122, 123, 124, 62, 126, 127] (by decide +kernel) (by decide +kernel)
set_option maxRecDepth 20000 in
theorem ggL_law_L_weighs_p3 : GoodIn wsL_law (wsL_weighs_r4) := goodIn_r _ [128, 129, 130, 131, 132, 133, 134, 135, 136, 137, 138, 139, 140, 141, 142, 61, 143, 531, 532, 533, 534, 316, 317, 318] (by decide +kernel) (by decide +kernel)
set_option maxRecDepth 20000 in
theorem ggL_law_L_weighs_p4 : GoodIn wsL_law (wsL_weighs_r5) := goodIn_r _ [17, 319, 36, 35, 320, 321, 322, 323, 44, 45, 324, 325, 326, 327, 328, 329, 330, 64, 331, 75, 76, 332, 333, 334] (by decide +kernel) (by decide +kernel)
set_option maxRecDepth 20000 in
theorem ggL_law_L_weighs_p5 : GoodIn wsL_law (wsL_weighs_r6) := goodIn_r _ [335, 336, 223, 224, 25, 225, 210, 211, 212, 213, 214, 215, 216, 337, 338, 339, 56, 340, 70, 71, 341, 535, 536, 537] (by decide +kernel) (by decide +kernel)
set_option maxRecDepth 20000 in
theorem ggL_law_L_weighs_p6 : GoodIn wsL_law (wsL_weighs_r7) := goodIn_r _ [538, 347, 346, 490, 256, 424, 425, 426, 268, 180, 269, 427, 195, 196, 197, 198, 199, 200, 260, 261, 262, 263, 264, 265] (by decide +kernel) (by decide +kernel)
end
section
set_option maxRecDepth 20000 in
theorem ggL_law_L_weighs_p7 : GoodIn wsL_law (wsL_weighs_r8) := goodIn_r _ [266, 179, 181, 267, 270, 271, 272, 273, 274, 275, 276, 277, 278, 279, 280, 281, 282, 283, 284, 285, 286, 287, 288, 289] (by decide +kernel) (by decide +kernel)
set_option maxRecDepth 20000 in
theorem ggL_law_L_weighs_p8 : GoodIn wsL_law (wsL_weighs_r9) := goodIn_r _ [290, 291, 292, 293, 294, 295, 296, 297, 298, 299, 300, 301, 497, 498, 499, 500, 501, 539, 540, 541, 542, 348, 349, 350] (by decide +kernel) (by decide +kernel)
set_option maxRecDepth 20000 in
theorem ggL_law_L_weighs_p9 : GoodIn wsL_law (wsL_weighs_r10) := goodIn_r _ [351, 352, 353, 354, 355, 356, 357, 358, 359, 360, 32, 361, 362, 363, 364, 453, 454, 455, 456, 450, 414, 457, 458, 459] (by decide +kernel) (by decide +kernel)
set_option maxRecDepth 20000 in
theorem ggL_law_L_weighs_p10 : GoodIn wsL_law (wsL_weighs_r11) := goodIn_r _ [543, 544, 545, 546, 547] (by decide +kernel) (by decide +kernel)
set_option maxRecDepth 20000 in
theorem ggL_law_L_weighs_t0 : GoodIn wsL_law (wsX40) := goodIn_r _ [594, 595] (by decide +kernel) (by decide +kernel)
set_option maxRecDepth 20000 in
theorem ggL_law_L_weighs_t1 : GoodIn wsL_law (wsX90) := goodIn_r _ [559, 560, 561] (by decide +kernel) (by decide +kernel)
set_option maxRecDepth 20000 in
theorem ggL_law_L_weighs_t2 : GoodIn wsL_law (wsX30) := goodIn_r _ [562, 563, 564, 565] (by decide +kernel) (by decide +kernel)
set_option maxRecDepth 20000 in
theorem ggL_law_L_weighs_t3 : GoodIn wsL_law (wsX80) := goodIn_r _ [579, 580, 581] (by decide +kernel) (by decide +kernel)
set_option maxRecDepth 20000 in
theorem ggL_law_L_weighs_t4 : GoodIn wsL_law (wsX00) := goodIn_r _ [582, 583, 584, 585, 586, 587, 588, 589, 590] (by decide +kernel) (by decide +kernel)
set_option maxRecDepth 20000 in
theorem ggL_law_L_weighs_t5 : GoodIn wsL_law (wsX10) := goodIn_r _ [596, 597, 598, 599, 600, 601] (by decide +kernel) (by decide +kernel)
set_option maxRecDepth 20000 in
theorem ggL_law_L_weighs_t6 : GoodIn wsL_law (wsX60) := goodIn_r _ [566, 567, 568, 569, 570, 571] (by decide +kernel) (by decide +kernel)
set_option maxRecDepth 20000 in
theorem ggL_law_L_weighs_t7 : GoodIn wsL_law (wsX70) := goodIn_r _ [591, 592, 593] (by decide +kernel) (by decide +kernel)
set_option maxRecDepth 20000 in
theorem ggL_law_L_weighs_t8 : GoodIn wsL_law (wsX50) := goodIn_r _ [572, 573, 574, 575, 576, 577, 578] (by decide +kernel) (by decide +kernel)
theorem ggL_law_L_weighs : GoodIn wsL_law wsL_weighs := (goodIn_ca (goodIn_ca (goodIn_ca (goodIn_ca (goodIn_ca (goodIn_ca (goodIn_ca (goodIn_ca (goodIn_ca (goodIn_ca ggL_law_L_weighs_p0 (goodIn_app ggL_law_L_weighs_p1 (goodIn_app ggL_law_L_weighs_p2 (goodIn_app ggL_law_L_weighs_p3 (goodIn_app ggL_law_L_weighs_p4 (goodIn_app ggL_law_L_weighs_p5 (goodIn_app ggL_law_L_weighs_p6 (goodIn_app ggL_law_L_weighs_p7 (goodIn_app ggL_law_L_weighs_p8 (goodIn_app ggL_law_L_weighs_p9 ggL_law_L_weighs_p10)))))))))) ggL_law_L_weighs_t0) ggL_law_L_weighs_t1) ggL_law_L_weighs_t2) ggL_law_L_weighs_t3) ggL_law_L_weighs_t4) ggL_law_L_weighs_t5) ggL_law_L_weighs_t6) ggL_law_L_weighs_t7) ggL_law_L_weighs_t8)
set_option maxRecDepth 20000 in
theorem gL_law_L_weighs : GoodIn wsL_law (va_wsS RL 113 yL_weighs wsL_weighs) := goodIn_app (goodIn_of _ (by decide +kernel)) ggL_law_L_weighs
set_option maxRecDepth 20000 in
theorem ggL_law_L_reading_p0 : GoodIn wsL_law (.code yL_reading cL_reading 11 (some .boolean) :: wsL_reading_r1) := goodIn_r _ [550, 7, 101, 102, 103, 2, 104, 18, 105, 106, 22, 107, 108, 109, 110, 34, 111, 47, 112, 113, 114, 115, 116, 117, 118] (by decide +kernel) (by decide +kernel)
set_option maxRecDepth 20000 in
theorem ggL_law_L_reading_p1 : GoodIn wsL_law (wsL_reading_r2) := goodIn_r _ [119, 43, 120, 57, 121, 122, 123, 124, 62, 125, 126, 127, 128, 129, 130, 131, 132, 59, 133, 134, 135, 136, 137, 138] (by decide +kernel) (by decide +kernel)
set_option maxRecDepth 20000 in
theorem ggL_law_L_reading_p2 : GoodIn wsL_law (wsL_reading_r3) := goodIn_r _ [139, 140, 141, 142, 61, 143, 446, 447, 448, 449, 450, 148, 414, 451, 172, 153, 154, 452, 424, 425, 426, 268, 180, 269] (by decide +kernel) (by decide +kernel)
set_option maxRecDepth 20000 in
theorem ggL_law_L_reading_p3 : GoodIn wsL_law (wsL_reading_r4) := goodIn_r _ [427, 195, 196, 197, 198, 199, 200, 453, 454, 455, 456, 457, 415, 257, 258, 259, 53, 458, 271, 272, 56, 273, 71, 267] (by decide +kernel) (by decide +kernel)
set_option maxRecDepth 20000 in
theorem ggL_law_L_reading_p4 : GoodIn wsL_law (wsL_reading_r5) := goodIn_r _ [274, 275, 276, 64, 277, 75, 76, 278, 279, 280, 281, 70, 459, 283, 284, 285, 286, 287, 288, 289, 290, 291, 292, 293] (by decide +kernel) (by decide +kernel)
set_option maxRecDepth 20000 in
theorem ggL_law_L_reading_p5 : GoodIn wsL_law (wsL_reading_r6) := goodIn_r _ [294, 295, 296, 297, 543, 544, 545, 546, 547, 261, 262, 263, 264, 265, 266, 179, 181, 270, 282, 298, 299, 300, 301] (by decide +kernel) (by decide +kernel)
set_option maxRecDepth 20000 in
theorem ggL_law_L_reading_t0 : GoodIn wsL_law (wsX90) := goodIn_r _ [559, 560, 561] (by decide +kernel) (by decide +kernel)
set_option maxRecDepth 20000 in
theorem ggL_law_L_reading_t1 : GoodIn wsL_law (wsX30) := goodIn_r _ [562, 563, 564, 565] (by decide +kernel) (by decide +kernel)
set_option maxRecDepth 20000 in
theorem ggL_law_L_reading_t2 : GoodIn wsL_law (wsX60) := goodIn_r _ [566, 567, 568, 569, 570, 571] (by decide +kernel) (by decide +kernel)
set_option maxRecDepth 20000 in
theorem ggL_law_L_reading_t3 : GoodIn wsL_law (wsX80) := goodIn_r _ [579, 580, 581] (by decide +kernel) (by decide +kernel)
set_option maxRecDepth 20000 in
theorem ggL_law_L_reading_t4 : GoodIn wsL_law (wsX00) := goodIn_r _ [582, 583, 584, 585, 586, 587, 588, 589, 590] (by decide +kernel) (by decide +kernel)
set_option maxRecDepth 20000 in
theorem ggL_law_L_reading_t5 : GoodIn wsL_law (wsX70) := goodIn_r _ [591, 592, 593] (by decide +kernel) (by decide +kernel)
set_option maxRecDepth 20000 in
theorem ggL_law_L_reading_t6 : GoodIn wsL_law (wsX10) := goodIn_r _ [596, 597, 598, 599, 600, 601] (by decide +kernel) (by decide +kernel)
set_option maxRecDepth 20000 in
theorem ggL_law_L_reading_t7 : GoodIn wsL_law (wsX50) := goodIn_r _ [572, 573, 574, 575, 576, 577, 578] (by decide +kernel) (by decide +kernel)
set_option maxRecDepth 20000 in
theorem ggL_law_L_reading_t8 : GoodIn wsL_law (wsX40) := goodIn_r _ [594, 595] (by decide +kernel) (by decide +kernel)
theorem ggL_law_L_reading : GoodIn wsL_law wsL_reading := (goodIn_ca (goodIn_ca (goodIn_ca (goodIn_ca (goodIn_ca (goodIn_ca (goodIn_ca (goodIn_ca (goodIn_ca (goodIn_ca ggL_law_L_reading_p0 (goodIn_app ggL_law_L_reading_p1 (goodIn_app ggL_law_L_reading_p2 (goodIn_app ggL_law_L_reading_p3 (goodIn_app ggL_law_L_reading_p4 ggL_law_L_reading_p5))))) ggL_law_L_reading_t0) ggL_law_L_reading_t1) ggL_law_L_reading_t2) ggL_law_L_reading_t3) ggL_law_L_reading_t4) ggL_law_L_reading_t5) ggL_law_L_reading_t6) ggL_law_L_reading_t7) ggL_law_L_reading_t8)
set_option maxRecDepth 20000 in
theorem gL_law_L_reading : GoodIn wsL_law (va_wsS RL 116 yL_reading wsL_reading) := goodIn_app (goodIn_of _ (by decide +kernel)) ggL_law_L_reading
set_option maxRecDepth 20000 in
theorem ggL_law_X9_leave_p0 : GoodIn wsL_law (.code yX9_leave cX9_leave 2 (some .int) :: wsX9_leave_r1) := goodIn_r _ [554, 18, 316, 317, 318, 17, 319, 36, 35, 320, 321, 322, 34, 323, 44, 47, 45, 324, 325, 326, 43, 327, 53, 59, 61] (by decide +kernel) (by decide +kernel)
set_option maxRecDepth 20000 in
theorem ggL_law_X9_leave_p1 : GoodIn wsL_law (wsX9_leave_r2) := goodIn_r _ [57, 125, 126, 124, 62, 127, 328, 329, 330, 64, 331, 75, 76, 332, 333, 334, 66, 335, 160, 161, 163, 164, 165, 166] (by decide +kernel) (by decide +kernel)
set_option maxRecDepth 20000 in
theorem ggL_law_X9_leave_p2 : GoodIn wsL_law (wsX9_leave_r3) := goodIn_r _ [336, 223, 224, 25, 225, 210, 211, 212, 213, 214, 215, 216, 337, 338, 339, 56, 340, 70, 71, 341, 112, 113, 114, 2] (by decide +kernel) (by decide +kernel)
set_option maxRecDepth 20000 in
theorem ggL_law_X9_leave_p3 : GoodIn wsL_law (wsX9_leave_r4) := goodIn_r _ [115, 105, 116, 555, 556, 557, 558, 128, 138, 490, 150, 151, 152, 153, 154, 374, 375, 376, 377, 348, 349, 350, 351, 352] (by decide +kernel) (by decide +kernel)
set_option maxRecDepth 20000 in
theorem ggL_law_X9_leave_p4 : GoodIn wsL_law (wsX9_leave_r5) := goodIn_r _ [353, 148, 354, 355, 356, 357, 358, 359, 360, 32, 361, 362, 363, 364] (by decide +kernel) (by decide +kernel)
set_option maxRecDepth 20000 in
theorem ggL_law_X9_leave_t0 : GoodIn wsL_law (wsX90) := goodIn_r _ [559, 560, 561] (by decide +kernel) (by decide +kernel)
end
section
set_option maxRecDepth 20000 in
theorem ggL_law_X9_leave_t1 : GoodIn wsL_law (wsX30) := goodIn_r _ [562, 563, 564, 565] (by decide +kernel) (by decide +kernel)
set_option maxRecDepth 20000 in
theorem ggL_law_X9_leave_t2 : GoodIn wsL_law (wsX80) := goodIn_r _ [579, 580, 581] (by decide +kernel) (by decide +kernel)
set_option maxRecDepth 20000 in
theorem ggL_law_X9_leave_t3 : GoodIn wsL_law (wsX00) := goodIn_r _ [582, 583, 584, 585, 586, 587, 588, 589, 590] (by decide +kernel) (by decide +kernel)
set_option maxRecDepth 20000 in
theorem ggL_law_X9_leave_t4 : GoodIn wsL_law (wsX40) := goodIn_r _ [594, 595] (by decide +kernel) (by decide +kernel)
set_option maxRecDepth 20000 in
theorem ggL_law_X9_leave_t5 : GoodIn wsL_law (wsX10) := goodIn_r _ [596, 597, 598, 599, 600, 601] (by decide +kernel) (by decide +kernel)
set_option maxRecDepth 20000 in
theorem ggL_law_X9_leave_t6 : GoodIn wsL_law (wsX50) := goodIn_r _ [572, 573, 574, 575, 576, 577, 578] (by decide +kernel) (by decide +kernel)
set_option maxRecDepth 20000 in
theorem ggL_law_X9_leave_t7 : GoodIn wsL_law (wsX70) := goodIn_r _ [591, 592, 593] (by decide +kernel) (by decide +kernel)
theorem ggL_law_X9_leave : GoodIn wsL_law wsX9_leave := (goodIn_ca (goodIn_ca (goodIn_ca (goodIn_ca (goodIn_ca (goodIn_ca (goodIn_ca (goodIn_ca (goodIn_ca ggL_law_X9_leave_p0 (goodIn_app ggL_law_X9_leave_p1 (goodIn_app ggL_law_X9_leave_p2 (goodIn_app ggL_law_X9_leave_p3 ggL_law_X9_leave_p4)))) ggL_law_X9_leave_t0) ggL_law_X9_leave_t1) ggL_law_X9_leave_t2) ggL_law_X9_leave_t3) ggL_law_X9_leave_t4) ggL_law_X9_leave_t5) ggL_law_X9_leave_t6) ggL_law_X9_leave_t7)
set_option maxRecDepth 20000 in
theorem gL_law_X9_leave : GoodIn wsL_law (wsV RL 119 RX9 yX9_leave wsX9_leave) := goodIn_app (goodIn_of _ (by decide +kernel)) ggL_law_X9_leave
set_option maxRecDepth 20000 in
theorem ggL_law_X9_undo : GoodIn wsL_law wsX9_undo := goodIn_r _ [463, 18, 464, 465, 466, 17, 467, 360, 468, 35, 32, 153, 2, 154, 559, 560, 561, 562, 563, 564, 565] (by decide +kernel) (by decide +kernel)
set_option maxRecDepth 20000 in
theorem gL_law_X9_undo : GoodIn wsL_law (wsV RL 59 RX9 yX9_undo wsX9_undo) := goodIn_app (goodIn_of _ (by decide +kernel)) ggL_law_X9_undo
theorem dL_law_0 : decode cL_law 0 = .ok (.new 10, 3) := by decide +kernel
theorem dL_law_3 : decode cL_law 3 = .ok (.dup, 1) := by decide +kernel
theorem dL_law_4 : decode cL_law 4 = .ok (.invokespecial 70, 3) := by decide +kernel
theorem dL_law_7 : decode cL_law 7 = .ok (.astore_n 1, 1) := by decide +kernel
theorem dL_law_8 : decode cL_law 8 = .ok (.aload_n 1, 1) := by decide +kernel
theorem dL_law_9 : decode cL_law 9 = .ok (.invokestatic 71, 3) := by decide +kernel
theorem dL_law_12 : decode cL_law 12 = .ok (.istore_n 2, 1) := by decide +kernel
theorem dL_law_13 : decode cL_law 13 = .ok (.iconst 0, 1) := by decide +kernel
theorem dL_law_14 : decode cL_law 14 = .ok (.istore_n 3, 1) := by decide +kernel
theorem dL_law_15 : decode cL_law 15 = .ok (.iload_n 3, 1) := by decide +kernel
theorem dL_law_16 : decode cL_law 16 = .ok (.iconst 4, 1) := by decide +kernel
theorem dL_law_17 : decode cL_law 17 = .ok (.if_icmp .ge 126, 3) := by decide +kernel
theorem dL_law_20 : decode cL_law 20 = .ok (.iload_n 2, 1) := by decide +kernel
theorem dL_law_21 : decode cL_law 21 = .ok (.ifCond .eq 122, 3) := by decide +kernel
theorem dL_law_24 : decode cL_law 24 = .ok (.aload_n 0, 1) := by decide +kernel
theorem dL_law_25 : decode cL_law 25 = .ok (.iload_n 3, 1) := by decide +kernel
theorem dL_law_26 : decode cL_law 26 = .ok (.invokestatic 77, 3) := by decide +kernel
theorem dL_law_29 : decode cL_law 29 = .ok (.istore 4, 2) := by decide +kernel
theorem dL_law_31 : decode cL_law 31 = .ok (.aload_n 1, 1) := by decide +kernel
theorem dL_law_32 : decode cL_law 32 = .ok (.iload_n 3, 1) := by decide +kernel
theorem dL_law_33 : decode cL_law 33 = .ok (.bipush 100, 2) := by decide +kernel
theorem dL_law_35 : decode cL_law 35 = .ok (.iload 4, 2) := by decide +kernel
theorem dL_law_37 : decode cL_law 37 = .ok (.sipush 1500, 3) := by decide +kernel
theorem dL_law_40 : decode cL_law 40 = .ok (.irem, 1) := by decide +kernel
theorem dL_law_41 : decode cL_law 41 = .ok (.iadd, 1) := by decide +kernel
theorem dL_law_42 : decode cL_law 42 = .ok (.iload 4, 2) := by decide +kernel
theorem dL_law_44 : decode cL_law 44 = .ok (.sipush 2048, 3) := by decide +kernel
theorem dL_law_47 : decode cL_law 47 = .ok (.idiv, 1) := by decide +kernel
theorem dL_law_48 : decode cL_law 48 = .ok (.bipush 51, 2) := by decide +kernel
theorem dL_law_50 : decode cL_law 50 = .ok (.irem, 1) := by decide +kernel
theorem dL_law_51 : decode cL_law 51 = .ok (.invokevirtual 81, 3) := by decide +kernel
theorem dL_law_54 : decode cL_law 54 = .ok (.sipush 1000, 3) := by decide +kernel
theorem dL_law_57 : decode cL_law 57 = .ok (.if_icmp .ne 78, 3) := by decide +kernel
theorem dL_law_60 : decode cL_law 60 = .ok (.aload_n 1, 1) := by decide +kernel
theorem dL_law_61 : decode cL_law 61 = .ok (.iload 4, 2) := by decide +kernel
theorem dL_law_63 : decode cL_law 63 = .ok (.sipush 5000, 3) := by decide +kernel
theorem dL_law_66 : decode cL_law 66 = .ok (.irem, 1) := by decide +kernel
theorem dL_law_67 : decode cL_law 67 = .ok (.invokevirtual 84, 3) := by decide +kernel
theorem dL_law_70 : decode cL_law 70 = .ok (.iload_n 3, 1) := by decide +kernel
theorem dL_law_71 : decode cL_law 71 = .ok (.if_icmp .ne 64, 3) := by decide +kernel
theorem dL_law_74 : decode cL_law 74 = .ok (.aload_n 1, 1) := by decide +kernel
theorem dL_law_75 : decode cL_law 75 = .ok (.iconst 1, 1) := by decide +kernel
theorem dL_law_76 : decode cL_law 76 = .ok (.iload 4, 2) := by decide +kernel
theorem dL_law_78 : decode cL_law 78 = .ok (.bipush 90, 2) := by decide +kernel
theorem dL_law_80 : decode cL_law 80 = .ok (.irem, 1) := by decide +kernel
theorem dL_law_81 : decode cL_law 81 = .ok (.iadd, 1) := by decide +kernel
theorem dL_law_82 : decode cL_law 82 = .ok (.iconst 1, 1) := by decide +kernel
theorem dL_law_83 : decode cL_law 83 = .ok (.iload 4, 2) := by decide +kernel
theorem dL_law_85 : decode cL_law 85 = .ok (.sipush 128, 3) := by decide +kernel
theorem dL_law_88 : decode cL_law 88 = .ok (.idiv, 1) := by decide +kernel
theorem dL_law_89 : decode cL_law 89 = .ok (.sipush 500, 3) := by decide +kernel
theorem dL_law_92 : decode cL_law 92 = .ok (.irem, 1) := by decide +kernel
theorem dL_law_93 : decode cL_law 93 = .ok (.iadd, 1) := by decide +kernel
theorem dL_law_94 : decode cL_law 94 = .ok (.iload 4, 2) := by decide +kernel
theorem dL_law_96 : decode cL_law 96 = .ok (.ldc 87, 2) := by decide +kernel
theorem dL_law_98 : decode cL_law 98 = .ok (.idiv, 1) := by decide +kernel
theorem dL_law_99 : decode cL_law 99 = .ok (.bipush 60, 2) := by decide +kernel
theorem dL_law_101 : decode cL_law 101 = .ok (.irem, 1) := by decide +kernel
theorem dL_law_102 : decode cL_law 102 = .ok (.iconst 1, 1) := by decide +kernel
theorem dL_law_103 : decode cL_law 103 = .ok (.iload 4, 2) := by decide +kernel
theorem dL_law_105 : decode cL_law 105 = .ok (.bipush 64, 2) := by decide +kernel
theorem dL_law_107 : decode cL_law 107 = .ok (.idiv, 1) := by decide +kernel
theorem dL_law_108 : decode cL_law 108 = .ok (.sipush 3000, 3) := by decide +kernel
theorem dL_law_111 : decode cL_law 111 = .ok (.irem, 1) := by decide +kernel
theorem dL_law_112 : decode cL_law 112 = .ok (.iadd, 1) := by decide +kernel
theorem dL_law_113 : decode cL_law 113 = .ok (.iconst 1, 1) := by decide +kernel
theorem dL_law_114 : decode cL_law 114 = .ok (.iload 4, 2) := by decide +kernel
theorem dL_law_116 : decode cL_law 116 = .ok (.bipush 16, 2) := by decide +kernel
theorem dL_law_118 : decode cL_law 118 = .ok (.idiv, 1) := by decide +kernel
theorem dL_law_119 : decode cL_law 119 = .ok (.sipush 5000, 3) := by decide +kernel
theorem dL_law_122 : decode cL_law 122 = .ok (.irem, 1) := by decide +kernel
theorem dL_law_123 : decode cL_law 123 = .ok (.iadd, 1) := by decide +kernel
theorem dL_law_124 : decode cL_law 124 = .ok (.invokevirtual 88, 3) := by decide +kernel
theorem dL_law_127 : decode cL_law 127 = .ok (.iload_n 3, 1) := by decide +kernel
theorem dL_law_128 : decode cL_law 128 = .ok (.if_icmp .ne 7, 3) := by decide +kernel
theorem dL_law_131 : decode cL_law 131 = .ok (.iconst 1, 1) := by decide +kernel
theorem dL_law_132 : decode cL_law 132 = .ok (.goto 4, 3) := by decide +kernel
theorem dL_law_135 : decode cL_law 135 = .ok (.iconst 0, 1) := by decide +kernel
theorem dL_law_136 : decode cL_law 136 = .ok (.istore_n 2, 1) := by decide +kernel
theorem dL_law_137 : decode cL_law 137 = .ok (.iinc 3 1, 3) := by decide +kernel
theorem dL_law_140 : decode cL_law 140 = .ok (.goto (-125), 3) := by decide +kernel
end
section
theorem dL_law_143 : decode cL_law 143 = .ok (.iload_n 2, 1) := by decide +kernel
theorem dL_law_144 : decode cL_law 144 = .ok (.ifCond .eq 41, 3) := by decide +kernel
theorem dL_law_147 : decode cL_law 147 = .ok (.aload_n 1, 1) := by decide +kernel
theorem dL_law_148 : decode cL_law 148 = .ok (.iconst 1, 1) := by decide +kernel
theorem dL_law_149 : decode cL_law 149 = .ok (.aload_n 0, 1) := by decide +kernel
theorem dL_law_150 : decode cL_law 150 = .ok (.iconst 4, 1) := by decide +kernel
theorem dL_law_151 : decode cL_law 151 = .ok (.invokestatic 77, 3) := by decide +kernel
theorem dL_law_154 : decode cL_law 154 = .ok (.sipush 600, 3) := by decide +kernel
theorem dL_law_157 : decode cL_law 157 = .ok (.irem, 1) := by decide +kernel
theorem dL_law_158 : decode cL_law 158 = .ok (.iadd, 1) := by decide +kernel
theorem dL_law_159 : decode cL_law 159 = .ok (.aload_n 0, 1) := by decide +kernel
theorem dL_law_160 : decode cL_law 160 = .ok (.iconst 5, 1) := by decide +kernel
theorem dL_law_161 : decode cL_law 161 = .ok (.invokestatic 77, 3) := by decide +kernel
theorem dL_law_164 : decode cL_law 164 = .ok (.sipush 400, 3) := by decide +kernel
theorem dL_law_167 : decode cL_law 167 = .ok (.irem, 1) := by decide +kernel
theorem dL_law_168 : decode cL_law 168 = .ok (.invokevirtual 56, 3) := by decide +kernel
theorem dL_law_171 : decode cL_law 171 = .ok (.ifCond .ne 14, 3) := by decide +kernel
theorem dL_law_174 : decode cL_law 174 = .ok (.aload_n 1, 1) := by decide +kernel
theorem dL_law_175 : decode cL_law 175 = .ok (.invokestatic 71, 3) := by decide +kernel
theorem dL_law_178 : decode cL_law 178 = .ok (.ifCond .eq 7, 3) := by decide +kernel
theorem dL_law_181 : decode cL_law 181 = .ok (.iconst 1, 1) := by decide +kernel
theorem dL_law_182 : decode cL_law 182 = .ok (.goto 4, 3) := by decide +kernel
theorem dL_law_185 : decode cL_law 185 = .ok (.iconst 0, 1) := by decide +kernel
theorem dL_law_186 : decode cL_law 186 = .ok (.istore_n 2, 1) := by decide +kernel
theorem dL_law_187 : decode cL_law 187 = .ok (.iconst 0, 1) := by decide +kernel
theorem dL_law_188 : decode cL_law 188 = .ok (.istore_n 3, 1) := by decide +kernel
theorem dL_law_189 : decode cL_law 189 = .ok (.iload_n 3, 1) := by decide +kernel
theorem dL_law_190 : decode cL_law 190 = .ok (.bipush 24, 2) := by decide +kernel
theorem dL_law_192 : decode cL_law 192 = .ok (.if_icmp .ge 465, 3) := by decide +kernel
theorem dL_law_195 : decode cL_law 195 = .ok (.iload_n 2, 1) := by decide +kernel
theorem dL_law_196 : decode cL_law 196 = .ok (.ifCond .eq 461, 3) := by decide +kernel
theorem dL_law_199 : decode cL_law 199 = .ok (.aload_n 0, 1) := by decide +kernel
theorem dL_law_200 : decode cL_law 200 = .ok (.bipush 6, 2) := by decide +kernel
theorem dL_law_202 : decode cL_law 202 = .ok (.iload_n 3, 1) := by decide +kernel
theorem dL_law_203 : decode cL_law 203 = .ok (.iadd, 1) := by decide +kernel
theorem dL_law_204 : decode cL_law 204 = .ok (.invokestatic 77, 3) := by decide +kernel
theorem dL_law_207 : decode cL_law 207 = .ok (.istore 4, 2) := by decide +kernel
theorem dL_law_209 : decode cL_law 209 = .ok (.iload 4, 2) := by decide +kernel
theorem dL_law_211 : decode cL_law 211 = .ok (.bipush 8, 2) := by decide +kernel
theorem dL_law_213 : decode cL_law 213 = .ok (.idiv, 1) := by decide +kernel
theorem dL_law_214 : decode cL_law 214 = .ok (.istore 5, 2) := by decide +kernel
theorem dL_law_216 : decode cL_law 216 = .ok (.iload 5, 2) := by decide +kernel
theorem dL_law_218 : decode cL_law 218 = .ok (.aload_n 1, 1) := by decide +kernel
theorem dL_law_219 : decode cL_law 219 = .ok (.iconst 5, 1) := by decide +kernel
theorem dL_law_220 : decode cL_law 220 = .ok (.invokevirtual 9, 3) := by decide +kernel
theorem dL_law_223 : decode cL_law 223 = .ok (.irem, 1) := by decide +kernel
theorem dL_law_224 : decode cL_law 224 = .ok (.istore 6, 2) := by decide +kernel
theorem dL_law_226 : decode cL_law 226 = .ok (.iload 4, 2) := by decide +kernel
theorem dL_law_228 : decode cL_law 228 = .ok (.bipush 8, 2) := by decide +kernel
theorem dL_law_230 : decode cL_law 230 = .ok (.irem, 1) := by decide +kernel
theorem dL_law_231 : decode cL_law 231 = .ok (.tableswitch 352 0 5 #[37, 69, 85, 143, 158, 260], 37) := by decide +kernel
theorem dL_law_268 : decode cL_law 268 = .ok (.aload_n 1, 1) := by decide +kernel
theorem dL_law_269 : decode cL_law 269 = .ok (.iload 5, 2) := by decide +kernel
theorem dL_law_271 : decode cL_law 271 = .ok (.iconst 4, 1) := by decide +kernel
theorem dL_law_272 : decode cL_law 272 = .ok (.irem, 1) := by decide +kernel
theorem dL_law_273 : decode cL_law 273 = .ok (.invokevirtual 92, 3) := by decide +kernel
theorem dL_law_276 : decode cL_law 276 = .ok (.ifCond .lt 19, 3) := by decide +kernel
theorem dL_law_279 : decode cL_law 279 = .ok (.aload_n 1, 1) := by decide +kernel
theorem dL_law_280 : decode cL_law 280 = .ok (.iconst 3, 1) := by decide +kernel
theorem dL_law_281 : decode cL_law 281 = .ok (.invokevirtual 9, 3) := by decide +kernel
theorem dL_law_284 : decode cL_law 284 = .ok (.iload 5, 2) := by decide +kernel
theorem dL_law_286 : decode cL_law 286 = .ok (.iconst 4, 1) := by decide +kernel
theorem dL_law_287 : decode cL_law 287 = .ok (.irem, 1) := by decide +kernel
theorem dL_law_288 : decode cL_law 288 = .ok (.if_icmp .ne 7, 3) := by decide +kernel
theorem dL_law_291 : decode cL_law 291 = .ok (.iconst 1, 1) := by decide +kernel
theorem dL_law_292 : decode cL_law 292 = .ok (.goto 4, 3) := by decide +kernel
theorem dL_law_295 : decode cL_law 295 = .ok (.iconst 0, 1) := by decide +kernel
theorem dL_law_296 : decode cL_law 296 = .ok (.istore_n 2, 1) := by decide +kernel
theorem dL_law_297 : decode cL_law 297 = .ok (.goto 298, 3) := by decide +kernel
theorem dL_law_300 : decode cL_law 300 = .ok (.aload_n 1, 1) := by decide +kernel
theorem dL_law_301 : decode cL_law 301 = .ok (.iload 5, 2) := by decide +kernel
theorem dL_law_303 : decode cL_law 303 = .ok (.iconst 4, 1) := by decide +kernel
theorem dL_law_304 : decode cL_law 304 = .ok (.irem, 1) := by decide +kernel
theorem dL_law_305 : decode cL_law 305 = .ok (.iload 5, 2) := by decide +kernel
theorem dL_law_307 : decode cL_law 307 = .ok (.iconst 4, 1) := by decide +kernel
theorem dL_law_308 : decode cL_law 308 = .ok (.idiv, 1) := by decide +kernel
theorem dL_law_309 : decode cL_law 309 = .ok (.invokestatic 95, 3) := by decide +kernel
theorem dL_law_312 : decode cL_law 312 = .ok (.istore_n 2, 1) := by decide +kernel
theorem dL_law_313 : decode cL_law 313 = .ok (.goto 282, 3) := by decide +kernel
theorem dL_law_316 : decode cL_law 316 = .ok (.aload_n 1, 1) := by decide +kernel
theorem dL_law_317 : decode cL_law 317 = .ok (.iconst 1, 1) := by decide +kernel
theorem dL_law_318 : decode cL_law 318 = .ok (.invokevirtual 9, 3) := by decide +kernel
theorem dL_law_321 : decode cL_law 321 = .ok (.istore 7, 2) := by decide +kernel
theorem dL_law_323 : decode cL_law 323 = .ok (.aload_n 1, 1) := by decide +kernel
theorem dL_law_324 : decode cL_law 324 = .ok (.iload 5, 2) := by decide +kernel
theorem dL_law_326 : decode cL_law 326 = .ok (.iconst 2, 1) := by decide +kernel
theorem dL_law_327 : decode cL_law 327 = .ok (.iload 7, 2) := by decide +kernel
theorem dL_law_329 : decode cL_law 329 = .ok (.imul, 1) := by decide +kernel
theorem dL_law_330 : decode cL_law 330 = .ok (.iconst 1, 1) := by decide +kernel
theorem dL_law_331 : decode cL_law 331 = .ok (.iadd, 1) := by decide +kernel
theorem dL_law_332 : decode cL_law 332 = .ok (.irem, 1) := by decide +kernel
theorem dL_law_333 : decode cL_law 333 = .ok (.iload 7, 2) := by decide +kernel
theorem dL_law_335 : decode cL_law 335 = .ok (.isub, 1) := by decide +kernel
theorem dL_law_336 : decode cL_law 336 = .ok (.invokevirtual 99, 3) := by decide +kernel
theorem dL_law_339 : decode cL_law 339 = .ok (.iload 7, 2) := by decide +kernel
theorem dL_law_341 : decode cL_law 341 = .ok (.ineg, 1) := by decide +kernel
theorem dL_law_342 : decode cL_law 342 = .ok (.if_icmp .lt 27, 3) := by decide +kernel
theorem dL_law_345 : decode cL_law 345 = .ok (.aload_n 1, 1) := by decide +kernel
theorem dL_law_346 : decode cL_law 346 = .ok (.iconst 2, 1) := by decide +kernel
theorem dL_law_347 : decode cL_law 347 = .ok (.invokevirtual 9, 3) := by decide +kernel
theorem dL_law_350 : decode cL_law 350 = .ok (.iload 5, 2) := by decide +kernel
theorem dL_law_352 : decode cL_law 352 = .ok (.iconst 2, 1) := by decide +kernel
theorem dL_law_353 : decode cL_law 353 = .ok (.iload 7, 2) := by decide +kernel
theorem dL_law_355 : decode cL_law 355 = .ok (.imul, 1) := by decide +kernel
theorem dL_law_356 : decode cL_law 356 = .ok (.iconst 1, 1) := by decide +kernel
theorem dL_law_357 : decode cL_law 357 = .ok (.iadd, 1) := by decide +kernel
theorem dL_law_358 : decode cL_law 358 = .ok (.irem, 1) := by decide +kernel
theorem dL_law_359 : decode cL_law 359 = .ok (.iload 7, 2) := by decide +kernel
theorem dL_law_361 : decode cL_law 361 = .ok (.isub, 1) := by decide +kernel
theorem dL_law_362 : decode cL_law 362 = .ok (.if_icmp .ne 7, 3) := by decide +kernel
end
section
theorem dL_law_365 : decode cL_law 365 = .ok (.iconst 1, 1) := by decide +kernel
theorem dL_law_366 : decode cL_law 366 = .ok (.goto 4, 3) := by decide +kernel
theorem dL_law_369 : decode cL_law 369 = .ok (.iconst 0, 1) := by decide +kernel
theorem dL_law_370 : decode cL_law 370 = .ok (.istore_n 2, 1) := by decide +kernel
theorem dL_law_371 : decode cL_law 371 = .ok (.goto 224, 3) := by decide +kernel
theorem dL_law_374 : decode cL_law 374 = .ok (.aload_n 1, 1) := by decide +kernel
theorem dL_law_375 : decode cL_law 375 = .ok (.iload 6, 2) := by decide +kernel
theorem dL_law_377 : decode cL_law 377 = .ok (.iload 5, 2) := by decide +kernel
theorem dL_law_379 : decode cL_law 379 = .ok (.bipush 8, 2) := by decide +kernel
theorem dL_law_381 : decode cL_law 381 = .ok (.idiv, 1) := by decide +kernel
theorem dL_law_382 : decode cL_law 382 = .ok (.invokestatic 102, 3) := by decide +kernel
theorem dL_law_385 : decode cL_law 385 = .ok (.istore_n 2, 1) := by decide +kernel
theorem dL_law_386 : decode cL_law 386 = .ok (.goto 209, 3) := by decide +kernel
theorem dL_law_389 : decode cL_law 389 = .ok (.iload 5, 2) := by decide +kernel
theorem dL_law_391 : decode cL_law 391 = .ok (.bipush 8, 2) := by decide +kernel
theorem dL_law_393 : decode cL_law 393 = .ok (.idiv, 1) := by decide +kernel
theorem dL_law_394 : decode cL_law 394 = .ok (.aload_n 1, 1) := by decide +kernel
theorem dL_law_395 : decode cL_law 395 = .ok (.bipush 6, 2) := by decide +kernel
theorem dL_law_397 : decode cL_law 397 = .ok (.invokevirtual 9, 3) := by decide +kernel
theorem dL_law_400 : decode cL_law 400 = .ok (.irem, 1) := by decide +kernel
theorem dL_law_401 : decode cL_law 401 = .ok (.istore 8, 2) := by decide +kernel
theorem dL_law_403 : decode cL_law 403 = .ok (.aload_n 1, 1) := by decide +kernel
theorem dL_law_404 : decode cL_law 404 = .ok (.iload 6, 2) := by decide +kernel
theorem dL_law_406 : decode cL_law 406 = .ok (.iconst 0, 1) := by decide +kernel
theorem dL_law_407 : decode cL_law 407 = .ok (.invokevirtual 26, 3) := by decide +kernel
theorem dL_law_410 : decode cL_law 410 = .ok (.istore 9, 2) := by decide +kernel
theorem dL_law_412 : decode cL_law 412 = .ok (.aload_n 1, 1) := by decide +kernel
theorem dL_law_413 : decode cL_law 413 = .ok (.iload 6, 2) := by decide +kernel
theorem dL_law_415 : decode cL_law 415 = .ok (.iload 8, 2) := by decide +kernel
theorem dL_law_417 : decode cL_law 417 = .ok (.iconst 1, 1) := by decide +kernel
theorem dL_law_418 : decode cL_law 418 = .ok (.iload 5, 2) := by decide +kernel
theorem dL_law_420 : decode cL_law 420 = .ok (.bipush 64, 2) := by decide +kernel
theorem dL_law_422 : decode cL_law 422 = .ok (.idiv, 1) := by decide +kernel
theorem dL_law_423 : decode cL_law 423 = .ok (.iconst 5, 1) := by decide +kernel
theorem dL_law_424 : decode cL_law 424 = .ok (.irem, 1) := by decide +kernel
theorem dL_law_425 : decode cL_law 425 = .ok (.iadd, 1) := by decide +kernel
theorem dL_law_426 : decode cL_law 426 = .ok (.invokevirtual 105, 3) := by decide +kernel
theorem dL_law_429 : decode cL_law 429 = .ok (.istore 10, 2) := by decide +kernel
theorem dL_law_431 : decode cL_law 431 = .ok (.iload 10, 2) := by decide +kernel
theorem dL_law_433 : decode cL_law 433 = .ok (.ldc 69, 2) := by decide +kernel
theorem dL_law_435 : decode cL_law 435 = .ok (.if_icmp .eq 47, 3) := by decide +kernel
theorem dL_law_438 : decode cL_law 438 = .ok (.iload 10, 2) := by decide +kernel
theorem dL_law_440 : decode cL_law 440 = .ok (.ldc 108, 2) := by decide +kernel
theorem dL_law_442 : decode cL_law 442 = .ok (.if_icmp .eq 40, 3) := by decide +kernel
theorem dL_law_445 : decode cL_law 445 = .ok (.iload 10, 2) := by decide +kernel
theorem dL_law_447 : decode cL_law 447 = .ok (.iload 9, 2) := by decide +kernel
theorem dL_law_449 : decode cL_law 449 = .ok (.iconst 1, 1) := by decide +kernel
theorem dL_law_450 : decode cL_law 450 = .ok (.iload 5, 2) := by decide +kernel
theorem dL_law_452 : decode cL_law 452 = .ok (.bipush 64, 2) := by decide +kernel
theorem dL_law_454 : decode cL_law 454 = .ok (.idiv, 1) := by decide +kernel
theorem dL_law_455 : decode cL_law 455 = .ok (.iconst 5, 1) := by decide +kernel
theorem dL_law_456 : decode cL_law 456 = .ok (.irem, 1) := by decide +kernel
theorem dL_law_457 : decode cL_law 457 = .ok (.iadd, 1) := by decide +kernel
theorem dL_law_458 : decode cL_law 458 = .ok (.aload_n 1, 1) := by decide +kernel
theorem dL_law_459 : decode cL_law 459 = .ok (.iload 8, 2) := by decide +kernel
theorem dL_law_461 : decode cL_law 461 = .ok (.iconst 0, 1) := by decide +kernel
theorem dL_law_462 : decode cL_law 462 = .ok (.invokevirtual 33, 3) := by decide +kernel
theorem dL_law_465 : decode cL_law 465 = .ok (.imul, 1) := by decide +kernel
theorem dL_law_466 : decode cL_law 466 = .ok (.isub, 1) := by decide +kernel
theorem dL_law_467 : decode cL_law 467 = .ok (.if_icmp .ne 19, 3) := by decide +kernel
theorem dL_law_470 : decode cL_law 470 = .ok (.iload 10, 2) := by decide +kernel
theorem dL_law_472 : decode cL_law 472 = .ok (.aload_n 1, 1) := by decide +kernel
theorem dL_law_473 : decode cL_law 473 = .ok (.iload 6, 2) := by decide +kernel
theorem dL_law_475 : decode cL_law 475 = .ok (.iconst 0, 1) := by decide +kernel
theorem dL_law_476 : decode cL_law 476 = .ok (.invokevirtual 26, 3) := by decide +kernel
theorem dL_law_479 : decode cL_law 479 = .ok (.if_icmp .ne 7, 3) := by decide +kernel
theorem dL_law_482 : decode cL_law 482 = .ok (.iconst 1, 1) := by decide +kernel
theorem dL_law_483 : decode cL_law 483 = .ok (.goto 4, 3) := by decide +kernel
theorem dL_law_486 : decode cL_law 486 = .ok (.iconst 0, 1) := by decide +kernel
theorem dL_law_487 : decode cL_law 487 = .ok (.istore_n 2, 1) := by decide +kernel
theorem dL_law_488 : decode cL_law 488 = .ok (.goto 107, 3) := by decide +kernel
theorem dL_law_491 : decode cL_law 491 = .ok (.aload_n 1, 1) := by decide +kernel
theorem dL_law_492 : decode cL_law 492 = .ok (.iconst 0, 1) := by decide +kernel
theorem dL_law_493 : decode cL_law 493 = .ok (.iconst 1, 1) := by decide +kernel
theorem dL_law_494 : decode cL_law 494 = .ok (.aload_n 1, 1) := by decide +kernel
theorem dL_law_495 : decode cL_law 495 = .ok (.iload 5, 2) := by decide +kernel
theorem dL_law_497 : decode cL_law 497 = .ok (.ldc 109, 2) := by decide +kernel
theorem dL_law_499 : decode cL_law 499 = .ok (.irem, 1) := by decide +kernel
theorem dL_law_500 : decode cL_law 500 = .ok (.invokevirtual 15, 3) := by decide +kernel
theorem dL_law_503 : decode cL_law 503 = .ok (.iconst 0, 1) := by decide +kernel
theorem dL_law_504 : decode cL_law 504 = .ok (.invokevirtual 110, 3) := by decide +kernel
theorem dL_law_507 : decode cL_law 507 = .ok (.ifCond .ne 32, 3) := by decide +kernel
theorem dL_law_510 : decode cL_law 510 = .ok (.aload_n 1, 1) := by decide +kernel
theorem dL_law_511 : decode cL_law 511 = .ok (.iconst 0, 1) := by decide +kernel
theorem dL_law_512 : decode cL_law 512 = .ok (.iconst 1, 1) := by decide +kernel
theorem dL_law_513 : decode cL_law 513 = .ok (.aload_n 1, 1) := by decide +kernel
theorem dL_law_514 : decode cL_law 514 = .ok (.iload 5, 2) := by decide +kernel
theorem dL_law_516 : decode cL_law 516 = .ok (.ldc 109, 2) := by decide +kernel
theorem dL_law_518 : decode cL_law 518 = .ok (.irem, 1) := by decide +kernel
theorem dL_law_519 : decode cL_law 519 = .ok (.invokevirtual 15, 3) := by decide +kernel
theorem dL_law_522 : decode cL_law 522 = .ok (.iconst 1, 1) := by decide +kernel
theorem dL_law_523 : decode cL_law 523 = .ok (.invokevirtual 110, 3) := by decide +kernel
theorem dL_law_526 : decode cL_law 526 = .ok (.ldc 22, 2) := by decide +kernel
theorem dL_law_528 : decode cL_law 528 = .ok (.if_icmp .ne 7, 3) := by decide +kernel
theorem dL_law_531 : decode cL_law 531 = .ok (.iconst 1, 1) := by decide +kernel
theorem dL_law_532 : decode cL_law 532 = .ok (.goto 47, 3) := by decide +kernel
theorem dL_law_535 : decode cL_law 535 = .ok (.iconst 0, 1) := by decide +kernel
theorem dL_law_536 : decode cL_law 536 = .ok (.goto 43, 3) := by decide +kernel
theorem dL_law_539 : decode cL_law 539 = .ok (.aload_n 1, 1) := by decide +kernel
theorem dL_law_540 : decode cL_law 540 = .ok (.iconst 0, 1) := by decide +kernel
theorem dL_law_541 : decode cL_law 541 = .ok (.iconst 1, 1) := by decide +kernel
theorem dL_law_542 : decode cL_law 542 = .ok (.aload_n 1, 1) := by decide +kernel
theorem dL_law_543 : decode cL_law 543 = .ok (.iload 5, 2) := by decide +kernel
theorem dL_law_545 : decode cL_law 545 = .ok (.ldc 109, 2) := by decide +kernel
theorem dL_law_547 : decode cL_law 547 = .ok (.irem, 1) := by decide +kernel
theorem dL_law_548 : decode cL_law 548 = .ok (.invokevirtual 15, 3) := by decide +kernel
theorem dL_law_551 : decode cL_law 551 = .ok (.iconst 1, 1) := by decide +kernel
theorem dL_law_552 : decode cL_law 552 = .ok (.invokevirtual 110, 3) := by decide +kernel
theorem dL_law_555 : decode cL_law 555 = .ok (.aload_n 1, 1) := by decide +kernel
theorem dL_law_556 : decode cL_law 556 = .ok (.iconst 0, 1) := by decide +kernel
end
section
theorem dL_law_557 : decode cL_law 557 = .ok (.iconst 1, 1) := by decide +kernel
theorem dL_law_558 : decode cL_law 558 = .ok (.aload_n 1, 1) := by decide +kernel
theorem dL_law_559 : decode cL_law 559 = .ok (.iload 5, 2) := by decide +kernel
theorem dL_law_561 : decode cL_law 561 = .ok (.ldc 109, 2) := by decide +kernel
theorem dL_law_563 : decode cL_law 563 = .ok (.irem, 1) := by decide +kernel
theorem dL_law_564 : decode cL_law 564 = .ok (.invokevirtual 15, 3) := by decide +kernel
theorem dL_law_567 : decode cL_law 567 = .ok (.iconst 2, 1) := by decide +kernel
theorem dL_law_568 : decode cL_law 568 = .ok (.invokevirtual 110, 3) := by decide +kernel
theorem dL_law_571 : decode cL_law 571 = .ok (.if_icmp .gt 7, 3) := by decide +kernel
theorem dL_law_574 : decode cL_law 574 = .ok (.iconst 1, 1) := by decide +kernel
theorem dL_law_575 : decode cL_law 575 = .ok (.goto 4, 3) := by decide +kernel
theorem dL_law_578 : decode cL_law 578 = .ok (.iconst 0, 1) := by decide +kernel
theorem dL_law_579 : decode cL_law 579 = .ok (.istore_n 2, 1) := by decide +kernel
theorem dL_law_580 : decode cL_law 580 = .ok (.goto 15, 3) := by decide +kernel
theorem dL_law_583 : decode cL_law 583 = .ok (.aload_n 1, 1) := by decide +kernel
theorem dL_law_584 : decode cL_law 584 = .ok (.iload 6, 2) := by decide +kernel
theorem dL_law_586 : decode cL_law 586 = .ok (.iload 5, 2) := by decide +kernel
theorem dL_law_588 : decode cL_law 588 = .ok (.bipush 8, 2) := by decide +kernel
theorem dL_law_590 : decode cL_law 590 = .ok (.idiv, 1) := by decide +kernel
theorem dL_law_591 : decode cL_law 591 = .ok (.invokestatic 113, 3) := by decide +kernel
theorem dL_law_594 : decode cL_law 594 = .ok (.istore_n 2, 1) := by decide +kernel
theorem dL_law_595 : decode cL_law 595 = .ok (.iload_n 2, 1) := by decide +kernel
theorem dL_law_596 : decode cL_law 596 = .ok (.ifCond .eq 53, 3) := by decide +kernel
theorem dL_law_599 : decode cL_law 599 = .ok (.aload_n 1, 1) := by decide +kernel
theorem dL_law_600 : decode cL_law 600 = .ok (.invokestatic 71, 3) := by decide +kernel
theorem dL_law_603 : decode cL_law 603 = .ok (.ifCond .eq 46, 3) := by decide +kernel
theorem dL_law_606 : decode cL_law 606 = .ok (.aload_n 1, 1) := by decide +kernel
theorem dL_law_607 : decode cL_law 607 = .ok (.iload 5, 2) := by decide +kernel
theorem dL_law_609 : decode cL_law 609 = .ok (.ldc 46, 2) := by decide +kernel
theorem dL_law_611 : decode cL_law 611 = .ok (.irem, 1) := by decide +kernel
theorem dL_law_612 : decode cL_law 612 = .ok (.iload 5, 2) := by decide +kernel
theorem dL_law_614 : decode cL_law 614 = .ok (.iconst 4, 1) := by decide +kernel
theorem dL_law_615 : decode cL_law 615 = .ok (.irem, 1) := by decide +kernel
theorem dL_law_616 : decode cL_law 616 = .ok (.invokestatic 116, 3) := by decide +kernel
theorem dL_law_619 : decode cL_law 619 = .ok (.ifCond .eq 30, 3) := by decide +kernel
theorem dL_law_622 : decode cL_law 622 = .ok (.aload_n 1, 1) := by decide +kernel
theorem dL_law_623 : decode cL_law 623 = .ok (.iload 5, 2) := by decide +kernel
theorem dL_law_625 : decode cL_law 625 = .ok (.sipush 5000, 3) := by decide +kernel
theorem dL_law_628 : decode cL_law 628 = .ok (.irem, 1) := by decide +kernel
theorem dL_law_629 : decode cL_law 629 = .ok (.sipush 4900, 3) := by decide +kernel
theorem dL_law_632 : decode cL_law 632 = .ok (.isub, 1) := by decide +kernel
theorem dL_law_633 : decode cL_law 633 = .ok (.iload 5, 2) := by decide +kernel
theorem dL_law_635 : decode cL_law 635 = .ok (.iconst 4, 1) := by decide +kernel
theorem dL_law_636 : decode cL_law 636 = .ok (.idiv, 1) := by decide +kernel
theorem dL_law_637 : decode cL_law 637 = .ok (.iconst 4, 1) := by decide +kernel
theorem dL_law_638 : decode cL_law 638 = .ok (.irem, 1) := by decide +kernel
theorem dL_law_639 : decode cL_law 639 = .ok (.invokestatic 116, 3) := by decide +kernel
theorem dL_law_642 : decode cL_law 642 = .ok (.ifCond .eq 7, 3) := by decide +kernel
theorem dL_law_645 : decode cL_law 645 = .ok (.iconst 1, 1) := by decide +kernel
theorem dL_law_646 : decode cL_law 646 = .ok (.goto 4, 3) := by decide +kernel
theorem dL_law_649 : decode cL_law 649 = .ok (.iconst 0, 1) := by decide +kernel
theorem dL_law_650 : decode cL_law 650 = .ok (.istore_n 2, 1) := by decide +kernel
theorem dL_law_651 : decode cL_law 651 = .ok (.iinc 3 1, 3) := by decide +kernel
theorem dL_law_654 : decode cL_law 654 = .ok (.goto (-465), 3) := by decide +kernel
theorem dL_law_657 : decode cL_law 657 = .ok (.aload_n 1, 1) := by decide +kernel
theorem dL_law_658 : decode cL_law 658 = .ok (.bipush 9, 2) := by decide +kernel
theorem dL_law_660 : decode cL_law 660 = .ok (.invokevirtual 9, 3) := by decide +kernel
theorem dL_law_663 : decode cL_law 663 = .ok (.istore_n 3, 1) := by decide +kernel
theorem dL_law_664 : decode cL_law 664 = .ok (.aload_n 1, 1) := by decide +kernel
theorem dL_law_665 : decode cL_law 665 = .ok (.bipush 8, 2) := by decide +kernel
theorem dL_law_667 : decode cL_law 667 = .ok (.invokevirtual 9, 3) := by decide +kernel
theorem dL_law_670 : decode cL_law 670 = .ok (.istore 4, 2) := by decide +kernel
theorem dL_law_672 : decode cL_law 672 = .ok (.aload_n 1, 1) := by decide +kernel
theorem dL_law_673 : decode cL_law 673 = .ok (.bipush 12, 2) := by decide +kernel
theorem dL_law_675 : decode cL_law 675 = .ok (.invokevirtual 9, 3) := by decide +kernel
theorem dL_law_678 : decode cL_law 678 = .ok (.istore 5, 2) := by decide +kernel
theorem dL_law_680 : decode cL_law 680 = .ok (.iload_n 2, 1) := by decide +kernel
theorem dL_law_681 : decode cL_law 681 = .ok (.ifCond .eq 64, 3) := by decide +kernel
theorem dL_law_684 : decode cL_law 684 = .ok (.aload_n 1, 1) := by decide +kernel
theorem dL_law_685 : decode cL_law 685 = .ok (.iconst 0, 1) := by decide +kernel
theorem dL_law_686 : decode cL_law 686 = .ok (.invokevirtual 119, 3) := by decide +kernel
theorem dL_law_689 : decode cL_law 689 = .ok (.ifCond .lt 56, 3) := by decide +kernel
theorem dL_law_692 : decode cL_law 692 = .ok (.aload_n 1, 1) := by decide +kernel
theorem dL_law_693 : decode cL_law 693 = .ok (.invokevirtual 59, 3) := by decide +kernel
theorem dL_law_696 : decode cL_law 696 = .ok (.iload 5, 2) := by decide +kernel
theorem dL_law_698 : decode cL_law 698 = .ok (.iconst 5, 1) := by decide +kernel
theorem dL_law_699 : decode cL_law 699 = .ok (.if_icmp .ge 8, 3) := by decide +kernel
theorem dL_law_702 : decode cL_law 702 = .ok (.iload 5, 2) := by decide +kernel
theorem dL_law_704 : decode cL_law 704 = .ok (.goto 4, 3) := by decide +kernel
theorem dL_law_707 : decode cL_law 707 = .ok (.iconst 4, 1) := by decide +kernel
theorem dL_law_708 : decode cL_law 708 = .ok (.if_icmp .ne 37, 3) := by decide +kernel
theorem dL_law_711 : decode cL_law 711 = .ok (.aload_n 1, 1) := by decide +kernel
theorem dL_law_712 : decode cL_law 712 = .ok (.bipush 9, 2) := by decide +kernel
theorem dL_law_714 : decode cL_law 714 = .ok (.invokevirtual 9, 3) := by decide +kernel
theorem dL_law_717 : decode cL_law 717 = .ok (.iload_n 3, 1) := by decide +kernel
theorem dL_law_718 : decode cL_law 718 = .ok (.if_icmp .ne 27, 3) := by decide +kernel
theorem dL_law_721 : decode cL_law 721 = .ok (.aload_n 1, 1) := by decide +kernel
theorem dL_law_722 : decode cL_law 722 = .ok (.bipush 8, 2) := by decide +kernel
theorem dL_law_724 : decode cL_law 724 = .ok (.invokevirtual 9, 3) := by decide +kernel
theorem dL_law_727 : decode cL_law 727 = .ok (.iload 4, 2) := by decide +kernel
theorem dL_law_729 : decode cL_law 729 = .ok (.if_icmp .ne 16, 3) := by decide +kernel
theorem dL_law_732 : decode cL_law 732 = .ok (.aload_n 1, 1) := by decide +kernel
theorem dL_law_733 : decode cL_law 733 = .ok (.iconst 5, 1) := by decide +kernel
theorem dL_law_734 : decode cL_law 734 = .ok (.invokevirtual 9, 3) := by decide +kernel
theorem dL_law_737 : decode cL_law 737 = .ok (.iconst 4, 1) := by decide +kernel
theorem dL_law_738 : decode cL_law 738 = .ok (.if_icmp .ne 7, 3) := by decide +kernel
theorem dL_law_741 : decode cL_law 741 = .ok (.iconst 1, 1) := by decide +kernel
theorem dL_law_742 : decode cL_law 742 = .ok (.goto 4, 3) := by decide +kernel
theorem dL_law_745 : decode cL_law 745 = .ok (.iconst 0, 1) := by decide +kernel
theorem dL_law_746 : decode cL_law 746 = .ok (.istore_n 2, 1) := by decide +kernel
theorem dL_law_747 : decode cL_law 747 = .ok (.iload_n 2, 1) := by decide +kernel
theorem dL_law_748 : decode cL_law 748 = .ok (.ifCond .eq 14, 3) := by decide +kernel
theorem dL_law_751 : decode cL_law 751 = .ok (.aload_n 1, 1) := by decide +kernel
theorem dL_law_752 : decode cL_law 752 = .ok (.invokestatic 71, 3) := by decide +kernel
theorem dL_law_755 : decode cL_law 755 = .ok (.ifCond .eq 7, 3) := by decide +kernel
theorem dL_law_758 : decode cL_law 758 = .ok (.iconst 1, 1) := by decide +kernel
theorem dL_law_759 : decode cL_law 759 = .ok (.goto 4, 3) := by decide +kernel
theorem dL_law_762 : decode cL_law 762 = .ok (.iconst 0, 1) := by decide +kernel
theorem dL_law_763 : decode cL_law 763 = .ok (.ireturn, 1) := by decide +kernel
end
section
theorem zz_end : True := trivial
end
