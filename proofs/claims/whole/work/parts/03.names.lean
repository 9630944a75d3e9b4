/-! names: classes, fields in the order of their slots, methods; the words that hold in every state -/
def RBa : String := "DutyLedger$Batch"
def TBa : u_T := fun k => match k with
  | 0 => ("DutyLedger$Batch", "valid", "I", true)
  | 1 => ("DutyLedger$Batch", "known", "I", true)
  | 2 => ("DutyLedger$Batch", "reverses", "I", true)
  | 3 => ("DutyLedger$Batch", "accounts", "[I", true)
  | 4 => ("DutyLedger$Batch", "cents", "[J", true)
  | 5 => ("DutyLedger$Batch", "size", "I", false)
  | 6 => ("DutyLedger$Batch", "state", "I", false)
  | 7 => ("DutyLedger$Batch", "reversedBy", "I", false)
  | _ => ("DutyLedger$Batch", "toldToFail", "Z", false)
def tyBa : Nat → FieldType := fun k => match k with
  | 0 => .int
  | 1 => .int
  | 2 => .int
  | 3 => (.array .int)
  | 4 => (.array .long)
  | 5 => .int
  | 6 => .int
  | 7 => .int
  | _ => .boolean
def RBk : String := "DutyLedger$Book"
def TBk : u_T := fun k => match k with
  | 0 => ("DutyLedger$Book", "batchNumbers", "[I", true)
  | 1 => ("DutyLedger$Book", "accounts", "[I", true)
  | 2 => ("DutyLedger$Book", "cents", "[J", true)
  | 3 => ("DutyLedger$Book", "validDays", "[I", true)
  | 4 => ("DutyLedger$Book", "knownDays", "[I", true)
  | 5 => ("DutyLedger$Book", "size", "I", false)
  | _ => ("DutyLedger$Book", "held", "I", false)
def tyBk : Nat → FieldType := fun k => match k with
  | 0 => (.array .int)
  | 1 => (.array .int)
  | 2 => (.array .long)
  | 3 => (.array .int)
  | 4 => (.array .int)
  | 5 => .int
  | _ => .int
def RSh : String := "DutyLedger$Shares"
def TSh : u_T := fun k => match k with
  | 0 => ("DutyLedger$Shares", "parts", "[I", true)
  | _ => ("DutyLedger$Shares", "costs", "[I", true)
def tySh : Nat → FieldType := fun k => match k with
  | 0 => (.array .int)
  | _ => (.array .int)
def RDu : String := "DutyLedger"
def TDu : u_T := fun k => match k with
  | 0 => ("DutyLedger", "kinds", "[I", true)
  | 1 => ("DutyLedger", "accountCount", "I", false)
  | 2 => ("DutyLedger", "batches", "[LDutyLedger$Batch;", true)
  | 3 => ("DutyLedger", "batchCount", "I", false)
  | 4 => ("DutyLedger", "book", "LDutyLedger$Book;", true)
  | 5 => ("DutyLedger", "shares", "LDutyLedger$Shares;", true)
  | 6 => ("DutyLedger", "closedDay", "I", false)
  | 7 => ("DutyLedger", "latestKnown", "I", false)
  | 8 => ("DutyLedger", "wrong", "I", false)
  | 9 => ("DutyLedger", "named", "I", false)
  | _ => ("DutyLedger", "failures", "I", false)
def tyDu : Nat → FieldType := fun k => match k with
  | 0 => (.array .int)
  | 1 => .int
  | 2 => (.array (.object "DutyLedger$Batch"))
  | 3 => .int
  | 4 => (.object "DutyLedger$Book")
  | 5 => (.object "DutyLedger$Shares")
  | 6 => .int
  | 7 => .int
  | 8 => .int
  | 9 => .int
  | _ => .int
def RMo : String := "DutyLedgerModel"
def TMo : u_T := fun k => match k with
  | 0 => ("DutyLedgerModel", "thrown", "I", false)
  | 1 => ("DutyLedgerModel", "accounts", "I", false)
  | 2 => ("DutyLedgerModel", "batches", "I", false)
  | 3 => ("DutyLedgerModel", "rows", "I", false)
  | 4 => ("DutyLedgerModel", "closed", "I", false)
  | 5 => ("DutyLedgerModel", "latest", "I", false)
  | 6 => ("DutyLedgerModel", "wrong", "I", false)
  | 7 => ("DutyLedgerModel", "named", "I", false)
  | 8 => ("DutyLedgerModel", "failures", "I", false)
  | 9 => ("DutyLedgerModel", "kindOf", "[I", true)
  | 10 => ("DutyLedgerModel", "stateOf", "[I", true)
  | 11 => ("DutyLedgerModel", "validOf", "[I", true)
  | 12 => ("DutyLedgerModel", "knownOf", "[I", true)
  | 13 => ("DutyLedgerModel", "reverses", "[I", true)
  | 14 => ("DutyLedgerModel", "reversedBy", "[I", true)
  | 15 => ("DutyLedgerModel", "toFail", "[Z", true)
  | 16 => ("DutyLedgerModel", "sizeOf", "[I", true)
  | 17 => ("DutyLedgerModel", "rowAccount", "[I", true)
  | 18 => ("DutyLedgerModel", "rowCents", "[J", true)
  | 19 => ("DutyLedgerModel", "ledger", "[I", true)
  | 20 => ("DutyLedgerModel", "parts", "[I", true)
  | _ => ("DutyLedgerModel", "costs", "[I", true)
def tyMo : Nat → FieldType := fun k => match k with
  | 0 => .int
  | 1 => .int
  | 2 => .int
  | 3 => .int
  | 4 => .int
  | 5 => .int
  | 6 => .int
  | 7 => .int
  | 8 => .int
  | 9 => (.array .int)
  | 10 => (.array .int)
  | 11 => (.array .int)
  | 12 => (.array .int)
  | 13 => (.array .int)
  | 14 => (.array .int)
  | 15 => (.array .boolean)
  | 16 => (.array .int)
  | 17 => (.array .int)
  | 18 => (.array .long)
  | 19 => (.array .int)
  | 20 => (.array .int)
  | _ => (.array .int)
def RLa : String := "DutyLedgerLaw"
abbrev vwCl : List vw_C := [(RBa, TBa, 9), (RBk, TBk, 7), (RSh, TSh, 2), (RDu, TDu, 11), (RMo, TMo, 22)]
abbrev bDu_init : ByteArray := prog_1_method_1_code
def yDu_init : MethodName := ⟨RDu, "<init>", "()V"⟩
abbrev bBk_init : ByteArray := prog_3_method_1_code
def yBk_init : MethodName := ⟨RBk, "<init>", "()V"⟩
abbrev bSh_init : ByteArray := prog_4_method_1_code
def ySh_init : MethodName := ⟨RSh, "<init>", "()V"⟩
abbrev bDu_row : ByteArray := prog_1_method_4_code
def yDu_row : MethodName := ⟨RDu, "row", "(IIJ)Z"⟩
abbrev bDu_batchThatIs : ByteArray := prog_1_method_25_code
def yDu_batchThatIs : MethodName := ⟨RDu, "batchThatIs", "(II)LDutyLedger$Batch;"⟩
abbrev bDu_batchAt : ByteArray := prog_1_method_24_code
def yDu_batchAt : MethodName := ⟨RDu, "batchAt", "(I)LDutyLedger$Batch;"⟩
abbrev bDu_isAccount : ByteArray := prog_1_method_23_code
def yDu_isAccount : MethodName := ⟨RDu, "isAccount", "(I)Z"⟩
abbrev bDu_canBeCents : ByteArray := prog_1_method_22_code
def yDu_canBeCents : MethodName := ⟨RDu, "canBeCents", "(J)Z"⟩
abbrev bBa_take : ByteArray := prog_2_method_2_code
def yBa_take : MethodName := ⟨RBa, "take", "(IJ)Z"⟩
abbrev bDu_fails : ByteArray := prog_1_method_5_code
def yDu_fails : MethodName := ⟨RDu, "fails", "(IZ)Z"⟩
abbrev bDu_close : ByteArray := prog_1_method_8_code
def yDu_close : MethodName := ⟨RDu, "close", "(I)Z"⟩
abbrev bDu_isDay : ByteArray := prog_1_method_18_code
def yDu_isDay : MethodName := ⟨RDu, "isDay", "(I)Z"⟩
abbrev bDu_part : ByteArray := prog_1_method_11_code
def yDu_part : MethodName := ⟨RDu, "part", "(III)Z"⟩
abbrev bDu_isKind : ByteArray := prog_1_method_20_code
def yDu_isKind : MethodName := ⟨RDu, "isKind", "(I)Z"⟩
abbrev bDu_isReceiver : ByteArray := prog_1_method_21_code
def yDu_isReceiver : MethodName := ⟨RDu, "isReceiver", "(I)Z"⟩
abbrev bSh_setPart : ByteArray := prog_4_method_2_code
def ySh_setPart : MethodName := ⟨RSh, "setPart", "(III)V"⟩
abbrev bDu_cost : ByteArray := prog_1_method_12_code
def yDu_cost : MethodName := ⟨RDu, "cost", "(II)Z"⟩
abbrev bSh_setCost : ByteArray := prog_4_method_3_code
def ySh_setCost : MethodName := ⟨RSh, "setCost", "(II)V"⟩
abbrev bDu_count : ByteArray := prog_1_method_17_code
def yDu_count : MethodName := ⟨RDu, "count", "(I)I"⟩
abbrev bLa_account : ByteArray := method_3_code
def yLa_account : MethodName := ⟨RLa, "account", "(LDutyLedger;I[J)I"⟩
abbrev bDu_account : ByteArray := prog_1_method_2_code
def yDu_account : MethodName := ⟨RDu, "account", "(I)I"⟩
abbrev bLa_batch : ByteArray := method_4_code
def yLa_batch : MethodName := ⟨RLa, "batch", "(LDutyLedger;II[J)I"⟩
abbrev bDu_batch : ByteArray := prog_1_method_3_code
def yDu_batch : MethodName := ⟨RDu, "batch", "(II)I"⟩
abbrev bBa_init : ByteArray := prog_2_method_1_code
def yBa_init : MethodName := ⟨RBa, "<init>", "(III)V"⟩
abbrev bDu_keep : ByteArray := prog_1_method_26_code
def yDu_keep : MethodName := ⟨RDu, "keep", "(LDutyLedger$Batch;)I"⟩
abbrev bLa_post : ByteArray := method_5_code
def yLa_post : MethodName := ⟨RLa, "post", "(LDutyLedger;I[J)I"⟩
abbrev bDu_post : ByteArray := prog_1_method_6_code
def yDu_post : MethodName := ⟨RDu, "post", "(I)I"⟩
abbrev bDu_whatIsWrongWith : ByteArray := prog_1_method_27_code
def yDu_whatIsWrongWith : MethodName := ⟨RDu, "whatIsWrongWith", "(LDutyLedger$Batch;)I"⟩
abbrev bBa_sum : ByteArray := prog_2_method_3_code
def yBa_sum : MethodName := ⟨RBa, "sum", "()J"⟩
abbrev bBk_hasRoomFor : ByteArray := prog_3_method_2_code
def yBk_hasRoomFor : MethodName := ⟨RBk, "hasRoomFor", "(I)Z"⟩
abbrev bDu_makeVoid : ByteArray := prog_1_method_28_code
def yDu_makeVoid : MethodName := ⟨RDu, "makeVoid", "(LDutyLedger$Batch;I)V"⟩
abbrev bDu_accountFarthestFromZero : ByteArray := prog_1_method_29_code
def yDu_accountFarthestFromZero : MethodName := ⟨RDu, "accountFarthestFromZero", "(LDutyLedger$Batch;)I"⟩
abbrev bBa_sumOf : ByteArray := prog_2_method_4_code
def yBa_sumOf : MethodName := ⟨RBa, "sumOf", "(I)J"⟩
abbrev bDu_failHalfway : ByteArray := prog_1_method_30_code
def yDu_failHalfway : MethodName := ⟨RDu, "failHalfway", "(ILDutyLedger$Batch;)V"⟩
abbrev bBk_bringIn : ByteArray := prog_3_method_3_code
def yBk_bringIn : MethodName := ⟨RBk, "bringIn", "(ILDutyLedger$Batch;I)V"⟩
abbrev bBk_takeHeldOut : ByteArray := prog_3_method_4_code
def yBk_takeHeldOut : MethodName := ⟨RBk, "takeHeldOut", "()V"⟩
abbrev bDu_enter : ByteArray := prog_1_method_31_code
def yDu_enter : MethodName := ⟨RDu, "enter", "(ILDutyLedger$Batch;)V"⟩
abbrev bBk_settleHeld : ByteArray := prog_3_method_5_code
def yBk_settleHeld : MethodName := ⟨RBk, "settleHeld", "()V"⟩
abbrev bLa_reverse : ByteArray := method_6_code
def yLa_reverse : MethodName := ⟨RLa, "reverse", "(LDutyLedger;II[J)I"⟩
abbrev bDu_reverse : ByteArray := prog_1_method_7_code
def yDu_reverse : MethodName := ⟨RDu, "reverse", "(II)I"⟩
abbrev bDu_reversalOf : ByteArray := prog_1_method_32_code
def yDu_reversalOf : MethodName := ⟨RDu, "reversalOf", "(ILDutyLedger$Batch;I)LDutyLedger$Batch;"⟩
abbrev bLa_balance : ByteArray := method_7_code
def yLa_balance : MethodName := ⟨RLa, "balance", "(LDutyLedger;III[J)I"⟩
abbrev bDu_balance : ByteArray := prog_1_method_9_code
def yDu_balance : MethodName := ⟨RDu, "balance", "(III)J"⟩
abbrev bBk_sum : ByteArray := prog_3_method_6_code
def yBk_sum : MethodName := ⟨RBk, "sum", "(IIII)J"⟩
abbrev bLa_statement : ByteArray := method_8_code
def yLa_statement : MethodName := ⟨RLa, "statement", "(LDutyLedger;III[J)I"⟩
abbrev bDu_statement : ByteArray := prog_1_method_10_code
def yDu_statement : MethodName := ⟨RDu, "statement", "(III)J"⟩
abbrev bDu_isMonth : ByteArray := prog_1_method_19_code
def yDu_isMonth : MethodName := ⟨RDu, "isMonth", "(I)Z"⟩
abbrev bLa_passed : ByteArray := method_9_code
def yLa_passed : MethodName := ⟨RLa, "passed", "(LDutyLedger;III[J)I"⟩
abbrev bDu_passed : ByteArray := prog_1_method_13_code
def yDu_passed : MethodName := ⟨RDu, "passed", "(III)J"⟩
abbrev bDu_collectedOf : ByteArray := prog_1_method_33_code
def yDu_collectedOf : MethodName := ⟨RDu, "collectedOf", "(II)J"⟩
abbrev bSh_costOf : ByteArray := prog_4_method_4_code
def ySh_costOf : MethodName := ⟨RSh, "costOf", "(IJ)J"⟩
abbrev bSh_allShares : ByteArray := prog_4_method_5_code
def ySh_allShares : MethodName := ⟨RSh, "allShares", "(IJ)J"⟩
abbrev bSh_shareOf : ByteArray := prog_4_method_6_code
def ySh_shareOf : MethodName := ⟨RSh, "shareOf", "(IIJ)J"⟩
abbrev bSh_allParts : ByteArray := prog_4_method_7_code
def ySh_allParts : MethodName := ⟨RSh, "allParts", "(I)I"⟩
abbrev bSh_wholeShare : ByteArray := prog_4_method_8_code
def ySh_wholeShare : MethodName := ⟨RSh, "wholeShare", "(IIJ)J"⟩
abbrev bSh_placeByRemainder : ByteArray := prog_4_method_11_code
def ySh_placeByRemainder : MethodName := ⟨RSh, "placeByRemainder", "(IIJ)I"⟩
abbrev bSh_remainder : ByteArray := prog_4_method_9_code
def ySh_remainder : MethodName := ⟨RSh, "remainder", "(IIJ)J"⟩
abbrev bSh_centsLeft : ByteArray := prog_4_method_10_code
def ySh_centsLeft : MethodName := ⟨RSh, "centsLeft", "(IJ)J"⟩
abbrev bLa_reconcile : ByteArray := method_10_code
def yLa_reconcile : MethodName := ⟨RLa, "reconcile", "(LDutyLedger;IIII[J)I"⟩
abbrev bDu_reconcile : ByteArray := prog_1_method_14_code
def yDu_reconcile : MethodName := ⟨RDu, "reconcile", "(IIII)J"⟩
abbrev bLa_read : ByteArray := method_11_code
def yLa_read : MethodName := ⟨RLa, "read", "(LDutyLedger;II[J)I"⟩
abbrev bDu_read : ByteArray := prog_1_method_15_code
def yDu_read : MethodName := ⟨RDu, "read", "(II)J"⟩
abbrev bLa_look : ByteArray := method_12_code
def yLa_look : MethodName := ⟨RLa, "look", "(LDutyLedger;II[J)I"⟩
abbrev bDu_look : ByteArray := prog_1_method_16_code
def yDu_look : MethodName := ⟨RDu, "look", "(II)I"⟩
abbrev bMo_init : ByteArray := prog_6_method_1_code
def yMo_init : MethodName := ⟨RMo, "<init>", "()V"⟩
abbrev bMo_thrown : ByteArray := prog_6_method_2_code
def yMo_thrown : MethodName := ⟨RMo, "thrown", "()I"⟩
abbrev bMo_account : ByteArray := prog_6_method_8_code
def yMo_account : MethodName := ⟨RMo, "account", "(I)I"⟩
abbrev bMo_isKind : ByteArray := prog_6_method_5_code
def yMo_isKind : MethodName := ⟨RMo, "isKind", "(I)Z"⟩
abbrev bMo_in : ByteArray := prog_6_method_3_code
def yMo_in : MethodName := ⟨RMo, "in", "(JJJ)Z"⟩
abbrev bMo_batch : ByteArray := prog_6_method_10_code
def yMo_batch : MethodName := ⟨RMo, "batch", "(II)I"⟩
abbrev bMo_isDay : ByteArray := prog_6_method_4_code
def yMo_isDay : MethodName := ⟨RMo, "isDay", "(I)Z"⟩
abbrev bMo_begin : ByteArray := prog_6_method_9_code
def yMo_begin : MethodName := ⟨RMo, "begin", "(III)V"⟩
abbrev bMo_row : ByteArray := prog_6_method_11_code
def yMo_row : MethodName := ⟨RMo, "row", "(IIJ)Z"⟩
abbrev bMo_isOpen : ByteArray := prog_6_method_7_code
def yMo_isOpen : MethodName := ⟨RMo, "isOpen", "(I)Z"⟩
abbrev bMo_isAccount : ByteArray := prog_6_method_6_code
def yMo_isAccount : MethodName := ⟨RMo, "isAccount", "(I)Z"⟩
abbrev bMo_fails : ByteArray := prog_6_method_12_code
def yMo_fails : MethodName := ⟨RMo, "fails", "(IZ)Z"⟩
abbrev bMo_post : ByteArray := prog_6_method_17_code
def yMo_post : MethodName := ⟨RMo, "post", "(I)I"⟩
abbrev bMo_wrongWith : ByteArray := prog_6_method_14_code
def yMo_wrongWith : MethodName := ⟨RMo, "wrongWith", "(I)I"⟩
abbrev bMo_sumIn : ByteArray := prog_6_method_13_code
def yMo_sumIn : MethodName := ⟨RMo, "sumIn", "(II)J"⟩
abbrev bMo_greatestIn : ByteArray := prog_6_method_16_code
def yMo_greatestIn : MethodName := ⟨RMo, "greatestIn", "(I)I"⟩
abbrev bMo_enter : ByteArray := prog_6_method_15_code
def yMo_enter : MethodName := ⟨RMo, "enter", "(I)V"⟩
abbrev bMo_reverse : ByteArray := prog_6_method_18_code
def yMo_reverse : MethodName := ⟨RMo, "reverse", "(II)I"⟩
abbrev bMo_close : ByteArray := prog_6_method_19_code
def yMo_close : MethodName := ⟨RMo, "close", "(I)Z"⟩
abbrev bMo_balance : ByteArray := prog_6_method_21_code
def yMo_balance : MethodName := ⟨RMo, "balance", "(III)J"⟩
abbrev bMo_sum : ByteArray := prog_6_method_20_code
def yMo_sum : MethodName := ⟨RMo, "sum", "(IIII)J"⟩
abbrev bMo_statement : ByteArray := prog_6_method_22_code
def yMo_statement : MethodName := ⟨RMo, "statement", "(III)J"⟩
abbrev bMo_part : ByteArray := prog_6_method_23_code
def yMo_part : MethodName := ⟨RMo, "part", "(III)Z"⟩
abbrev bMo_cost : ByteArray := prog_6_method_24_code
def yMo_cost : MethodName := ⟨RMo, "cost", "(II)Z"⟩
abbrev bMo_passed : ByteArray := prog_6_method_28_code
def yMo_passed : MethodName := ⟨RMo, "passed", "(III)J"⟩
abbrev bMo_sumOf : ByteArray := prog_6_method_26_code
def yMo_sumOf : MethodName := ⟨RMo, "sumOf", "(II)J"⟩
abbrev bMo_share : ByteArray := prog_6_method_27_code
def yMo_share : MethodName := ⟨RMo, "share", "(IIJ)J"⟩
abbrev bMo_partsOf : ByteArray := prog_6_method_25_code
def yMo_partsOf : MethodName := ⟨RMo, "partsOf", "(I)I"⟩
abbrev bMo_reconcile : ByteArray := prog_6_method_29_code
def yMo_reconcile : MethodName := ⟨RMo, "reconcile", "(IIII)J"⟩
abbrev bMo_read : ByteArray := prog_6_method_30_code
def yMo_read : MethodName := ⟨RMo, "read", "(II)J"⟩
abbrev bMo_look : ByteArray := prog_6_method_31_code
def yMo_look : MethodName := ⟨RMo, "look", "(II)I"⟩
abbrev bMo_count : ByteArray := prog_6_method_32_code
def yMo_count : MethodName := ⟨RMo, "count", "(I)I"⟩
abbrev bLa_law : ByteArray := code
def yLa_law : MethodName := ⟨RLa, "law", "([I)Z"⟩
/-- the words that hold in every state of the run -/
def zT : List Cond := lw_tbl.filter goodWord
theorem zT_in {w : Cond} {i : Nat} (h : lw_tbl[i]? = some w) (g : goodWord w = true) : w ∈ zT := List.mem_filter.mpr ⟨List.mem_of_getElem? h, g⟩
theorem zT_good {ws : List Cond} (h : ∀ w ∈ ws, w ∈ zT) : GoodIn zT ws := fun w hw => ⟨h w hw, good_of_word (List.mem_filter.mp (h w hw)).2⟩
theorem zw_0 : (Jvm.Cond.selects "DutyLedger" ({ cls := "DutyLedger", name := "batchThatIs", desc := "(II)LDutyLedger$Batch;" } : Jvm.MethodName) ({ cls := "DutyLedger", name := "batchThatIs", desc := "(II)LDutyLedger$Batch;" } : Jvm.MethodName)) ∈ zT := zT_in (i := 0) (by decide +kernel) (by decide +kernel)
theorem zw_1 : (Jvm.Cond.selects "DutyLedger" ({ cls := "DutyLedger", name := "batchAt", desc := "(I)LDutyLedger$Batch;" } : Jvm.MethodName) ({ cls := "DutyLedger", name := "batchAt", desc := "(I)LDutyLedger$Batch;" } : Jvm.MethodName)) ∈ zT := zT_in (i := 1) (by decide +kernel) (by decide +kernel)
theorem zw_2 : (Jvm.Cond.selects "DutyLedger" ({ cls := "DutyLedger", name := "isAccount", desc := "(I)Z" } : Jvm.MethodName) ({ cls := "DutyLedger", name := "isAccount", desc := "(I)Z" } : Jvm.MethodName)) ∈ zT := zT_in (i := 2) (by decide +kernel) (by decide +kernel)
theorem zw_3 : (Jvm.Cond.selects "java/lang/Throwable" ({ cls := "java/lang/Throwable", name := "fillInStackTrace", desc := "(I)Ljava/lang/Throwable;" } : Jvm.MethodName) ({ cls := "java/lang/Throwable", name := "fillInStackTrace", desc := "(I)Ljava/lang/Throwable;" } : Jvm.MethodName)) ∈ zT := zT_in (i := 3) (by decide +kernel) (by decide +kernel)
theorem zw_4 : (Jvm.Cond.selects "DutyLedger" ({ cls := "DutyLedger", name := "keep", desc := "(LDutyLedger$Batch;)I" } : Jvm.MethodName) ({ cls := "DutyLedger", name := "keep", desc := "(LDutyLedger$Batch;)I" } : Jvm.MethodName)) ∈ zT := zT_in (i := 4) (by decide +kernel) (by decide +kernel)
theorem zw_5 : (Jvm.Cond.selects "DutyLedger" ({ cls := "DutyLedger", name := "whatIsWrongWith", desc := "(LDutyLedger$Batch;)I" } : Jvm.MethodName) ({ cls := "DutyLedger", name := "whatIsWrongWith", desc := "(LDutyLedger$Batch;)I" } : Jvm.MethodName)) ∈ zT := zT_in (i := 5) (by decide +kernel) (by decide +kernel)
theorem zw_6 : (Jvm.Cond.selects "DutyLedger" ({ cls := "DutyLedger", name := "makeVoid", desc := "(LDutyLedger$Batch;I)V" } : Jvm.MethodName) ({ cls := "DutyLedger", name := "makeVoid", desc := "(LDutyLedger$Batch;I)V" } : Jvm.MethodName)) ∈ zT := zT_in (i := 6) (by decide +kernel) (by decide +kernel)
theorem zw_7 : (Jvm.Cond.selects "DutyLedger" ({ cls := "DutyLedger", name := "accountFarthestFromZero", desc := "(LDutyLedger$Batch;)I" } : Jvm.MethodName) ({ cls := "DutyLedger", name := "accountFarthestFromZero", desc := "(LDutyLedger$Batch;)I" } : Jvm.MethodName)) ∈ zT := zT_in (i := 7) (by decide +kernel) (by decide +kernel)
theorem zw_8 : (Jvm.Cond.selects "DutyLedger" ({ cls := "DutyLedger", name := "failHalfway", desc := "(ILDutyLedger$Batch;)V" } : Jvm.MethodName) ({ cls := "DutyLedger", name := "failHalfway", desc := "(ILDutyLedger$Batch;)V" } : Jvm.MethodName)) ∈ zT := zT_in (i := 8) (by decide +kernel) (by decide +kernel)
theorem zw_9 : (Jvm.Cond.selects "DutyLedger" ({ cls := "DutyLedger", name := "enter", desc := "(ILDutyLedger$Batch;)V" } : Jvm.MethodName) ({ cls := "DutyLedger", name := "enter", desc := "(ILDutyLedger$Batch;)V" } : Jvm.MethodName)) ∈ zT := zT_in (i := 9) (by decide +kernel) (by decide +kernel)
theorem zw_10 : (Jvm.Cond.selects "DutyLedger" ({ cls := "DutyLedger", name := "collectedOf", desc := "(II)J" } : Jvm.MethodName) ({ cls := "DutyLedger", name := "collectedOf", desc := "(II)J" } : Jvm.MethodName)) ∈ zT := zT_in (i := 10) (by decide +kernel) (by decide +kernel)
theorem zw_11 : (Jvm.Cond.selects "DutyLedger$Shares" ({ cls := "DutyLedger$Shares", name := "allParts", desc := "(I)I" } : Jvm.MethodName) ({ cls := "DutyLedger$Shares", name := "allParts", desc := "(I)I" } : Jvm.MethodName)) ∈ zT := zT_in (i := 11) (by decide +kernel) (by decide +kernel)
theorem zw_12 : (Jvm.Cond.selects "DutyLedger$Shares" ({ cls := "DutyLedger$Shares", name := "wholeShare", desc := "(IIJ)J" } : Jvm.MethodName) ({ cls := "DutyLedger$Shares", name := "wholeShare", desc := "(IIJ)J" } : Jvm.MethodName)) ∈ zT := zT_in (i := 12) (by decide +kernel) (by decide +kernel)
theorem zw_13 : (Jvm.Cond.selects "DutyLedger$Shares" ({ cls := "DutyLedger$Shares", name := "placeByRemainder", desc := "(IIJ)I" } : Jvm.MethodName) ({ cls := "DutyLedger$Shares", name := "placeByRemainder", desc := "(IIJ)I" } : Jvm.MethodName)) ∈ zT := zT_in (i := 13) (by decide +kernel) (by decide +kernel)
theorem zw_14 : (Jvm.Cond.selects "DutyLedger$Shares" ({ cls := "DutyLedger$Shares", name := "remainder", desc := "(IIJ)J" } : Jvm.MethodName) ({ cls := "DutyLedger$Shares", name := "remainder", desc := "(IIJ)J" } : Jvm.MethodName)) ∈ zT := zT_in (i := 14) (by decide +kernel) (by decide +kernel)
theorem zw_15 : (Jvm.Cond.selects "DutyLedger$Shares" ({ cls := "DutyLedger$Shares", name := "centsLeft", desc := "(IJ)J" } : Jvm.MethodName) ({ cls := "DutyLedger$Shares", name := "centsLeft", desc := "(IJ)J" } : Jvm.MethodName)) ∈ zT := zT_in (i := 15) (by decide +kernel) (by decide +kernel)
theorem zw_16 : (Jvm.Cond.selects "DutyLedgerModel" ({ cls := "DutyLedgerModel", name := "begin", desc := "(III)V" } : Jvm.MethodName) ({ cls := "DutyLedgerModel", name := "begin", desc := "(III)V" } : Jvm.MethodName)) ∈ zT := zT_in (i := 16) (by decide +kernel) (by decide +kernel)
theorem zw_17 : (Jvm.Cond.selects "DutyLedgerModel" ({ cls := "DutyLedgerModel", name := "isOpen", desc := "(I)Z" } : Jvm.MethodName) ({ cls := "DutyLedgerModel", name := "isOpen", desc := "(I)Z" } : Jvm.MethodName)) ∈ zT := zT_in (i := 17) (by decide +kernel) (by decide +kernel)
theorem zw_18 : (Jvm.Cond.selects "DutyLedgerModel" ({ cls := "DutyLedgerModel", name := "isAccount", desc := "(I)Z" } : Jvm.MethodName) ({ cls := "DutyLedgerModel", name := "isAccount", desc := "(I)Z" } : Jvm.MethodName)) ∈ zT := zT_in (i := 18) (by decide +kernel) (by decide +kernel)
theorem zw_19 : (Jvm.Cond.selects "DutyLedgerModel" ({ cls := "DutyLedgerModel", name := "wrongWith", desc := "(I)I" } : Jvm.MethodName) ({ cls := "DutyLedgerModel", name := "wrongWith", desc := "(I)I" } : Jvm.MethodName)) ∈ zT := zT_in (i := 19) (by decide +kernel) (by decide +kernel)
theorem zw_20 : (Jvm.Cond.selects "DutyLedgerModel" ({ cls := "DutyLedgerModel", name := "sumIn", desc := "(II)J" } : Jvm.MethodName) ({ cls := "DutyLedgerModel", name := "sumIn", desc := "(II)J" } : Jvm.MethodName)) ∈ zT := zT_in (i := 20) (by decide +kernel) (by decide +kernel)
theorem zw_21 : (Jvm.Cond.selects "DutyLedgerModel" ({ cls := "DutyLedgerModel", name := "greatestIn", desc := "(I)I" } : Jvm.MethodName) ({ cls := "DutyLedgerModel", name := "greatestIn", desc := "(I)I" } : Jvm.MethodName)) ∈ zT := zT_in (i := 21) (by decide +kernel) (by decide +kernel)
theorem zw_22 : (Jvm.Cond.selects "DutyLedgerModel" ({ cls := "DutyLedgerModel", name := "enter", desc := "(I)V" } : Jvm.MethodName) ({ cls := "DutyLedgerModel", name := "enter", desc := "(I)V" } : Jvm.MethodName)) ∈ zT := zT_in (i := 22) (by decide +kernel) (by decide +kernel)
theorem zw_23 : (Jvm.Cond.selects "DutyLedgerModel" ({ cls := "DutyLedgerModel", name := "sum", desc := "(IIII)J" } : Jvm.MethodName) ({ cls := "DutyLedgerModel", name := "sum", desc := "(IIII)J" } : Jvm.MethodName)) ∈ zT := zT_in (i := 23) (by decide +kernel) (by decide +kernel)
theorem zw_24 : (Jvm.Cond.selects "DutyLedgerModel" ({ cls := "DutyLedgerModel", name := "sumOf", desc := "(II)J" } : Jvm.MethodName) ({ cls := "DutyLedgerModel", name := "sumOf", desc := "(II)J" } : Jvm.MethodName)) ∈ zT := zT_in (i := 24) (by decide +kernel) (by decide +kernel)
theorem zw_25 : (Jvm.Cond.selects "DutyLedgerModel" ({ cls := "DutyLedgerModel", name := "share", desc := "(IIJ)J" } : Jvm.MethodName) ({ cls := "DutyLedgerModel", name := "share", desc := "(IIJ)J" } : Jvm.MethodName)) ∈ zT := zT_in (i := 25) (by decide +kernel) (by decide +kernel)
theorem zw_26 : (Jvm.Cond.selects "DutyLedgerModel" ({ cls := "DutyLedgerModel", name := "partsOf", desc := "(I)I" } : Jvm.MethodName) ({ cls := "DutyLedgerModel", name := "partsOf", desc := "(I)I" } : Jvm.MethodName)) ∈ zT := zT_in (i := 26) (by decide +kernel) (by decide +kernel)
theorem zw_27 : (Jvm.Cond.initialized "DutyLedgerLaw") ∈ zT := zT_in (i := 27) (by decide +kernel) (by decide +kernel)
theorem zw_28 : (Jvm.Cond.initialized "DutyLedger") ∈ zT := zT_in (i := 28) (by decide +kernel) (by decide +kernel)
theorem zw_29 : (Jvm.Cond.initialized "DutyLedger$Book") ∈ zT := zT_in (i := 29) (by decide +kernel) (by decide +kernel)
theorem zw_30 : (Jvm.Cond.initialized "DutyLedger$Shares") ∈ zT := zT_in (i := 30) (by decide +kernel) (by decide +kernel)
theorem zw_31 : (Jvm.Cond.initialized "DutyLedgerModel") ∈ zT := zT_in (i := 31) (by decide +kernel) (by decide +kernel)
theorem zw_32 : (Jvm.Cond.initialized "java/lang/Throwable") ∈ zT := zT_in (i := 32) (by decide +kernel) (by decide +kernel)
theorem zw_33 : (Jvm.Cond.initialized "java/lang/Exception") ∈ zT := zT_in (i := 33) (by decide +kernel) (by decide +kernel)
theorem zw_34 : (Jvm.Cond.initialized "java/lang/RuntimeException") ∈ zT := zT_in (i := 34) (by decide +kernel) (by decide +kernel)
theorem zw_35 : (Jvm.Cond.initialized "java/lang/IllegalArgumentException") ∈ zT := zT_in (i := 35) (by decide +kernel) (by decide +kernel)
theorem zw_36 : (Jvm.Cond.initialized "java/lang/IllegalStateException") ∈ zT := zT_in (i := 36) (by decide +kernel) (by decide +kernel)
theorem zw_37 : (Jvm.Cond.initialized "DutyLedger$Batch") ∈ zT := zT_in (i := 37) (by decide +kernel) (by decide +kernel)
theorem zw_38 : (Jvm.Cond.initialized "java/lang/Math") ∈ zT := zT_in (i := 38) (by decide +kernel) (by decide +kernel)
theorem zw_39 : (Jvm.Cond.initialized "java/lang/UnsupportedOperationException") ∈ zT := zT_in (i := 39) (by decide +kernel) (by decide +kernel)
theorem zw_40 : (Jvm.Cond.initialized "java/lang/IndexOutOfBoundsException") ∈ zT := zT_in (i := 40) (by decide +kernel) (by decide +kernel)
theorem zw_41 : (Jvm.Cond.classLink "DutyLedgerLaw" (8 : Nat) "DutyLedger") ∈ zT := zT_in (i := 41) (by decide +kernel) (by decide +kernel)
theorem zw_42 : (Jvm.Cond.instantiable "DutyLedger" (11 : Nat)) ∈ zT := zT_in (i := 42) (by decide +kernel) (by decide +kernel)
theorem zw_43 : (Jvm.Cond.methodLink "DutyLedgerLaw" (52 : Nat) ({ cls := "DutyLedger", name := "<init>", desc := "()V" } : Jvm.MethodName)) ∈ zT := zT_in (i := 43) (by decide +kernel) (by decide +kernel)
theorem zw_44 : (Jvm.Cond.instanceMethod ({ cls := "DutyLedger", name := "<init>", desc := "()V" } : Jvm.MethodName)) ∈ zT := zT_in (i := 44) (by decide +kernel) (by decide +kernel)
theorem zw_45 : (Jvm.Cond.code ({ cls := "DutyLedger", name := "<init>", desc := "()V" } : Jvm.MethodName) prog_1_method_1_code (1 : Nat) (Option.none : Option Jvm.ClassFile.FieldType)) ∈ zT := zT_in (i := 45) (by decide +kernel) (by decide +kernel)
theorem zw_46 : (Jvm.Cond.methodLink "DutyLedger" (1 : Nat) ({ cls := "java/lang/Object", name := "<init>", desc := "()V" } : Jvm.MethodName)) ∈ zT := zT_in (i := 46) (by decide +kernel) (by decide +kernel)
theorem zw_47 : (Jvm.Cond.instanceMethod ({ cls := "java/lang/Object", name := "<init>", desc := "()V" } : Jvm.MethodName)) ∈ zT := zT_in (i := 47) (by decide +kernel) (by decide +kernel)
theorem zw_48 : (Jvm.Cond.code ({ cls := "java/lang/Object", name := "<init>", desc := "()V" } : Jvm.MethodName) object_method_1_code (1 : Nat) (Option.none : Option Jvm.ClassFile.FieldType)) ∈ zT := zT_in (i := 48) (by decide +kernel) (by decide +kernel)
theorem zw_49 : (Jvm.Cond.classLink "DutyLedger" (17 : Nat) "DutyLedger$Batch") ∈ zT := zT_in (i := 49) (by decide +kernel) (by decide +kernel)
theorem zw_51 : (Jvm.Cond.classLink "DutyLedger" (26 : Nat) "DutyLedger$Book") ∈ zT := zT_in (i := 51) (by decide +kernel) (by decide +kernel)
theorem zw_52 : (Jvm.Cond.instantiable "DutyLedger$Book" (7 : Nat)) ∈ zT := zT_in (i := 52) (by decide +kernel) (by decide +kernel)
theorem zw_54 : (Jvm.Cond.instanceMethod ({ cls := "DutyLedger$Book", name := "<init>", desc := "()V" } : Jvm.MethodName)) ∈ zT := zT_in (i := 54) (by decide +kernel) (by decide +kernel)
theorem zw_55 : (Jvm.Cond.code ({ cls := "DutyLedger$Book", name := "<init>", desc := "()V" } : Jvm.MethodName) prog_3_method_1_code (1 : Nat) (Option.none : Option Jvm.ClassFile.FieldType)) ∈ zT := zT_in (i := 55) (by decide +kernel) (by decide +kernel)
theorem zw_56 : (Jvm.Cond.methodLink "DutyLedger$Book" (3 : Nat) ({ cls := "java/lang/Object", name := "<init>", desc := "()V" } : Jvm.MethodName)) ∈ zT := zT_in (i := 56) (by decide +kernel) (by decide +kernel)
theorem zw_57 : (Jvm.Cond.fieldLink "DutyLedger$Book" (9 : Nat) "DutyLedger$Book" "batchNumbers" "[I") ∈ zT := zT_in (i := 57) (by decide +kernel) (by decide +kernel)
theorem zw_58 : (Jvm.Cond.fieldLink "DutyLedger" (191 : Nat) "DutyLedger$Book" "batchNumbers" "[I") ∈ zT := zT_in (i := 58) (by decide +kernel) (by decide +kernel)
theorem zw_59 : (Jvm.Cond.fieldLink "DutyLedger$Book" (15 : Nat) "DutyLedger$Book" "accounts" "[I") ∈ zT := zT_in (i := 59) (by decide +kernel) (by decide +kernel)
theorem zw_60 : (Jvm.Cond.fieldLink "DutyLedger" (194 : Nat) "DutyLedger$Book" "accounts" "[I") ∈ zT := zT_in (i := 60) (by decide +kernel) (by decide +kernel)
theorem zw_61 : (Jvm.Cond.fieldLink "DutyLedger$Book" (18 : Nat) "DutyLedger$Book" "cents" "[J") ∈ zT := zT_in (i := 61) (by decide +kernel) (by decide +kernel)
theorem zw_62 : (Jvm.Cond.fieldLink "DutyLedger" (197 : Nat) "DutyLedger$Book" "cents" "[J") ∈ zT := zT_in (i := 62) (by decide +kernel) (by decide +kernel)
theorem zw_63 : (Jvm.Cond.fieldLink "DutyLedger$Book" (22 : Nat) "DutyLedger$Book" "validDays" "[I") ∈ zT := zT_in (i := 63) (by decide +kernel) (by decide +kernel)
theorem zw_64 : (Jvm.Cond.fieldLink "DutyLedger" (201 : Nat) "DutyLedger$Book" "validDays" "[I") ∈ zT := zT_in (i := 64) (by decide +kernel) (by decide +kernel)
theorem zw_65 : (Jvm.Cond.fieldLink "DutyLedger$Book" (25 : Nat) "DutyLedger$Book" "knownDays" "[I") ∈ zT := zT_in (i := 65) (by decide +kernel) (by decide +kernel)
theorem zw_66 : (Jvm.Cond.fieldLink "DutyLedger" (204 : Nat) "DutyLedger$Book" "knownDays" "[I") ∈ zT := zT_in (i := 66) (by decide +kernel) (by decide +kernel)
theorem zw_67 : (Jvm.Cond.fieldLink "DutyLedger$Book" (28 : Nat) "DutyLedger$Book" "size" "I") ∈ zT := zT_in (i := 67) (by decide +kernel) (by decide +kernel)
theorem zw_68 : (Jvm.Cond.fieldLink "DutyLedger" (183 : Nat) "DutyLedger$Book" "size" "I") ∈ zT := zT_in (i := 68) (by decide +kernel) (by decide +kernel)
theorem zw_69 : (Jvm.Cond.fieldLink "DutyLedger$Book" (32 : Nat) "DutyLedger$Book" "held" "I") ∈ zT := zT_in (i := 69) (by decide +kernel) (by decide +kernel)
theorem zw_70 : (Jvm.Cond.fieldLink "DutyLedger" (225 : Nat) "DutyLedger$Book" "held" "I") ∈ zT := zT_in (i := 70) (by decide +kernel) (by decide +kernel)
theorem zw_71 : (Jvm.Cond.laysFinal "DutyLedger$Book" "DutyLedger$Book" "batchNumbers" "[I") ∈ zT := zT_in (i := 71) (by decide +kernel) (by decide +kernel)
theorem zw_73 : (Jvm.Cond.laysFinal "DutyLedger$Book" "DutyLedger$Book" "accounts" "[I") ∈ zT := zT_in (i := 73) (by decide +kernel) (by decide +kernel)
theorem zw_75 : (Jvm.Cond.laysFinal "DutyLedger$Book" "DutyLedger$Book" "cents" "[J") ∈ zT := zT_in (i := 75) (by decide +kernel) (by decide +kernel)
theorem zw_77 : (Jvm.Cond.laysFinal "DutyLedger$Book" "DutyLedger$Book" "validDays" "[I") ∈ zT := zT_in (i := 77) (by decide +kernel) (by decide +kernel)
theorem zw_79 : (Jvm.Cond.laysFinal "DutyLedger$Book" "DutyLedger$Book" "knownDays" "[I") ∈ zT := zT_in (i := 79) (by decide +kernel) (by decide +kernel)
theorem zw_81 : (Jvm.Cond.lays "DutyLedger$Book" "DutyLedger$Book" "size" "I") ∈ zT := zT_in (i := 81) (by decide +kernel) (by decide +kernel)
theorem zw_83 : (Jvm.Cond.lays "DutyLedger$Book" "DutyLedger$Book" "held" "I") ∈ zT := zT_in (i := 83) (by decide +kernel) (by decide +kernel)
theorem zw_86 : (Jvm.Cond.arrayClass Jvm.ClassFile.FieldType.int) ∈ zT := zT_in (i := 86) (by decide +kernel) (by decide +kernel)
theorem zw_87 : (Jvm.Cond.arrayClass Jvm.ClassFile.FieldType.long) ∈ zT := zT_in (i := 87) (by decide +kernel) (by decide +kernel)
theorem zw_88 : (Jvm.Cond.classLink "DutyLedger" (33 : Nat) "DutyLedger$Shares") ∈ zT := zT_in (i := 88) (by decide +kernel) (by decide +kernel)
theorem zw_89 : (Jvm.Cond.instantiable "DutyLedger$Shares" (2 : Nat)) ∈ zT := zT_in (i := 89) (by decide +kernel) (by decide +kernel)
theorem zw_91 : (Jvm.Cond.instanceMethod ({ cls := "DutyLedger$Shares", name := "<init>", desc := "()V" } : Jvm.MethodName)) ∈ zT := zT_in (i := 91) (by decide +kernel) (by decide +kernel)
theorem zw_92 : (Jvm.Cond.code ({ cls := "DutyLedger$Shares", name := "<init>", desc := "()V" } : Jvm.MethodName) prog_4_method_1_code (1 : Nat) (Option.none : Option Jvm.ClassFile.FieldType)) ∈ zT := zT_in (i := 92) (by decide +kernel) (by decide +kernel)
theorem zw_93 : (Jvm.Cond.methodLink "DutyLedger$Shares" (3 : Nat) ({ cls := "java/lang/Object", name := "<init>", desc := "()V" } : Jvm.MethodName)) ∈ zT := zT_in (i := 93) (by decide +kernel) (by decide +kernel)
theorem zw_94 : (Jvm.Cond.fieldLink "DutyLedger$Shares" (9 : Nat) "DutyLedger$Shares" "parts" "[I") ∈ zT := zT_in (i := 94) (by decide +kernel) (by decide +kernel)
theorem zw_95 : (Jvm.Cond.fieldLink "DutyLedger$Shares" (15 : Nat) "DutyLedger$Shares" "costs" "[I") ∈ zT := zT_in (i := 95) (by decide +kernel) (by decide +kernel)
theorem zw_96 : (Jvm.Cond.laysFinal "DutyLedger$Shares" "DutyLedger$Shares" "parts" "[I") ∈ zT := zT_in (i := 96) (by decide +kernel) (by decide +kernel)
theorem zw_98 : (Jvm.Cond.laysFinal "DutyLedger$Shares" "DutyLedger$Shares" "costs" "[I") ∈ zT := zT_in (i := 98) (by decide +kernel) (by decide +kernel)
theorem zw_101 : (Jvm.Cond.fieldLink "DutyLedger" (9 : Nat) "DutyLedger" "kinds" "[I") ∈ zT := zT_in (i := 101) (by decide +kernel) (by decide +kernel)
theorem zw_102 : (Jvm.Cond.fieldLink "DutyLedger" (13 : Nat) "DutyLedger" "accountCount" "I") ∈ zT := zT_in (i := 102) (by decide +kernel) (by decide +kernel)
theorem zw_103 : (Jvm.Cond.fieldLink "DutyLedger" (19 : Nat) "DutyLedger" "batches" "[LDutyLedger$Batch;") ∈ zT := zT_in (i := 103) (by decide +kernel) (by decide +kernel)
theorem zw_104 : (Jvm.Cond.fieldLink "DutyLedger" (23 : Nat) "DutyLedger" "batchCount" "I") ∈ zT := zT_in (i := 104) (by decide +kernel) (by decide +kernel)
theorem zw_105 : (Jvm.Cond.fieldLink "DutyLedger" (29 : Nat) "DutyLedger" "book" "LDutyLedger$Book;") ∈ zT := zT_in (i := 105) (by decide +kernel) (by decide +kernel)
theorem zw_106 : (Jvm.Cond.fieldLink "DutyLedger" (36 : Nat) "DutyLedger" "shares" "LDutyLedger$Shares;") ∈ zT := zT_in (i := 106) (by decide +kernel) (by decide +kernel)
theorem zw_107 : (Jvm.Cond.fieldLink "DutyLedger" (40 : Nat) "DutyLedger" "closedDay" "I") ∈ zT := zT_in (i := 107) (by decide +kernel) (by decide +kernel)
theorem zw_108 : (Jvm.Cond.fieldLink "DutyLedger" (43 : Nat) "DutyLedger" "latestKnown" "I") ∈ zT := zT_in (i := 108) (by decide +kernel) (by decide +kernel)
theorem zw_109 : (Jvm.Cond.fieldLink "DutyLedger" (46 : Nat) "DutyLedger" "wrong" "I") ∈ zT := zT_in (i := 109) (by decide +kernel) (by decide +kernel)
theorem zw_110 : (Jvm.Cond.fieldLink "DutyLedger" (49 : Nat) "DutyLedger" "named" "I") ∈ zT := zT_in (i := 110) (by decide +kernel) (by decide +kernel)
theorem zw_111 : (Jvm.Cond.fieldLink "DutyLedger" (52 : Nat) "DutyLedger" "failures" "I") ∈ zT := zT_in (i := 111) (by decide +kernel) (by decide +kernel)
theorem zw_112 : (Jvm.Cond.laysFinal "DutyLedger" "DutyLedger" "kinds" "[I") ∈ zT := zT_in (i := 112) (by decide +kernel) (by decide +kernel)
theorem zw_114 : (Jvm.Cond.lays "DutyLedger" "DutyLedger" "accountCount" "I") ∈ zT := zT_in (i := 114) (by decide +kernel) (by decide +kernel)
theorem zw_116 : (Jvm.Cond.laysFinal "DutyLedger" "DutyLedger" "batches" "[LDutyLedger$Batch;") ∈ zT := zT_in (i := 116) (by decide +kernel) (by decide +kernel)
theorem zw_118 : (Jvm.Cond.lays "DutyLedger" "DutyLedger" "batchCount" "I") ∈ zT := zT_in (i := 118) (by decide +kernel) (by decide +kernel)
theorem zw_120 : (Jvm.Cond.laysFinal "DutyLedger" "DutyLedger" "book" "LDutyLedger$Book;") ∈ zT := zT_in (i := 120) (by decide +kernel) (by decide +kernel)
theorem zw_122 : (Jvm.Cond.laysFinal "DutyLedger" "DutyLedger" "shares" "LDutyLedger$Shares;") ∈ zT := zT_in (i := 122) (by decide +kernel) (by decide +kernel)
theorem zw_124 : (Jvm.Cond.lays "DutyLedger" "DutyLedger" "closedDay" "I") ∈ zT := zT_in (i := 124) (by decide +kernel) (by decide +kernel)
theorem zw_126 : (Jvm.Cond.lays "DutyLedger" "DutyLedger" "latestKnown" "I") ∈ zT := zT_in (i := 126) (by decide +kernel) (by decide +kernel)
theorem zw_128 : (Jvm.Cond.lays "DutyLedger" "DutyLedger" "wrong" "I") ∈ zT := zT_in (i := 128) (by decide +kernel) (by decide +kernel)
theorem zw_130 : (Jvm.Cond.lays "DutyLedger" "DutyLedger" "named" "I") ∈ zT := zT_in (i := 130) (by decide +kernel) (by decide +kernel)
theorem zw_132 : (Jvm.Cond.lays "DutyLedger" "DutyLedger" "failures" "I") ∈ zT := zT_in (i := 132) (by decide +kernel) (by decide +kernel)
theorem zw_135 : (Jvm.Cond.methodLink "DutyLedgerLaw" (72 : Nat) ({ cls := "DutyLedger", name := "row", desc := "(IIJ)Z" } : Jvm.MethodName)) ∈ zT := zT_in (i := 135) (by decide +kernel) (by decide +kernel)
theorem zw_136 : (Jvm.Cond.instanceMethod ({ cls := "DutyLedger", name := "row", desc := "(IIJ)Z" } : Jvm.MethodName)) ∈ zT := zT_in (i := 136) (by decide +kernel) (by decide +kernel)
theorem zw_137 : (Jvm.Cond.selects "DutyLedger" ({ cls := "DutyLedger", name := "row", desc := "(IIJ)Z" } : Jvm.MethodName) ({ cls := "DutyLedger", name := "row", desc := "(IIJ)Z" } : Jvm.MethodName)) ∈ zT := zT_in (i := 137) (by decide +kernel) (by decide +kernel)
theorem zw_138 : (Jvm.Cond.code ({ cls := "DutyLedger", name := "row", desc := "(IIJ)Z" } : Jvm.MethodName) prog_1_method_4_code (6 : Nat) (Option.some Jvm.ClassFile.FieldType.boolean)) ∈ zT := zT_in (i := 138) (by decide +kernel) (by decide +kernel)
theorem zw_139 : (Jvm.Cond.methodLink "DutyLedger" (85 : Nat) ({ cls := "DutyLedger", name := "batchThatIs", desc := "(II)LDutyLedger$Batch;" } : Jvm.MethodName)) ∈ zT := zT_in (i := 139) (by decide +kernel) (by decide +kernel)
theorem zw_141 : (Jvm.Cond.instanceMethod ({ cls := "DutyLedger", name := "batchThatIs", desc := "(II)LDutyLedger$Batch;" } : Jvm.MethodName)) ∈ zT := zT_in (i := 141) (by decide +kernel) (by decide +kernel)
theorem zw_142 : (Jvm.Cond.code ({ cls := "DutyLedger", name := "batchThatIs", desc := "(II)LDutyLedger$Batch;" } : Jvm.MethodName) prog_1_method_25_code (4 : Nat) (Option.some (Jvm.ClassFile.FieldType.object "DutyLedger$Batch"))) ∈ zT := zT_in (i := 142) (by decide +kernel) (by decide +kernel)
theorem zw_143 : (Jvm.Cond.methodLink "DutyLedger" (209 : Nat) ({ cls := "DutyLedger", name := "batchAt", desc := "(I)LDutyLedger$Batch;" } : Jvm.MethodName)) ∈ zT := zT_in (i := 143) (by decide +kernel) (by decide +kernel)
theorem zw_145 : (Jvm.Cond.instanceMethod ({ cls := "DutyLedger", name := "batchAt", desc := "(I)LDutyLedger$Batch;" } : Jvm.MethodName)) ∈ zT := zT_in (i := 145) (by decide +kernel) (by decide +kernel)
theorem zw_146 : (Jvm.Cond.code ({ cls := "DutyLedger", name := "batchAt", desc := "(I)LDutyLedger$Batch;" } : Jvm.MethodName) prog_1_method_24_code (2 : Nat) (Option.some (Jvm.ClassFile.FieldType.object "DutyLedger$Batch"))) ∈ zT := zT_in (i := 146) (by decide +kernel) (by decide +kernel)
theorem zw_147 : (Jvm.Cond.methodLink "DutyLedger" (89 : Nat) ({ cls := "DutyLedger", name := "isAccount", desc := "(I)Z" } : Jvm.MethodName)) ∈ zT := zT_in (i := 147) (by decide +kernel) (by decide +kernel)
theorem zw_149 : (Jvm.Cond.instanceMethod ({ cls := "DutyLedger", name := "isAccount", desc := "(I)Z" } : Jvm.MethodName)) ∈ zT := zT_in (i := 149) (by decide +kernel) (by decide +kernel)
theorem zw_150 : (Jvm.Cond.code ({ cls := "DutyLedger", name := "isAccount", desc := "(I)Z" } : Jvm.MethodName) prog_1_method_23_code (2 : Nat) (Option.some Jvm.ClassFile.FieldType.boolean)) ∈ zT := zT_in (i := 150) (by decide +kernel) (by decide +kernel)
theorem zw_151 : (Jvm.Cond.methodLink "DutyLedger" (92 : Nat) ({ cls := "DutyLedger", name := "canBeCents", desc := "(J)Z" } : Jvm.MethodName)) ∈ zT := zT_in (i := 151) (by decide +kernel) (by decide +kernel)
theorem zw_152 : (Jvm.Cond.static ({ cls := "DutyLedger", name := "canBeCents", desc := "(J)Z" } : Jvm.MethodName)) ∈ zT := zT_in (i := 152) (by decide +kernel) (by decide +kernel)
theorem zw_153 : (Jvm.Cond.code ({ cls := "DutyLedger", name := "canBeCents", desc := "(J)Z" } : Jvm.MethodName) prog_1_method_22_code (2 : Nat) (Option.some Jvm.ClassFile.FieldType.boolean)) ∈ zT := zT_in (i := 153) (by decide +kernel) (by decide +kernel)
theorem zw_154 : (Jvm.Cond.constantLong "DutyLedger" (229 : Nat) (-1000000000 : Int64)) ∈ zT := zT_in (i := 154) (by decide +kernel) (by decide +kernel)
theorem zw_155 : (Jvm.Cond.constantLong "DutyLedger" (231 : Nat) (1000000000 : Int64)) ∈ zT := zT_in (i := 155) (by decide +kernel) (by decide +kernel)
theorem zw_156 : (Jvm.Cond.methodLink "DutyLedger" (96 : Nat) ({ cls := "DutyLedger$Batch", name := "take", desc := "(IJ)Z" } : Jvm.MethodName)) ∈ zT := zT_in (i := 156) (by decide +kernel) (by decide +kernel)
theorem zw_157 : (Jvm.Cond.instanceMethod ({ cls := "DutyLedger$Batch", name := "take", desc := "(IJ)Z" } : Jvm.MethodName)) ∈ zT := zT_in (i := 157) (by decide +kernel) (by decide +kernel)
theorem zw_158 : (Jvm.Cond.selects "DutyLedger$Batch" ({ cls := "DutyLedger$Batch", name := "take", desc := "(IJ)Z" } : Jvm.MethodName) ({ cls := "DutyLedger$Batch", name := "take", desc := "(IJ)Z" } : Jvm.MethodName)) ∈ zT := zT_in (i := 158) (by decide +kernel) (by decide +kernel)
theorem zw_159 : (Jvm.Cond.code ({ cls := "DutyLedger$Batch", name := "take", desc := "(IJ)Z" } : Jvm.MethodName) prog_2_method_2_code (4 : Nat) (Option.some Jvm.ClassFile.FieldType.boolean)) ∈ zT := zT_in (i := 159) (by decide +kernel) (by decide +kernel)
theorem zw_160 : (Jvm.Cond.methodLink "DutyLedgerLaw" (77 : Nat) ({ cls := "DutyLedger", name := "fails", desc := "(IZ)Z" } : Jvm.MethodName)) ∈ zT := zT_in (i := 160) (by decide +kernel) (by decide +kernel)
theorem zw_161 : (Jvm.Cond.instanceMethod ({ cls := "DutyLedger", name := "fails", desc := "(IZ)Z" } : Jvm.MethodName)) ∈ zT := zT_in (i := 161) (by decide +kernel) (by decide +kernel)
theorem zw_162 : (Jvm.Cond.selects "DutyLedger" ({ cls := "DutyLedger", name := "fails", desc := "(IZ)Z" } : Jvm.MethodName) ({ cls := "DutyLedger", name := "fails", desc := "(IZ)Z" } : Jvm.MethodName)) ∈ zT := zT_in (i := 162) (by decide +kernel) (by decide +kernel)
theorem zw_163 : (Jvm.Cond.code ({ cls := "DutyLedger", name := "fails", desc := "(IZ)Z" } : Jvm.MethodName) prog_1_method_5_code (4 : Nat) (Option.some Jvm.ClassFile.FieldType.boolean)) ∈ zT := zT_in (i := 163) (by decide +kernel) (by decide +kernel)
theorem zw_164 : (Jvm.Cond.methodLink "DutyLedgerLaw" (88 : Nat) ({ cls := "DutyLedger", name := "close", desc := "(I)Z" } : Jvm.MethodName)) ∈ zT := zT_in (i := 164) (by decide +kernel) (by decide +kernel)
theorem zw_165 : (Jvm.Cond.instanceMethod ({ cls := "DutyLedger", name := "close", desc := "(I)Z" } : Jvm.MethodName)) ∈ zT := zT_in (i := 165) (by decide +kernel) (by decide +kernel)
theorem zw_166 : (Jvm.Cond.selects "DutyLedger" ({ cls := "DutyLedger", name := "close", desc := "(I)Z" } : Jvm.MethodName) ({ cls := "DutyLedger", name := "close", desc := "(I)Z" } : Jvm.MethodName)) ∈ zT := zT_in (i := 166) (by decide +kernel) (by decide +kernel)
theorem zw_167 : (Jvm.Cond.code ({ cls := "DutyLedger", name := "close", desc := "(I)Z" } : Jvm.MethodName) prog_1_method_8_code (2 : Nat) (Option.some Jvm.ClassFile.FieldType.boolean)) ∈ zT := zT_in (i := 167) (by decide +kernel) (by decide +kernel)
theorem zw_168 : (Jvm.Cond.methodLink "DutyLedger" (71 : Nat) ({ cls := "DutyLedger", name := "isDay", desc := "(I)Z" } : Jvm.MethodName)) ∈ zT := zT_in (i := 168) (by decide +kernel) (by decide +kernel)
theorem zw_169 : (Jvm.Cond.static ({ cls := "DutyLedger", name := "isDay", desc := "(I)Z" } : Jvm.MethodName)) ∈ zT := zT_in (i := 169) (by decide +kernel) (by decide +kernel)
theorem zw_170 : (Jvm.Cond.code ({ cls := "DutyLedger", name := "isDay", desc := "(I)Z" } : Jvm.MethodName) prog_1_method_18_code (1 : Nat) (Option.some Jvm.ClassFile.FieldType.boolean)) ∈ zT := zT_in (i := 170) (by decide +kernel) (by decide +kernel)
theorem zw_171 : (Jvm.Cond.constant "DutyLedger" (228 : Nat) (100000 : Int32)) ∈ zT := zT_in (i := 171) (by decide +kernel) (by decide +kernel)
theorem zw_172 : (Jvm.Cond.methodLink "DutyLedgerLaw" (100 : Nat) ({ cls := "DutyLedger", name := "part", desc := "(III)Z" } : Jvm.MethodName)) ∈ zT := zT_in (i := 172) (by decide +kernel) (by decide +kernel)
theorem zw_173 : (Jvm.Cond.instanceMethod ({ cls := "DutyLedger", name := "part", desc := "(III)Z" } : Jvm.MethodName)) ∈ zT := zT_in (i := 173) (by decide +kernel) (by decide +kernel)
theorem zw_174 : (Jvm.Cond.selects "DutyLedger" ({ cls := "DutyLedger", name := "part", desc := "(III)Z" } : Jvm.MethodName) ({ cls := "DutyLedger", name := "part", desc := "(III)Z" } : Jvm.MethodName)) ∈ zT := zT_in (i := 174) (by decide +kernel) (by decide +kernel)
theorem zw_175 : (Jvm.Cond.code ({ cls := "DutyLedger", name := "part", desc := "(III)Z" } : Jvm.MethodName) prog_1_method_11_code (4 : Nat) (Option.some Jvm.ClassFile.FieldType.boolean)) ∈ zT := zT_in (i := 175) (by decide +kernel) (by decide +kernel)
theorem zw_176 : (Jvm.Cond.methodLink "DutyLedger" (55 : Nat) ({ cls := "DutyLedger", name := "isKind", desc := "(I)Z" } : Jvm.MethodName)) ∈ zT := zT_in (i := 176) (by decide +kernel) (by decide +kernel)
theorem zw_177 : (Jvm.Cond.static ({ cls := "DutyLedger", name := "isKind", desc := "(I)Z" } : Jvm.MethodName)) ∈ zT := zT_in (i := 177) (by decide +kernel) (by decide +kernel)
theorem zw_178 : (Jvm.Cond.code ({ cls := "DutyLedger", name := "isKind", desc := "(I)Z" } : Jvm.MethodName) prog_1_method_20_code (1 : Nat) (Option.some Jvm.ClassFile.FieldType.boolean)) ∈ zT := zT_in (i := 178) (by decide +kernel) (by decide +kernel)
theorem zw_179 : (Jvm.Cond.methodLink "DutyLedger" (154 : Nat) ({ cls := "DutyLedger", name := "isReceiver", desc := "(I)Z" } : Jvm.MethodName)) ∈ zT := zT_in (i := 179) (by decide +kernel) (by decide +kernel)
theorem zw_180 : (Jvm.Cond.static ({ cls := "DutyLedger", name := "isReceiver", desc := "(I)Z" } : Jvm.MethodName)) ∈ zT := zT_in (i := 180) (by decide +kernel) (by decide +kernel)
theorem zw_181 : (Jvm.Cond.code ({ cls := "DutyLedger", name := "isReceiver", desc := "(I)Z" } : Jvm.MethodName) prog_1_method_21_code (1 : Nat) (Option.some Jvm.ClassFile.FieldType.boolean)) ∈ zT := zT_in (i := 181) (by decide +kernel) (by decide +kernel)
theorem zw_182 : (Jvm.Cond.methodLink "DutyLedger" (157 : Nat) ({ cls := "DutyLedger$Shares", name := "setPart", desc := "(III)V" } : Jvm.MethodName)) ∈ zT := zT_in (i := 182) (by decide +kernel) (by decide +kernel)
theorem zw_183 : (Jvm.Cond.instanceMethod ({ cls := "DutyLedger$Shares", name := "setPart", desc := "(III)V" } : Jvm.MethodName)) ∈ zT := zT_in (i := 183) (by decide +kernel) (by decide +kernel)
theorem zw_184 : (Jvm.Cond.selects "DutyLedger$Shares" ({ cls := "DutyLedger$Shares", name := "setPart", desc := "(III)V" } : Jvm.MethodName) ({ cls := "DutyLedger$Shares", name := "setPart", desc := "(III)V" } : Jvm.MethodName)) ∈ zT := zT_in (i := 184) (by decide +kernel) (by decide +kernel)
theorem zw_185 : (Jvm.Cond.code ({ cls := "DutyLedger$Shares", name := "setPart", desc := "(III)V" } : Jvm.MethodName) prog_4_method_2_code (4 : Nat) (Option.none : Option Jvm.ClassFile.FieldType)) ∈ zT := zT_in (i := 185) (by decide +kernel) (by decide +kernel)
theorem zw_186 : (Jvm.Cond.methodLink "DutyLedgerLaw" (105 : Nat) ({ cls := "DutyLedger", name := "cost", desc := "(II)Z" } : Jvm.MethodName)) ∈ zT := zT_in (i := 186) (by decide +kernel) (by decide +kernel)
theorem zw_187 : (Jvm.Cond.instanceMethod ({ cls := "DutyLedger", name := "cost", desc := "(II)Z" } : Jvm.MethodName)) ∈ zT := zT_in (i := 187) (by decide +kernel) (by decide +kernel)
theorem zw_188 : (Jvm.Cond.selects "DutyLedger" ({ cls := "DutyLedger", name := "cost", desc := "(II)Z" } : Jvm.MethodName) ({ cls := "DutyLedger", name := "cost", desc := "(II)Z" } : Jvm.MethodName)) ∈ zT := zT_in (i := 188) (by decide +kernel) (by decide +kernel)
theorem zw_189 : (Jvm.Cond.code ({ cls := "DutyLedger", name := "cost", desc := "(II)Z" } : Jvm.MethodName) prog_1_method_12_code (3 : Nat) (Option.some Jvm.ClassFile.FieldType.boolean)) ∈ zT := zT_in (i := 189) (by decide +kernel) (by decide +kernel)
theorem zw_190 : (Jvm.Cond.methodLink "DutyLedger" (160 : Nat) ({ cls := "DutyLedger$Shares", name := "setCost", desc := "(II)V" } : Jvm.MethodName)) ∈ zT := zT_in (i := 190) (by decide +kernel) (by decide +kernel)
theorem zw_191 : (Jvm.Cond.instanceMethod ({ cls := "DutyLedger$Shares", name := "setCost", desc := "(II)V" } : Jvm.MethodName)) ∈ zT := zT_in (i := 191) (by decide +kernel) (by decide +kernel)
theorem zw_192 : (Jvm.Cond.selects "DutyLedger$Shares" ({ cls := "DutyLedger$Shares", name := "setCost", desc := "(II)V" } : Jvm.MethodName) ({ cls := "DutyLedger$Shares", name := "setCost", desc := "(II)V" } : Jvm.MethodName)) ∈ zT := zT_in (i := 192) (by decide +kernel) (by decide +kernel)
theorem zw_193 : (Jvm.Cond.code ({ cls := "DutyLedger$Shares", name := "setCost", desc := "(II)V" } : Jvm.MethodName) prog_4_method_3_code (3 : Nat) (Option.none : Option Jvm.ClassFile.FieldType)) ∈ zT := zT_in (i := 193) (by decide +kernel) (by decide +kernel)
theorem zw_194 : (Jvm.Cond.methodLink "DutyLedgerLaw" (123 : Nat) ({ cls := "DutyLedger", name := "count", desc := "(I)I" } : Jvm.MethodName)) ∈ zT := zT_in (i := 194) (by decide +kernel) (by decide +kernel)
theorem zw_195 : (Jvm.Cond.instanceMethod ({ cls := "DutyLedger", name := "count", desc := "(I)I" } : Jvm.MethodName)) ∈ zT := zT_in (i := 195) (by decide +kernel) (by decide +kernel)
theorem zw_196 : (Jvm.Cond.selects "DutyLedger" ({ cls := "DutyLedger", name := "count", desc := "(I)I" } : Jvm.MethodName) ({ cls := "DutyLedger", name := "count", desc := "(I)I" } : Jvm.MethodName)) ∈ zT := zT_in (i := 196) (by decide +kernel) (by decide +kernel)
theorem zw_197 : (Jvm.Cond.code ({ cls := "DutyLedger", name := "count", desc := "(I)I" } : Jvm.MethodName) prog_1_method_17_code (2 : Nat) (Option.some Jvm.ClassFile.FieldType.int)) ∈ zT := zT_in (i := 197) (by decide +kernel) (by decide +kernel)
theorem zw_198 : (Jvm.Cond.methodLink "DutyLedgerLaw" (56 : Nat) ({ cls := "DutyLedgerLaw", name := "account", desc := "(LDutyLedger;I[J)I" } : Jvm.MethodName)) ∈ zT := zT_in (i := 198) (by decide +kernel) (by decide +kernel)
theorem zw_199 : (Jvm.Cond.static ({ cls := "DutyLedgerLaw", name := "account", desc := "(LDutyLedger;I[J)I" } : Jvm.MethodName)) ∈ zT := zT_in (i := 199) (by decide +kernel) (by decide +kernel)
theorem zw_200 : (Jvm.Cond.codeWith ({ cls := "DutyLedgerLaw", name := "account", desc := "(LDutyLedger;I[J)I" } : Jvm.MethodName) method_3_code (4 : Nat) (Option.some Jvm.ClassFile.FieldType.int) [((0 : Nat), (9 : Nat), (12 : Nat), (13 : Nat)), ((0 : Nat), (9 : Nat), (15 : Nat), (15 : Nat))]) ∈ zT := zT_in (i := 200) (by decide +kernel) (by decide +kernel)
theorem zw_201 : (Jvm.Cond.classLink "DutyLedgerLaw" (13 : Nat) "java/lang/IllegalArgumentException") ∈ zT := zT_in (i := 201) (by decide +kernel) (by decide +kernel)
theorem zw_202 : (Jvm.Cond.classLink "DutyLedgerLaw" (15 : Nat) "java/lang/IllegalStateException") ∈ zT := zT_in (i := 202) (by decide +kernel) (by decide +kernel)
theorem zw_203 : (Jvm.Cond.methodLink "DutyLedgerLaw" (7 : Nat) ({ cls := "DutyLedger", name := "account", desc := "(I)I" } : Jvm.MethodName)) ∈ zT := zT_in (i := 203) (by decide +kernel) (by decide +kernel)
theorem zw_204 : (Jvm.Cond.instanceMethod ({ cls := "DutyLedger", name := "account", desc := "(I)I" } : Jvm.MethodName)) ∈ zT := zT_in (i := 204) (by decide +kernel) (by decide +kernel)
theorem zw_205 : (Jvm.Cond.selects "DutyLedger" ({ cls := "DutyLedger", name := "account", desc := "(I)I" } : Jvm.MethodName) ({ cls := "DutyLedger", name := "account", desc := "(I)I" } : Jvm.MethodName)) ∈ zT := zT_in (i := 205) (by decide +kernel) (by decide +kernel)
theorem zw_206 : (Jvm.Cond.code ({ cls := "DutyLedger", name := "account", desc := "(I)I" } : Jvm.MethodName) prog_1_method_2_code (2 : Nat) (Option.some Jvm.ClassFile.FieldType.int)) ∈ zT := zT_in (i := 206) (by decide +kernel) (by decide +kernel)
theorem zw_207 : (Jvm.Cond.classLink "DutyLedger" (59 : Nat) "java/lang/IllegalArgumentException") ∈ zT := zT_in (i := 207) (by decide +kernel) (by decide +kernel)
theorem zw_208 : (Jvm.Cond.instantiable "java/lang/IllegalArgumentException" (6 : Nat)) ∈ zT := zT_in (i := 208) (by decide +kernel) (by decide +kernel)
theorem zw_216 : (Jvm.Cond.selects "java/lang/IllegalArgumentException" ({ cls := "java/lang/Throwable", name := "fillInStackTrace", desc := "(I)Ljava/lang/Throwable;" } : Jvm.MethodName) ({ cls := "java/lang/Throwable", name := "fillInStackTrace", desc := "(I)Ljava/lang/Throwable;" } : Jvm.MethodName)) ∈ zT := zT_in (i := 216) (by decide +kernel) (by decide +kernel)
theorem zw_217 : (Jvm.Cond.selects "java/lang/IllegalArgumentException" ({ cls := "java/lang/Throwable", name := "fillInStackTrace", desc := "()Ljava/lang/Throwable;" } : Jvm.MethodName) ({ cls := "java/lang/Throwable", name := "fillInStackTrace", desc := "()Ljava/lang/Throwable;" } : Jvm.MethodName)) ∈ zT := zT_in (i := 217) (by decide +kernel) (by decide +kernel)
theorem zw_218 : (Jvm.Cond.lays "java/lang/IllegalArgumentException" "java/lang/Throwable" "cause" "Ljava/lang/Throwable;") ∈ zT := zT_in (i := 218) (by decide +kernel) (by decide +kernel)
theorem zw_219 : (Jvm.Cond.lays "java/lang/Throwable" "java/lang/Throwable" "cause" "Ljava/lang/Throwable;") ∈ zT := zT_in (i := 219) (by decide +kernel) (by decide +kernel)
theorem zw_220 : (Jvm.Cond.lays "java/lang/IllegalArgumentException" "java/lang/Throwable" "stackTrace" "[Ljava/lang/StackTraceElement;") ∈ zT := zT_in (i := 220) (by decide +kernel) (by decide +kernel)
theorem zw_221 : (Jvm.Cond.lays "java/lang/Throwable" "java/lang/Throwable" "stackTrace" "[Ljava/lang/StackTraceElement;") ∈ zT := zT_in (i := 221) (by decide +kernel) (by decide +kernel)
theorem zw_222 : (Jvm.Cond.lays "java/lang/IllegalArgumentException" "java/lang/Throwable" "suppressedExceptions" "Ljava/util/List;") ∈ zT := zT_in (i := 222) (by decide +kernel) (by decide +kernel)
theorem zw_223 : (Jvm.Cond.lays "java/lang/Throwable" "java/lang/Throwable" "suppressedExceptions" "Ljava/util/List;") ∈ zT := zT_in (i := 223) (by decide +kernel) (by decide +kernel)
theorem zw_224 : (Jvm.Cond.lays "java/lang/IllegalArgumentException" "java/lang/Throwable" "detailMessage" "Ljava/lang/String;") ∈ zT := zT_in (i := 224) (by decide +kernel) (by decide +kernel)
theorem zw_225 : (Jvm.Cond.lays "java/lang/Throwable" "java/lang/Throwable" "detailMessage" "Ljava/lang/String;") ∈ zT := zT_in (i := 225) (by decide +kernel) (by decide +kernel)
theorem zw_226 : (Jvm.Cond.lays "java/lang/IllegalArgumentException" "java/lang/Throwable" "backtrace" "Ljava/lang/Object;") ∈ zT := zT_in (i := 226) (by decide +kernel) (by decide +kernel)
theorem zw_227 : (Jvm.Cond.lays "java/lang/Throwable" "java/lang/Throwable" "backtrace" "Ljava/lang/Object;") ∈ zT := zT_in (i := 227) (by decide +kernel) (by decide +kernel)
theorem zw_228 : (Jvm.Cond.fieldLink "java/lang/Throwable" (198 : Nat) "java/lang/Throwable" "backtrace" "Ljava/lang/Object;") ∈ zT := zT_in (i := 228) (by decide +kernel) (by decide +kernel)
theorem zw_230 : (Jvm.Cond.instanceMethod ({ cls := "java/lang/Throwable", name := "<init>", desc := "()V" } : Jvm.MethodName)) ∈ zT := zT_in (i := 230) (by decide +kernel) (by decide +kernel)
theorem zw_231 : (Jvm.Cond.code ({ cls := "java/lang/Throwable", name := "<init>", desc := "()V" } : Jvm.MethodName) prog_14_method_1_code (1 : Nat) (Option.none : Option Jvm.ClassFile.FieldType)) ∈ zT := zT_in (i := 231) (by decide +kernel) (by decide +kernel)
theorem zw_232 : (Jvm.Cond.methodLink "java/lang/Throwable" (1 : Nat) ({ cls := "java/lang/Object", name := "<init>", desc := "()V" } : Jvm.MethodName)) ∈ zT := zT_in (i := 232) (by decide +kernel) (by decide +kernel)
theorem zw_233 : (Jvm.Cond.fieldLink "java/lang/Throwable" (13 : Nat) "java/lang/Throwable" "UNASSIGNED_STACK" "[Ljava/lang/StackTraceElement;") ∈ zT := zT_in (i := 233) (by decide +kernel) (by decide +kernel)
theorem zw_235 : (Jvm.Cond.fieldLink "java/lang/Throwable" (20 : Nat) "java/lang/Throwable" "SUPPRESSED_SENTINEL" "Ljava/util/List;") ∈ zT := zT_in (i := 235) (by decide +kernel) (by decide +kernel)
theorem zw_237 : (Jvm.Cond.methodLink "java/lang/Throwable" (27 : Nat) ({ cls := "java/lang/Throwable", name := "fillInStackTrace", desc := "()Ljava/lang/Throwable;" } : Jvm.MethodName)) ∈ zT := zT_in (i := 237) (by decide +kernel) (by decide +kernel)
theorem zw_238 : (Jvm.Cond.instanceMethod ({ cls := "java/lang/Throwable", name := "fillInStackTrace", desc := "()Ljava/lang/Throwable;" } : Jvm.MethodName)) ∈ zT := zT_in (i := 238) (by decide +kernel) (by decide +kernel)
theorem zw_240 : (Jvm.Cond.selects "java/lang/IllegalStateException" ({ cls := "java/lang/Throwable", name := "fillInStackTrace", desc := "()Ljava/lang/Throwable;" } : Jvm.MethodName) ({ cls := "java/lang/Throwable", name := "fillInStackTrace", desc := "()Ljava/lang/Throwable;" } : Jvm.MethodName)) ∈ zT := zT_in (i := 240) (by decide +kernel) (by decide +kernel)
theorem zw_241 : (Jvm.Cond.selects "java/lang/IndexOutOfBoundsException" ({ cls := "java/lang/Throwable", name := "fillInStackTrace", desc := "()Ljava/lang/Throwable;" } : Jvm.MethodName) ({ cls := "java/lang/Throwable", name := "fillInStackTrace", desc := "()Ljava/lang/Throwable;" } : Jvm.MethodName)) ∈ zT := zT_in (i := 241) (by decide +kernel) (by decide +kernel)
theorem zw_242 : (Jvm.Cond.selects "java/lang/UnsupportedOperationException" ({ cls := "java/lang/Throwable", name := "fillInStackTrace", desc := "()Ljava/lang/Throwable;" } : Jvm.MethodName) ({ cls := "java/lang/Throwable", name := "fillInStackTrace", desc := "()Ljava/lang/Throwable;" } : Jvm.MethodName)) ∈ zT := zT_in (i := 242) (by decide +kernel) (by decide +kernel)
theorem zw_244 : (Jvm.Cond.methodLink "java/lang/Throwable" (202 : Nat) ({ cls := "java/lang/Throwable", name := "fillInStackTrace", desc := "(I)Ljava/lang/Throwable;" } : Jvm.MethodName)) ∈ zT := zT_in (i := 244) (by decide +kernel) (by decide +kernel)
theorem zw_246 : (Jvm.Cond.instanceMethod ({ cls := "java/lang/Throwable", name := "fillInStackTrace", desc := "(I)Ljava/lang/Throwable;" } : Jvm.MethodName)) ∈ zT := zT_in (i := 246) (by decide +kernel) (by decide +kernel)
theorem zw_247 : (Jvm.Cond.instantiable "java/lang/Throwable" (6 : Nat)) ∈ zT := zT_in (i := 247) (by decide +kernel) (by decide +kernel)
theorem zw_250 : (Jvm.Cond.methodLink "DutyLedger" (63 : Nat) ({ cls := "java/lang/IllegalArgumentException", name := "<init>", desc := "(Ljava/lang/String;)V" } : Jvm.MethodName)) ∈ zT := zT_in (i := 250) (by decide +kernel) (by decide +kernel)
theorem zw_251 : (Jvm.Cond.instanceMethod ({ cls := "java/lang/IllegalArgumentException", name := "<init>", desc := "(Ljava/lang/String;)V" } : Jvm.MethodName)) ∈ zT := zT_in (i := 251) (by decide +kernel) (by decide +kernel)
theorem zw_252 : (Jvm.Cond.code ({ cls := "java/lang/IllegalArgumentException", name := "<init>", desc := "(Ljava/lang/String;)V" } : Jvm.MethodName) prog_8_method_2_code (2 : Nat) (Option.none : Option Jvm.ClassFile.FieldType)) ∈ zT := zT_in (i := 252) (by decide +kernel) (by decide +kernel)
theorem zw_253 : (Jvm.Cond.methodLink "java/lang/IllegalArgumentException" (7 : Nat) ({ cls := "java/lang/RuntimeException", name := "<init>", desc := "(Ljava/lang/String;)V" } : Jvm.MethodName)) ∈ zT := zT_in (i := 253) (by decide +kernel) (by decide +kernel)
theorem zw_254 : (Jvm.Cond.instanceMethod ({ cls := "java/lang/RuntimeException", name := "<init>", desc := "(Ljava/lang/String;)V" } : Jvm.MethodName)) ∈ zT := zT_in (i := 254) (by decide +kernel) (by decide +kernel)
theorem zw_255 : (Jvm.Cond.code ({ cls := "java/lang/RuntimeException", name := "<init>", desc := "(Ljava/lang/String;)V" } : Jvm.MethodName) prog_12_method_2_code (2 : Nat) (Option.none : Option Jvm.ClassFile.FieldType)) ∈ zT := zT_in (i := 255) (by decide +kernel) (by decide +kernel)
theorem zw_256 : (Jvm.Cond.methodLink "java/lang/RuntimeException" (7 : Nat) ({ cls := "java/lang/Exception", name := "<init>", desc := "(Ljava/lang/String;)V" } : Jvm.MethodName)) ∈ zT := zT_in (i := 256) (by decide +kernel) (by decide +kernel)
theorem zw_257 : (Jvm.Cond.instanceMethod ({ cls := "java/lang/Exception", name := "<init>", desc := "(Ljava/lang/String;)V" } : Jvm.MethodName)) ∈ zT := zT_in (i := 257) (by decide +kernel) (by decide +kernel)
theorem zw_258 : (Jvm.Cond.code ({ cls := "java/lang/Exception", name := "<init>", desc := "(Ljava/lang/String;)V" } : Jvm.MethodName) prog_7_method_2_code (2 : Nat) (Option.none : Option Jvm.ClassFile.FieldType)) ∈ zT := zT_in (i := 258) (by decide +kernel) (by decide +kernel)
theorem zw_259 : (Jvm.Cond.methodLink "java/lang/Exception" (7 : Nat) ({ cls := "java/lang/Throwable", name := "<init>", desc := "(Ljava/lang/String;)V" } : Jvm.MethodName)) ∈ zT := zT_in (i := 259) (by decide +kernel) (by decide +kernel)
theorem zw_260 : (Jvm.Cond.instanceMethod ({ cls := "java/lang/Throwable", name := "<init>", desc := "(Ljava/lang/String;)V" } : Jvm.MethodName)) ∈ zT := zT_in (i := 260) (by decide +kernel) (by decide +kernel)
theorem zw_261 : (Jvm.Cond.code ({ cls := "java/lang/Throwable", name := "<init>", desc := "(Ljava/lang/String;)V" } : Jvm.MethodName) prog_14_method_2_code (2 : Nat) (Option.none : Option Jvm.ClassFile.FieldType)) ∈ zT := zT_in (i := 261) (by decide +kernel) (by decide +kernel)
theorem zw_263 : (Jvm.Cond.fieldLink "java/lang/Throwable" (31 : Nat) "java/lang/Throwable" "detailMessage" "Ljava/lang/String;") ∈ zT := zT_in (i := 263) (by decide +kernel) (by decide +kernel)
theorem zw_264 : (Jvm.Cond.fieldLink "java/lang/Throwable" (7 : Nat) "java/lang/Throwable" "cause" "Ljava/lang/Throwable;") ∈ zT := zT_in (i := 264) (by decide +kernel) (by decide +kernel)
theorem zw_265 : (Jvm.Cond.fieldLink "java/lang/Throwable" (17 : Nat) "java/lang/Throwable" "stackTrace" "[Ljava/lang/StackTraceElement;") ∈ zT := zT_in (i := 265) (by decide +kernel) (by decide +kernel)
theorem zw_266 : (Jvm.Cond.fieldLink "java/lang/Throwable" (24 : Nat) "java/lang/Throwable" "suppressedExceptions" "Ljava/util/List;") ∈ zT := zT_in (i := 266) (by decide +kernel) (by decide +kernel)
theorem zw_271 : (Jvm.Cond.lays "java/lang/IllegalArgumentException" "java/lang/Throwable" "depth" "I") ∈ zT := zT_in (i := 271) (by decide +kernel) (by decide +kernel)
theorem zw_275 : (Jvm.Cond.arrayClass Jvm.ClassFile.FieldType.byte) ∈ zT := zT_in (i := 275) (by decide +kernel) (by decide +kernel)
theorem zw_276 : (Jvm.Cond.classLink "DutyLedger" (66 : Nat) "java/lang/IllegalStateException") ∈ zT := zT_in (i := 276) (by decide +kernel) (by decide +kernel)
theorem zw_277 : (Jvm.Cond.instantiable "java/lang/IllegalStateException" (6 : Nat)) ∈ zT := zT_in (i := 277) (by decide +kernel) (by decide +kernel)
theorem zw_279 : (Jvm.Cond.selects "java/lang/IllegalStateException" ({ cls := "java/lang/Throwable", name := "fillInStackTrace", desc := "(I)Ljava/lang/Throwable;" } : Jvm.MethodName) ({ cls := "java/lang/Throwable", name := "fillInStackTrace", desc := "(I)Ljava/lang/Throwable;" } : Jvm.MethodName)) ∈ zT := zT_in (i := 279) (by decide +kernel) (by decide +kernel)
theorem zw_280 : (Jvm.Cond.lays "java/lang/IllegalStateException" "java/lang/Throwable" "cause" "Ljava/lang/Throwable;") ∈ zT := zT_in (i := 280) (by decide +kernel) (by decide +kernel)
theorem zw_281 : (Jvm.Cond.lays "java/lang/IllegalStateException" "java/lang/Throwable" "stackTrace" "[Ljava/lang/StackTraceElement;") ∈ zT := zT_in (i := 281) (by decide +kernel) (by decide +kernel)
theorem zw_282 : (Jvm.Cond.lays "java/lang/IllegalStateException" "java/lang/Throwable" "suppressedExceptions" "Ljava/util/List;") ∈ zT := zT_in (i := 282) (by decide +kernel) (by decide +kernel)
theorem zw_283 : (Jvm.Cond.lays "java/lang/IllegalStateException" "java/lang/Throwable" "detailMessage" "Ljava/lang/String;") ∈ zT := zT_in (i := 283) (by decide +kernel) (by decide +kernel)
theorem zw_284 : (Jvm.Cond.lays "java/lang/IllegalStateException" "java/lang/Throwable" "backtrace" "Ljava/lang/Object;") ∈ zT := zT_in (i := 284) (by decide +kernel) (by decide +kernel)
theorem zw_286 : (Jvm.Cond.methodLink "DutyLedger" (70 : Nat) ({ cls := "java/lang/IllegalStateException", name := "<init>", desc := "(Ljava/lang/String;)V" } : Jvm.MethodName)) ∈ zT := zT_in (i := 286) (by decide +kernel) (by decide +kernel)
theorem zw_287 : (Jvm.Cond.instanceMethod ({ cls := "java/lang/IllegalStateException", name := "<init>", desc := "(Ljava/lang/String;)V" } : Jvm.MethodName)) ∈ zT := zT_in (i := 287) (by decide +kernel) (by decide +kernel)
theorem zw_288 : (Jvm.Cond.code ({ cls := "java/lang/IllegalStateException", name := "<init>", desc := "(Ljava/lang/String;)V" } : Jvm.MethodName) prog_9_method_2_code (2 : Nat) (Option.none : Option Jvm.ClassFile.FieldType)) ∈ zT := zT_in (i := 288) (by decide +kernel) (by decide +kernel)
theorem zw_289 : (Jvm.Cond.methodLink "java/lang/IllegalStateException" (7 : Nat) ({ cls := "java/lang/RuntimeException", name := "<init>", desc := "(Ljava/lang/String;)V" } : Jvm.MethodName)) ∈ zT := zT_in (i := 289) (by decide +kernel) (by decide +kernel)
theorem zw_290 : (Jvm.Cond.lays "java/lang/IllegalStateException" "java/lang/Throwable" "depth" "I") ∈ zT := zT_in (i := 290) (by decide +kernel) (by decide +kernel)
theorem zw_292 : (Jvm.Cond.methodLink "DutyLedgerLaw" (66 : Nat) ({ cls := "DutyLedgerLaw", name := "batch", desc := "(LDutyLedger;II[J)I" } : Jvm.MethodName)) ∈ zT := zT_in (i := 292) (by decide +kernel) (by decide +kernel)
theorem zw_293 : (Jvm.Cond.static ({ cls := "DutyLedgerLaw", name := "batch", desc := "(LDutyLedger;II[J)I" } : Jvm.MethodName)) ∈ zT := zT_in (i := 293) (by decide +kernel) (by decide +kernel)
theorem zw_294 : (Jvm.Cond.codeWith ({ cls := "DutyLedgerLaw", name := "batch", desc := "(LDutyLedger;II[J)I" } : Jvm.MethodName) method_4_code (5 : Nat) (Option.some Jvm.ClassFile.FieldType.int) [((0 : Nat), (10 : Nat), (13 : Nat), (13 : Nat)), ((0 : Nat), (10 : Nat), (17 : Nat), (15 : Nat))]) ∈ zT := zT_in (i := 294) (by decide +kernel) (by decide +kernel)
theorem zw_295 : (Jvm.Cond.methodLink "DutyLedgerLaw" (17 : Nat) ({ cls := "DutyLedger", name := "batch", desc := "(II)I" } : Jvm.MethodName)) ∈ zT := zT_in (i := 295) (by decide +kernel) (by decide +kernel)
theorem zw_296 : (Jvm.Cond.instanceMethod ({ cls := "DutyLedger", name := "batch", desc := "(II)I" } : Jvm.MethodName)) ∈ zT := zT_in (i := 296) (by decide +kernel) (by decide +kernel)
theorem zw_297 : (Jvm.Cond.selects "DutyLedger" ({ cls := "DutyLedger", name := "batch", desc := "(II)I" } : Jvm.MethodName) ({ cls := "DutyLedger", name := "batch", desc := "(II)I" } : Jvm.MethodName)) ∈ zT := zT_in (i := 297) (by decide +kernel) (by decide +kernel)
theorem zw_298 : (Jvm.Cond.code ({ cls := "DutyLedger", name := "batch", desc := "(II)I" } : Jvm.MethodName) prog_1_method_3_code (3 : Nat) (Option.some Jvm.ClassFile.FieldType.int)) ∈ zT := zT_in (i := 298) (by decide +kernel) (by decide +kernel)
theorem zw_301 : (Jvm.Cond.instantiable "DutyLedger$Batch" (9 : Nat)) ∈ zT := zT_in (i := 301) (by decide +kernel) (by decide +kernel)
theorem zw_302 : (Jvm.Cond.methodLink "DutyLedger" (78 : Nat) ({ cls := "DutyLedger$Batch", name := "<init>", desc := "(III)V" } : Jvm.MethodName)) ∈ zT := zT_in (i := 302) (by decide +kernel) (by decide +kernel)
theorem zw_303 : (Jvm.Cond.instanceMethod ({ cls := "DutyLedger$Batch", name := "<init>", desc := "(III)V" } : Jvm.MethodName)) ∈ zT := zT_in (i := 303) (by decide +kernel) (by decide +kernel)
theorem zw_304 : (Jvm.Cond.code ({ cls := "DutyLedger$Batch", name := "<init>", desc := "(III)V" } : Jvm.MethodName) prog_2_method_1_code (4 : Nat) (Option.none : Option Jvm.ClassFile.FieldType)) ∈ zT := zT_in (i := 304) (by decide +kernel) (by decide +kernel)
theorem zw_305 : (Jvm.Cond.methodLink "DutyLedger$Batch" (3 : Nat) ({ cls := "java/lang/Object", name := "<init>", desc := "()V" } : Jvm.MethodName)) ∈ zT := zT_in (i := 305) (by decide +kernel) (by decide +kernel)
theorem zw_306 : (Jvm.Cond.fieldLink "DutyLedger$Batch" (33 : Nat) "DutyLedger$Batch" "valid" "I") ∈ zT := zT_in (i := 306) (by decide +kernel) (by decide +kernel)
theorem zw_307 : (Jvm.Cond.fieldLink "DutyLedger$Book" (39 : Nat) "DutyLedger$Batch" "valid" "I") ∈ zT := zT_in (i := 307) (by decide +kernel) (by decide +kernel)
theorem zw_308 : (Jvm.Cond.fieldLink "DutyLedger" (219 : Nat) "DutyLedger$Batch" "valid" "I") ∈ zT := zT_in (i := 308) (by decide +kernel) (by decide +kernel)
theorem zw_309 : (Jvm.Cond.fieldLink "DutyLedger$Batch" (36 : Nat) "DutyLedger$Batch" "known" "I") ∈ zT := zT_in (i := 309) (by decide +kernel) (by decide +kernel)
theorem zw_310 : (Jvm.Cond.fieldLink "DutyLedger$Book" (42 : Nat) "DutyLedger$Batch" "known" "I") ∈ zT := zT_in (i := 310) (by decide +kernel) (by decide +kernel)
theorem zw_311 : (Jvm.Cond.fieldLink "DutyLedger" (222 : Nat) "DutyLedger$Batch" "known" "I") ∈ zT := zT_in (i := 311) (by decide +kernel) (by decide +kernel)
theorem zw_312 : (Jvm.Cond.fieldLink "DutyLedger$Batch" (39 : Nat) "DutyLedger$Batch" "reverses" "I") ∈ zT := zT_in (i := 312) (by decide +kernel) (by decide +kernel)
theorem zw_313 : (Jvm.Cond.fieldLink "DutyLedger" (129 : Nat) "DutyLedger$Batch" "reverses" "I") ∈ zT := zT_in (i := 313) (by decide +kernel) (by decide +kernel)
theorem zw_314 : (Jvm.Cond.fieldLink "DutyLedger$Batch" (9 : Nat) "DutyLedger$Batch" "accounts" "[I") ∈ zT := zT_in (i := 314) (by decide +kernel) (by decide +kernel)
theorem zw_315 : (Jvm.Cond.fieldLink "DutyLedger$Book" (35 : Nat) "DutyLedger$Batch" "accounts" "[I") ∈ zT := zT_in (i := 315) (by decide +kernel) (by decide +kernel)
theorem zw_316 : (Jvm.Cond.fieldLink "DutyLedger" (262 : Nat) "DutyLedger$Batch" "accounts" "[I") ∈ zT := zT_in (i := 316) (by decide +kernel) (by decide +kernel)
theorem zw_317 : (Jvm.Cond.fieldLink "DutyLedger$Batch" (15 : Nat) "DutyLedger$Batch" "cents" "[J") ∈ zT := zT_in (i := 317) (by decide +kernel) (by decide +kernel)
theorem zw_318 : (Jvm.Cond.fieldLink "DutyLedger$Book" (38 : Nat) "DutyLedger$Batch" "cents" "[J") ∈ zT := zT_in (i := 318) (by decide +kernel) (by decide +kernel)
theorem zw_319 : (Jvm.Cond.fieldLink "DutyLedger" (263 : Nat) "DutyLedger$Batch" "cents" "[J") ∈ zT := zT_in (i := 319) (by decide +kernel) (by decide +kernel)
theorem zw_320 : (Jvm.Cond.fieldLink "DutyLedger$Batch" (19 : Nat) "DutyLedger$Batch" "size" "I") ∈ zT := zT_in (i := 320) (by decide +kernel) (by decide +kernel)
theorem zw_321 : (Jvm.Cond.fieldLink "DutyLedger" (218 : Nat) "DutyLedger$Batch" "size" "I") ∈ zT := zT_in (i := 321) (by decide +kernel) (by decide +kernel)
theorem zw_322 : (Jvm.Cond.fieldLink "DutyLedger$Batch" (23 : Nat) "DutyLedger$Batch" "state" "I") ∈ zT := zT_in (i := 322) (by decide +kernel) (by decide +kernel)
theorem zw_323 : (Jvm.Cond.fieldLink "DutyLedger" (215 : Nat) "DutyLedger$Batch" "state" "I") ∈ zT := zT_in (i := 323) (by decide +kernel) (by decide +kernel)
theorem zw_324 : (Jvm.Cond.fieldLink "DutyLedger$Batch" (26 : Nat) "DutyLedger$Batch" "reversedBy" "I") ∈ zT := zT_in (i := 324) (by decide +kernel) (by decide +kernel)
theorem zw_325 : (Jvm.Cond.fieldLink "DutyLedger" (132 : Nat) "DutyLedger$Batch" "reversedBy" "I") ∈ zT := zT_in (i := 325) (by decide +kernel) (by decide +kernel)
theorem zw_326 : (Jvm.Cond.fieldLink "DutyLedger$Batch" (29 : Nat) "DutyLedger$Batch" "toldToFail" "Z") ∈ zT := zT_in (i := 326) (by decide +kernel) (by decide +kernel)
theorem zw_327 : (Jvm.Cond.fieldLink "DutyLedger" (100 : Nat) "DutyLedger$Batch" "toldToFail" "Z") ∈ zT := zT_in (i := 327) (by decide +kernel) (by decide +kernel)
theorem zw_328 : (Jvm.Cond.laysFinal "DutyLedger$Batch" "DutyLedger$Batch" "valid" "I") ∈ zT := zT_in (i := 328) (by decide +kernel) (by decide +kernel)
theorem zw_330 : (Jvm.Cond.laysFinal "DutyLedger$Batch" "DutyLedger$Batch" "known" "I") ∈ zT := zT_in (i := 330) (by decide +kernel) (by decide +kernel)
theorem zw_332 : (Jvm.Cond.laysFinal "DutyLedger$Batch" "DutyLedger$Batch" "reverses" "I") ∈ zT := zT_in (i := 332) (by decide +kernel) (by decide +kernel)
theorem zw_334 : (Jvm.Cond.laysFinal "DutyLedger$Batch" "DutyLedger$Batch" "accounts" "[I") ∈ zT := zT_in (i := 334) (by decide +kernel) (by decide +kernel)
theorem zw_336 : (Jvm.Cond.laysFinal "DutyLedger$Batch" "DutyLedger$Batch" "cents" "[J") ∈ zT := zT_in (i := 336) (by decide +kernel) (by decide +kernel)
theorem zw_338 : (Jvm.Cond.lays "DutyLedger$Batch" "DutyLedger$Batch" "size" "I") ∈ zT := zT_in (i := 338) (by decide +kernel) (by decide +kernel)
theorem zw_340 : (Jvm.Cond.lays "DutyLedger$Batch" "DutyLedger$Batch" "state" "I") ∈ zT := zT_in (i := 340) (by decide +kernel) (by decide +kernel)
theorem zw_342 : (Jvm.Cond.lays "DutyLedger$Batch" "DutyLedger$Batch" "reversedBy" "I") ∈ zT := zT_in (i := 342) (by decide +kernel) (by decide +kernel)
theorem zw_344 : (Jvm.Cond.lays "DutyLedger$Batch" "DutyLedger$Batch" "toldToFail" "Z") ∈ zT := zT_in (i := 344) (by decide +kernel) (by decide +kernel)
theorem zw_347 : (Jvm.Cond.methodLink "DutyLedger" (81 : Nat) ({ cls := "DutyLedger", name := "keep", desc := "(LDutyLedger$Batch;)I" } : Jvm.MethodName)) ∈ zT := zT_in (i := 347) (by decide +kernel) (by decide +kernel)
theorem zw_349 : (Jvm.Cond.instanceMethod ({ cls := "DutyLedger", name := "keep", desc := "(LDutyLedger$Batch;)I" } : Jvm.MethodName)) ∈ zT := zT_in (i := 349) (by decide +kernel) (by decide +kernel)
theorem zw_350 : (Jvm.Cond.code ({ cls := "DutyLedger", name := "keep", desc := "(LDutyLedger$Batch;)I" } : Jvm.MethodName) prog_1_method_26_code (2 : Nat) (Option.some Jvm.ClassFile.FieldType.int)) ∈ zT := zT_in (i := 350) (by decide +kernel) (by decide +kernel)
theorem zw_351 : (Jvm.Cond.methodLink "DutyLedgerLaw" (82 : Nat) ({ cls := "DutyLedgerLaw", name := "post", desc := "(LDutyLedger;I[J)I" } : Jvm.MethodName)) ∈ zT := zT_in (i := 351) (by decide +kernel) (by decide +kernel)
theorem zw_352 : (Jvm.Cond.static ({ cls := "DutyLedgerLaw", name := "post", desc := "(LDutyLedger;I[J)I" } : Jvm.MethodName)) ∈ zT := zT_in (i := 352) (by decide +kernel) (by decide +kernel)
theorem zw_353 : (Jvm.Cond.codeWith ({ cls := "DutyLedgerLaw", name := "post", desc := "(LDutyLedger;I[J)I" } : Jvm.MethodName) method_5_code (4 : Nat) (Option.some Jvm.ClassFile.FieldType.int) [((0 : Nat), (9 : Nat), (12 : Nat), (13 : Nat)), ((0 : Nat), (9 : Nat), (15 : Nat), (15 : Nat)), ((0 : Nat), (9 : Nat), (18 : Nat), (24 : Nat))]) ∈ zT := zT_in (i := 353) (by decide +kernel) (by decide +kernel)
theorem zw_354 : (Jvm.Cond.classLink "DutyLedgerLaw" (24 : Nat) "java/lang/UnsupportedOperationException") ∈ zT := zT_in (i := 354) (by decide +kernel) (by decide +kernel)
theorem zw_355 : (Jvm.Cond.methodLink "DutyLedgerLaw" (21 : Nat) ({ cls := "DutyLedger", name := "post", desc := "(I)I" } : Jvm.MethodName)) ∈ zT := zT_in (i := 355) (by decide +kernel) (by decide +kernel)
theorem zw_356 : (Jvm.Cond.instanceMethod ({ cls := "DutyLedger", name := "post", desc := "(I)I" } : Jvm.MethodName)) ∈ zT := zT_in (i := 356) (by decide +kernel) (by decide +kernel)
theorem zw_357 : (Jvm.Cond.selects "DutyLedger" ({ cls := "DutyLedger", name := "post", desc := "(I)I" } : Jvm.MethodName) ({ cls := "DutyLedger", name := "post", desc := "(I)I" } : Jvm.MethodName)) ∈ zT := zT_in (i := 357) (by decide +kernel) (by decide +kernel)
theorem zw_358 : (Jvm.Cond.code ({ cls := "DutyLedger", name := "post", desc := "(I)I" } : Jvm.MethodName) prog_1_method_6_code (4 : Nat) (Option.some Jvm.ClassFile.FieldType.int)) ∈ zT := zT_in (i := 358) (by decide +kernel) (by decide +kernel)
theorem zw_360 : (Jvm.Cond.methodLink "DutyLedger" (106 : Nat) ({ cls := "DutyLedger", name := "whatIsWrongWith", desc := "(LDutyLedger$Batch;)I" } : Jvm.MethodName)) ∈ zT := zT_in (i := 360) (by decide +kernel) (by decide +kernel)
theorem zw_362 : (Jvm.Cond.instanceMethod ({ cls := "DutyLedger", name := "whatIsWrongWith", desc := "(LDutyLedger$Batch;)I" } : Jvm.MethodName)) ∈ zT := zT_in (i := 362) (by decide +kernel) (by decide +kernel)
theorem zw_363 : (Jvm.Cond.code ({ cls := "DutyLedger", name := "whatIsWrongWith", desc := "(LDutyLedger$Batch;)I" } : Jvm.MethodName) prog_1_method_27_code (2 : Nat) (Option.some Jvm.ClassFile.FieldType.int)) ∈ zT := zT_in (i := 363) (by decide +kernel) (by decide +kernel)
theorem zw_364 : (Jvm.Cond.methodLink "DutyLedger" (233 : Nat) ({ cls := "DutyLedger$Batch", name := "sum", desc := "()J" } : Jvm.MethodName)) ∈ zT := zT_in (i := 364) (by decide +kernel) (by decide +kernel)
theorem zw_365 : (Jvm.Cond.instanceMethod ({ cls := "DutyLedger$Batch", name := "sum", desc := "()J" } : Jvm.MethodName)) ∈ zT := zT_in (i := 365) (by decide +kernel) (by decide +kernel)
theorem zw_366 : (Jvm.Cond.selects "DutyLedger$Batch" ({ cls := "DutyLedger$Batch", name := "sum", desc := "()J" } : Jvm.MethodName) ({ cls := "DutyLedger$Batch", name := "sum", desc := "()J" } : Jvm.MethodName)) ∈ zT := zT_in (i := 366) (by decide +kernel) (by decide +kernel)
theorem zw_367 : (Jvm.Cond.code ({ cls := "DutyLedger$Batch", name := "sum", desc := "()J" } : Jvm.MethodName) prog_2_method_3_code (4 : Nat) (Option.some Jvm.ClassFile.FieldType.long)) ∈ zT := zT_in (i := 367) (by decide +kernel) (by decide +kernel)
theorem zw_368 : (Jvm.Cond.methodLink "DutyLedger" (236 : Nat) ({ cls := "DutyLedger$Book", name := "hasRoomFor", desc := "(I)Z" } : Jvm.MethodName)) ∈ zT := zT_in (i := 368) (by decide +kernel) (by decide +kernel)
theorem zw_369 : (Jvm.Cond.instanceMethod ({ cls := "DutyLedger$Book", name := "hasRoomFor", desc := "(I)Z" } : Jvm.MethodName)) ∈ zT := zT_in (i := 369) (by decide +kernel) (by decide +kernel)
theorem zw_370 : (Jvm.Cond.selects "DutyLedger$Book" ({ cls := "DutyLedger$Book", name := "hasRoomFor", desc := "(I)Z" } : Jvm.MethodName) ({ cls := "DutyLedger$Book", name := "hasRoomFor", desc := "(I)Z" } : Jvm.MethodName)) ∈ zT := zT_in (i := 370) (by decide +kernel) (by decide +kernel)
theorem zw_371 : (Jvm.Cond.code ({ cls := "DutyLedger$Book", name := "hasRoomFor", desc := "(I)Z" } : Jvm.MethodName) prog_3_method_2_code (2 : Nat) (Option.some Jvm.ClassFile.FieldType.boolean)) ∈ zT := zT_in (i := 371) (by decide +kernel) (by decide +kernel)
theorem zw_372 : (Jvm.Cond.methodLink "DutyLedger" (109 : Nat) ({ cls := "DutyLedger", name := "makeVoid", desc := "(LDutyLedger$Batch;I)V" } : Jvm.MethodName)) ∈ zT := zT_in (i := 372) (by decide +kernel) (by decide +kernel)
theorem zw_374 : (Jvm.Cond.instanceMethod ({ cls := "DutyLedger", name := "makeVoid", desc := "(LDutyLedger$Batch;I)V" } : Jvm.MethodName)) ∈ zT := zT_in (i := 374) (by decide +kernel) (by decide +kernel)
theorem zw_375 : (Jvm.Cond.code ({ cls := "DutyLedger", name := "makeVoid", desc := "(LDutyLedger$Batch;I)V" } : Jvm.MethodName) prog_1_method_28_code (3 : Nat) (Option.none : Option Jvm.ClassFile.FieldType)) ∈ zT := zT_in (i := 375) (by decide +kernel) (by decide +kernel)
theorem zw_376 : (Jvm.Cond.methodLink "DutyLedger" (239 : Nat) ({ cls := "DutyLedger", name := "accountFarthestFromZero", desc := "(LDutyLedger$Batch;)I" } : Jvm.MethodName)) ∈ zT := zT_in (i := 376) (by decide +kernel) (by decide +kernel)
theorem zw_378 : (Jvm.Cond.instanceMethod ({ cls := "DutyLedger", name := "accountFarthestFromZero", desc := "(LDutyLedger$Batch;)I" } : Jvm.MethodName)) ∈ zT := zT_in (i := 378) (by decide +kernel) (by decide +kernel)
theorem zw_379 : (Jvm.Cond.code ({ cls := "DutyLedger", name := "accountFarthestFromZero", desc := "(LDutyLedger$Batch;)I" } : Jvm.MethodName) prog_1_method_29_code (8 : Nat) (Option.some Jvm.ClassFile.FieldType.int)) ∈ zT := zT_in (i := 379) (by decide +kernel) (by decide +kernel)
theorem zw_380 : (Jvm.Cond.methodLink "DutyLedger" (242 : Nat) ({ cls := "DutyLedger$Batch", name := "sumOf", desc := "(I)J" } : Jvm.MethodName)) ∈ zT := zT_in (i := 380) (by decide +kernel) (by decide +kernel)
theorem zw_381 : (Jvm.Cond.instanceMethod ({ cls := "DutyLedger$Batch", name := "sumOf", desc := "(I)J" } : Jvm.MethodName)) ∈ zT := zT_in (i := 381) (by decide +kernel) (by decide +kernel)
theorem zw_382 : (Jvm.Cond.selects "DutyLedger$Batch" ({ cls := "DutyLedger$Batch", name := "sumOf", desc := "(I)J" } : Jvm.MethodName) ({ cls := "DutyLedger$Batch", name := "sumOf", desc := "(I)J" } : Jvm.MethodName)) ∈ zT := zT_in (i := 382) (by decide +kernel) (by decide +kernel)
theorem zw_383 : (Jvm.Cond.code ({ cls := "DutyLedger$Batch", name := "sumOf", desc := "(I)J" } : Jvm.MethodName) prog_2_method_4_code (5 : Nat) (Option.some Jvm.ClassFile.FieldType.long)) ∈ zT := zT_in (i := 383) (by decide +kernel) (by decide +kernel)
theorem zw_384 : (Jvm.Cond.methodLink "DutyLedger" (246 : Nat) ({ cls := "java/lang/Math", name := "abs", desc := "(J)J" } : Jvm.MethodName)) ∈ zT := zT_in (i := 384) (by decide +kernel) (by decide +kernel)
theorem zw_385 : (Jvm.Cond.static ({ cls := "java/lang/Math", name := "abs", desc := "(J)J" } : Jvm.MethodName)) ∈ zT := zT_in (i := 385) (by decide +kernel) (by decide +kernel)
theorem zw_386 : (Jvm.Cond.code ({ cls := "java/lang/Math", name := "abs", desc := "(J)J" } : Jvm.MethodName) prog_11_method_61_code (2 : Nat) (Option.some Jvm.ClassFile.FieldType.long)) ∈ zT := zT_in (i := 386) (by decide +kernel) (by decide +kernel)
theorem zw_388 : (Jvm.Cond.methodLink "DutyLedger" (115 : Nat) ({ cls := "DutyLedger", name := "failHalfway", desc := "(ILDutyLedger$Batch;)V" } : Jvm.MethodName)) ∈ zT := zT_in (i := 388) (by decide +kernel) (by decide +kernel)
theorem zw_390 : (Jvm.Cond.instanceMethod ({ cls := "DutyLedger", name := "failHalfway", desc := "(ILDutyLedger$Batch;)V" } : Jvm.MethodName)) ∈ zT := zT_in (i := 390) (by decide +kernel) (by decide +kernel)
theorem zw_391 : (Jvm.Cond.code ({ cls := "DutyLedger", name := "failHalfway", desc := "(ILDutyLedger$Batch;)V" } : Jvm.MethodName) prog_1_method_30_code (3 : Nat) (Option.none : Option Jvm.ClassFile.FieldType)) ∈ zT := zT_in (i := 391) (by decide +kernel) (by decide +kernel)
theorem zw_392 : (Jvm.Cond.methodLink "DutyLedger" (252 : Nat) ({ cls := "DutyLedger$Book", name := "bringIn", desc := "(ILDutyLedger$Batch;I)V" } : Jvm.MethodName)) ∈ zT := zT_in (i := 392) (by decide +kernel) (by decide +kernel)
theorem zw_393 : (Jvm.Cond.instanceMethod ({ cls := "DutyLedger$Book", name := "bringIn", desc := "(ILDutyLedger$Batch;I)V" } : Jvm.MethodName)) ∈ zT := zT_in (i := 393) (by decide +kernel) (by decide +kernel)
theorem zw_394 : (Jvm.Cond.selects "DutyLedger$Book" ({ cls := "DutyLedger$Book", name := "bringIn", desc := "(ILDutyLedger$Batch;I)V" } : Jvm.MethodName) ({ cls := "DutyLedger$Book", name := "bringIn", desc := "(ILDutyLedger$Batch;I)V" } : Jvm.MethodName)) ∈ zT := zT_in (i := 394) (by decide +kernel) (by decide +kernel)
theorem zw_395 : (Jvm.Cond.code ({ cls := "DutyLedger$Book", name := "bringIn", desc := "(ILDutyLedger$Batch;I)V" } : Jvm.MethodName) prog_3_method_3_code (5 : Nat) (Option.none : Option Jvm.ClassFile.FieldType)) ∈ zT := zT_in (i := 395) (by decide +kernel) (by decide +kernel)
theorem zw_396 : (Jvm.Cond.methodLink "DutyLedger" (256 : Nat) ({ cls := "DutyLedger$Book", name := "takeHeldOut", desc := "()V" } : Jvm.MethodName)) ∈ zT := zT_in (i := 396) (by decide +kernel) (by decide +kernel)
theorem zw_397 : (Jvm.Cond.instanceMethod ({ cls := "DutyLedger$Book", name := "takeHeldOut", desc := "()V" } : Jvm.MethodName)) ∈ zT := zT_in (i := 397) (by decide +kernel) (by decide +kernel)
theorem zw_398 : (Jvm.Cond.selects "DutyLedger$Book" ({ cls := "DutyLedger$Book", name := "takeHeldOut", desc := "()V" } : Jvm.MethodName) ({ cls := "DutyLedger$Book", name := "takeHeldOut", desc := "()V" } : Jvm.MethodName)) ∈ zT := zT_in (i := 398) (by decide +kernel) (by decide +kernel)
theorem zw_399 : (Jvm.Cond.code ({ cls := "DutyLedger$Book", name := "takeHeldOut", desc := "()V" } : Jvm.MethodName) prog_3_method_4_code (1 : Nat) (Option.none : Option Jvm.ClassFile.FieldType)) ∈ zT := zT_in (i := 399) (by decide +kernel) (by decide +kernel)
theorem zw_400 : (Jvm.Cond.classLink "DutyLedger" (119 : Nat) "java/lang/UnsupportedOperationException") ∈ zT := zT_in (i := 400) (by decide +kernel) (by decide +kernel)
theorem zw_401 : (Jvm.Cond.instantiable "java/lang/UnsupportedOperationException" (6 : Nat)) ∈ zT := zT_in (i := 401) (by decide +kernel) (by decide +kernel)
theorem zw_403 : (Jvm.Cond.selects "java/lang/UnsupportedOperationException" ({ cls := "java/lang/Throwable", name := "fillInStackTrace", desc := "(I)Ljava/lang/Throwable;" } : Jvm.MethodName) ({ cls := "java/lang/Throwable", name := "fillInStackTrace", desc := "(I)Ljava/lang/Throwable;" } : Jvm.MethodName)) ∈ zT := zT_in (i := 403) (by decide +kernel) (by decide +kernel)
theorem zw_404 : (Jvm.Cond.lays "java/lang/UnsupportedOperationException" "java/lang/Throwable" "cause" "Ljava/lang/Throwable;") ∈ zT := zT_in (i := 404) (by decide +kernel) (by decide +kernel)
theorem zw_405 : (Jvm.Cond.lays "java/lang/UnsupportedOperationException" "java/lang/Throwable" "stackTrace" "[Ljava/lang/StackTraceElement;") ∈ zT := zT_in (i := 405) (by decide +kernel) (by decide +kernel)
theorem zw_406 : (Jvm.Cond.lays "java/lang/UnsupportedOperationException" "java/lang/Throwable" "suppressedExceptions" "Ljava/util/List;") ∈ zT := zT_in (i := 406) (by decide +kernel) (by decide +kernel)
theorem zw_407 : (Jvm.Cond.lays "java/lang/UnsupportedOperationException" "java/lang/Throwable" "detailMessage" "Ljava/lang/String;") ∈ zT := zT_in (i := 407) (by decide +kernel) (by decide +kernel)
theorem zw_408 : (Jvm.Cond.lays "java/lang/UnsupportedOperationException" "java/lang/Throwable" "backtrace" "Ljava/lang/Object;") ∈ zT := zT_in (i := 408) (by decide +kernel) (by decide +kernel)
theorem zw_410 : (Jvm.Cond.methodLink "DutyLedger" (123 : Nat) ({ cls := "java/lang/UnsupportedOperationException", name := "<init>", desc := "(Ljava/lang/String;)V" } : Jvm.MethodName)) ∈ zT := zT_in (i := 410) (by decide +kernel) (by decide +kernel)
theorem zw_411 : (Jvm.Cond.instanceMethod ({ cls := "java/lang/UnsupportedOperationException", name := "<init>", desc := "(Ljava/lang/String;)V" } : Jvm.MethodName)) ∈ zT := zT_in (i := 411) (by decide +kernel) (by decide +kernel)
theorem zw_412 : (Jvm.Cond.code ({ cls := "java/lang/UnsupportedOperationException", name := "<init>", desc := "(Ljava/lang/String;)V" } : Jvm.MethodName) prog_15_method_2_code (2 : Nat) (Option.none : Option Jvm.ClassFile.FieldType)) ∈ zT := zT_in (i := 412) (by decide +kernel) (by decide +kernel)
theorem zw_413 : (Jvm.Cond.methodLink "java/lang/UnsupportedOperationException" (7 : Nat) ({ cls := "java/lang/RuntimeException", name := "<init>", desc := "(Ljava/lang/String;)V" } : Jvm.MethodName)) ∈ zT := zT_in (i := 413) (by decide +kernel) (by decide +kernel)
theorem zw_414 : (Jvm.Cond.lays "java/lang/UnsupportedOperationException" "java/lang/Throwable" "depth" "I") ∈ zT := zT_in (i := 414) (by decide +kernel) (by decide +kernel)
theorem zw_416 : (Jvm.Cond.methodLink "DutyLedger" (124 : Nat) ({ cls := "DutyLedger", name := "enter", desc := "(ILDutyLedger$Batch;)V" } : Jvm.MethodName)) ∈ zT := zT_in (i := 416) (by decide +kernel) (by decide +kernel)
theorem zw_418 : (Jvm.Cond.instanceMethod ({ cls := "DutyLedger", name := "enter", desc := "(ILDutyLedger$Batch;)V" } : Jvm.MethodName)) ∈ zT := zT_in (i := 418) (by decide +kernel) (by decide +kernel)
theorem zw_419 : (Jvm.Cond.code ({ cls := "DutyLedger", name := "enter", desc := "(ILDutyLedger$Batch;)V" } : Jvm.MethodName) prog_1_method_31_code (3 : Nat) (Option.none : Option Jvm.ClassFile.FieldType)) ∈ zT := zT_in (i := 419) (by decide +kernel) (by decide +kernel)
theorem zw_420 : (Jvm.Cond.methodLink "DutyLedger" (259 : Nat) ({ cls := "DutyLedger$Book", name := "settleHeld", desc := "()V" } : Jvm.MethodName)) ∈ zT := zT_in (i := 420) (by decide +kernel) (by decide +kernel)
theorem zw_421 : (Jvm.Cond.instanceMethod ({ cls := "DutyLedger$Book", name := "settleHeld", desc := "()V" } : Jvm.MethodName)) ∈ zT := zT_in (i := 421) (by decide +kernel) (by decide +kernel)
theorem zw_422 : (Jvm.Cond.selects "DutyLedger$Book" ({ cls := "DutyLedger$Book", name := "settleHeld", desc := "()V" } : Jvm.MethodName) ({ cls := "DutyLedger$Book", name := "settleHeld", desc := "()V" } : Jvm.MethodName)) ∈ zT := zT_in (i := 422) (by decide +kernel) (by decide +kernel)
theorem zw_423 : (Jvm.Cond.code ({ cls := "DutyLedger$Book", name := "settleHeld", desc := "()V" } : Jvm.MethodName) prog_3_method_5_code (1 : Nat) (Option.none : Option Jvm.ClassFile.FieldType)) ∈ zT := zT_in (i := 423) (by decide +kernel) (by decide +kernel)
theorem zw_424 : (Jvm.Cond.methodLink "DutyLedgerLaw" (85 : Nat) ({ cls := "DutyLedgerLaw", name := "reverse", desc := "(LDutyLedger;II[J)I" } : Jvm.MethodName)) ∈ zT := zT_in (i := 424) (by decide +kernel) (by decide +kernel)
theorem zw_425 : (Jvm.Cond.static ({ cls := "DutyLedgerLaw", name := "reverse", desc := "(LDutyLedger;II[J)I" } : Jvm.MethodName)) ∈ zT := zT_in (i := 425) (by decide +kernel) (by decide +kernel)
theorem zw_426 : (Jvm.Cond.codeWith ({ cls := "DutyLedgerLaw", name := "reverse", desc := "(LDutyLedger;II[J)I" } : Jvm.MethodName) method_6_code (5 : Nat) (Option.some Jvm.ClassFile.FieldType.int) [((0 : Nat), (10 : Nat), (13 : Nat), (13 : Nat)), ((0 : Nat), (10 : Nat), (17 : Nat), (15 : Nat))]) ∈ zT := zT_in (i := 426) (by decide +kernel) (by decide +kernel)
theorem zw_427 : (Jvm.Cond.methodLink "DutyLedgerLaw" (26 : Nat) ({ cls := "DutyLedger", name := "reverse", desc := "(II)I" } : Jvm.MethodName)) ∈ zT := zT_in (i := 427) (by decide +kernel) (by decide +kernel)
theorem zw_428 : (Jvm.Cond.instanceMethod ({ cls := "DutyLedger", name := "reverse", desc := "(II)I" } : Jvm.MethodName)) ∈ zT := zT_in (i := 428) (by decide +kernel) (by decide +kernel)
theorem zw_429 : (Jvm.Cond.selects "DutyLedger" ({ cls := "DutyLedger", name := "reverse", desc := "(II)I" } : Jvm.MethodName) ({ cls := "DutyLedger", name := "reverse", desc := "(II)I" } : Jvm.MethodName)) ∈ zT := zT_in (i := 429) (by decide +kernel) (by decide +kernel)
theorem zw_430 : (Jvm.Cond.code ({ cls := "DutyLedger", name := "reverse", desc := "(II)I" } : Jvm.MethodName) prog_1_method_7_code (6 : Nat) (Option.some Jvm.ClassFile.FieldType.int)) ∈ zT := zT_in (i := 430) (by decide +kernel) (by decide +kernel)
theorem zw_433 : (Jvm.Cond.methodLink "DutyLedger" (137 : Nat) ({ cls := "DutyLedger", name := "reversalOf", desc := "(ILDutyLedger$Batch;I)LDutyLedger$Batch;" } : Jvm.MethodName)) ∈ zT := zT_in (i := 433) (by decide +kernel) (by decide +kernel)
theorem zw_434 : (Jvm.Cond.static ({ cls := "DutyLedger", name := "reversalOf", desc := "(ILDutyLedger$Batch;I)LDutyLedger$Batch;" } : Jvm.MethodName)) ∈ zT := zT_in (i := 434) (by decide +kernel) (by decide +kernel)
theorem zw_435 : (Jvm.Cond.code ({ cls := "DutyLedger", name := "reversalOf", desc := "(ILDutyLedger$Batch;I)LDutyLedger$Batch;" } : Jvm.MethodName) prog_1_method_32_code (5 : Nat) (Option.some (Jvm.ClassFile.FieldType.object "DutyLedger$Batch"))) ∈ zT := zT_in (i := 435) (by decide +kernel) (by decide +kernel)
theorem zw_437 : (Jvm.Cond.methodLink "DutyLedgerLaw" (93 : Nat) ({ cls := "DutyLedgerLaw", name := "balance", desc := "(LDutyLedger;III[J)I" } : Jvm.MethodName)) ∈ zT := zT_in (i := 437) (by decide +kernel) (by decide +kernel)
theorem zw_438 : (Jvm.Cond.static ({ cls := "DutyLedgerLaw", name := "balance", desc := "(LDutyLedger;III[J)I" } : Jvm.MethodName)) ∈ zT := zT_in (i := 438) (by decide +kernel) (by decide +kernel)
theorem zw_439 : (Jvm.Cond.codeWith ({ cls := "DutyLedgerLaw", name := "balance", desc := "(LDutyLedger;III[J)I" } : Jvm.MethodName) method_7_code (6 : Nat) (Option.some Jvm.ClassFile.FieldType.int) [((0 : Nat), (11 : Nat), (14 : Nat), (13 : Nat))]) ∈ zT := zT_in (i := 439) (by decide +kernel) (by decide +kernel)
theorem zw_440 : (Jvm.Cond.methodLink "DutyLedgerLaw" (29 : Nat) ({ cls := "DutyLedger", name := "balance", desc := "(III)J" } : Jvm.MethodName)) ∈ zT := zT_in (i := 440) (by decide +kernel) (by decide +kernel)
theorem zw_441 : (Jvm.Cond.instanceMethod ({ cls := "DutyLedger", name := "balance", desc := "(III)J" } : Jvm.MethodName)) ∈ zT := zT_in (i := 441) (by decide +kernel) (by decide +kernel)
theorem zw_442 : (Jvm.Cond.selects "DutyLedger" ({ cls := "DutyLedger", name := "balance", desc := "(III)J" } : Jvm.MethodName) ({ cls := "DutyLedger", name := "balance", desc := "(III)J" } : Jvm.MethodName)) ∈ zT := zT_in (i := 442) (by decide +kernel) (by decide +kernel)
theorem zw_443 : (Jvm.Cond.code ({ cls := "DutyLedger", name := "balance", desc := "(III)J" } : Jvm.MethodName) prog_1_method_9_code (4 : Nat) (Option.some Jvm.ClassFile.FieldType.long)) ∈ zT := zT_in (i := 443) (by decide +kernel) (by decide +kernel)
theorem zw_445 : (Jvm.Cond.methodLink "DutyLedger" (145 : Nat) ({ cls := "DutyLedger$Book", name := "sum", desc := "(IIII)J" } : Jvm.MethodName)) ∈ zT := zT_in (i := 445) (by decide +kernel) (by decide +kernel)
theorem zw_446 : (Jvm.Cond.instanceMethod ({ cls := "DutyLedger$Book", name := "sum", desc := "(IIII)J" } : Jvm.MethodName)) ∈ zT := zT_in (i := 446) (by decide +kernel) (by decide +kernel)
theorem zw_447 : (Jvm.Cond.selects "DutyLedger$Book" ({ cls := "DutyLedger$Book", name := "sum", desc := "(IIII)J" } : Jvm.MethodName) ({ cls := "DutyLedger$Book", name := "sum", desc := "(IIII)J" } : Jvm.MethodName)) ∈ zT := zT_in (i := 447) (by decide +kernel) (by decide +kernel)
theorem zw_448 : (Jvm.Cond.code ({ cls := "DutyLedger$Book", name := "sum", desc := "(IIII)J" } : Jvm.MethodName) prog_3_method_6_code (8 : Nat) (Option.some Jvm.ClassFile.FieldType.long)) ∈ zT := zT_in (i := 448) (by decide +kernel) (by decide +kernel)
theorem zw_449 : (Jvm.Cond.methodLink "DutyLedgerLaw" (97 : Nat) ({ cls := "DutyLedgerLaw", name := "statement", desc := "(LDutyLedger;III[J)I" } : Jvm.MethodName)) ∈ zT := zT_in (i := 449) (by decide +kernel) (by decide +kernel)
theorem zw_450 : (Jvm.Cond.static ({ cls := "DutyLedgerLaw", name := "statement", desc := "(LDutyLedger;III[J)I" } : Jvm.MethodName)) ∈ zT := zT_in (i := 450) (by decide +kernel) (by decide +kernel)
theorem zw_451 : (Jvm.Cond.codeWith ({ cls := "DutyLedgerLaw", name := "statement", desc := "(LDutyLedger;III[J)I" } : Jvm.MethodName) method_8_code (6 : Nat) (Option.some Jvm.ClassFile.FieldType.int) [((0 : Nat), (11 : Nat), (14 : Nat), (13 : Nat))]) ∈ zT := zT_in (i := 451) (by decide +kernel) (by decide +kernel)
theorem zw_452 : (Jvm.Cond.methodLink "DutyLedgerLaw" (33 : Nat) ({ cls := "DutyLedger", name := "statement", desc := "(III)J" } : Jvm.MethodName)) ∈ zT := zT_in (i := 452) (by decide +kernel) (by decide +kernel)
theorem zw_453 : (Jvm.Cond.instanceMethod ({ cls := "DutyLedger", name := "statement", desc := "(III)J" } : Jvm.MethodName)) ∈ zT := zT_in (i := 453) (by decide +kernel) (by decide +kernel)
theorem zw_454 : (Jvm.Cond.selects "DutyLedger" ({ cls := "DutyLedger", name := "statement", desc := "(III)J" } : Jvm.MethodName) ({ cls := "DutyLedger", name := "statement", desc := "(III)J" } : Jvm.MethodName)) ∈ zT := zT_in (i := 454) (by decide +kernel) (by decide +kernel)
theorem zw_455 : (Jvm.Cond.code ({ cls := "DutyLedger", name := "statement", desc := "(III)J" } : Jvm.MethodName) prog_1_method_10_code (5 : Nat) (Option.some Jvm.ClassFile.FieldType.long)) ∈ zT := zT_in (i := 455) (by decide +kernel) (by decide +kernel)
theorem zw_456 : (Jvm.Cond.methodLink "DutyLedger" (149 : Nat) ({ cls := "DutyLedger", name := "isMonth", desc := "(I)Z" } : Jvm.MethodName)) ∈ zT := zT_in (i := 456) (by decide +kernel) (by decide +kernel)
theorem zw_457 : (Jvm.Cond.static ({ cls := "DutyLedger", name := "isMonth", desc := "(I)Z" } : Jvm.MethodName)) ∈ zT := zT_in (i := 457) (by decide +kernel) (by decide +kernel)
theorem zw_458 : (Jvm.Cond.code ({ cls := "DutyLedger", name := "isMonth", desc := "(I)Z" } : Jvm.MethodName) prog_1_method_19_code (1 : Nat) (Option.some Jvm.ClassFile.FieldType.boolean)) ∈ zT := zT_in (i := 458) (by decide +kernel) (by decide +kernel)
theorem zw_460 : (Jvm.Cond.methodLink "DutyLedgerLaw" (110 : Nat) ({ cls := "DutyLedgerLaw", name := "passed", desc := "(LDutyLedger;III[J)I" } : Jvm.MethodName)) ∈ zT := zT_in (i := 460) (by decide +kernel) (by decide +kernel)
theorem zw_461 : (Jvm.Cond.static ({ cls := "DutyLedgerLaw", name := "passed", desc := "(LDutyLedger;III[J)I" } : Jvm.MethodName)) ∈ zT := zT_in (i := 461) (by decide +kernel) (by decide +kernel)
theorem zw_462 : (Jvm.Cond.codeWith ({ cls := "DutyLedgerLaw", name := "passed", desc := "(LDutyLedger;III[J)I" } : Jvm.MethodName) method_9_code (6 : Nat) (Option.some Jvm.ClassFile.FieldType.int) [((0 : Nat), (11 : Nat), (14 : Nat), (13 : Nat))]) ∈ zT := zT_in (i := 462) (by decide +kernel) (by decide +kernel)
theorem zw_463 : (Jvm.Cond.methodLink "DutyLedgerLaw" (36 : Nat) ({ cls := "DutyLedger", name := "passed", desc := "(III)J" } : Jvm.MethodName)) ∈ zT := zT_in (i := 463) (by decide +kernel) (by decide +kernel)
theorem zw_464 : (Jvm.Cond.instanceMethod ({ cls := "DutyLedger", name := "passed", desc := "(III)J" } : Jvm.MethodName)) ∈ zT := zT_in (i := 464) (by decide +kernel) (by decide +kernel)
theorem zw_465 : (Jvm.Cond.selects "DutyLedger" ({ cls := "DutyLedger", name := "passed", desc := "(III)J" } : Jvm.MethodName) ({ cls := "DutyLedger", name := "passed", desc := "(III)J" } : Jvm.MethodName)) ∈ zT := zT_in (i := 465) (by decide +kernel) (by decide +kernel)
theorem zw_466 : (Jvm.Cond.code ({ cls := "DutyLedger", name := "passed", desc := "(III)J" } : Jvm.MethodName) prog_1_method_13_code (8 : Nat) (Option.some Jvm.ClassFile.FieldType.long)) ∈ zT := zT_in (i := 466) (by decide +kernel) (by decide +kernel)
theorem zw_468 : (Jvm.Cond.methodLink "DutyLedger" (166 : Nat) ({ cls := "DutyLedger", name := "collectedOf", desc := "(II)J" } : Jvm.MethodName)) ∈ zT := zT_in (i := 468) (by decide +kernel) (by decide +kernel)
theorem zw_470 : (Jvm.Cond.instanceMethod ({ cls := "DutyLedger", name := "collectedOf", desc := "(II)J" } : Jvm.MethodName)) ∈ zT := zT_in (i := 470) (by decide +kernel) (by decide +kernel)
theorem zw_471 : (Jvm.Cond.code ({ cls := "DutyLedger", name := "collectedOf", desc := "(II)J" } : Jvm.MethodName) prog_1_method_33_code (6 : Nat) (Option.some Jvm.ClassFile.FieldType.long)) ∈ zT := zT_in (i := 471) (by decide +kernel) (by decide +kernel)
theorem zw_472 : (Jvm.Cond.methodLink "DutyLedger" (264 : Nat) ({ cls := "java/lang/Math", name := "max", desc := "(JJ)J" } : Jvm.MethodName)) ∈ zT := zT_in (i := 472) (by decide +kernel) (by decide +kernel)
theorem zw_473 : (Jvm.Cond.static ({ cls := "java/lang/Math", name := "max", desc := "(JJ)J" } : Jvm.MethodName)) ∈ zT := zT_in (i := 473) (by decide +kernel) (by decide +kernel)
theorem zw_474 : (Jvm.Cond.code ({ cls := "java/lang/Math", name := "max", desc := "(JJ)J" } : Jvm.MethodName) prog_11_method_66_code (4 : Nat) (Option.some Jvm.ClassFile.FieldType.long)) ∈ zT := zT_in (i := 474) (by decide +kernel) (by decide +kernel)
theorem zw_475 : (Jvm.Cond.methodLink "DutyLedger" (170 : Nat) ({ cls := "DutyLedger$Shares", name := "costOf", desc := "(IJ)J" } : Jvm.MethodName)) ∈ zT := zT_in (i := 475) (by decide +kernel) (by decide +kernel)
theorem zw_476 : (Jvm.Cond.instanceMethod ({ cls := "DutyLedger$Shares", name := "costOf", desc := "(IJ)J" } : Jvm.MethodName)) ∈ zT := zT_in (i := 476) (by decide +kernel) (by decide +kernel)
theorem zw_477 : (Jvm.Cond.selects "DutyLedger$Shares" ({ cls := "DutyLedger$Shares", name := "costOf", desc := "(IJ)J" } : Jvm.MethodName) ({ cls := "DutyLedger$Shares", name := "costOf", desc := "(IJ)J" } : Jvm.MethodName)) ∈ zT := zT_in (i := 477) (by decide +kernel) (by decide +kernel)
theorem zw_478 : (Jvm.Cond.code ({ cls := "DutyLedger$Shares", name := "costOf", desc := "(IJ)J" } : Jvm.MethodName) prog_4_method_4_code (4 : Nat) (Option.some Jvm.ClassFile.FieldType.long)) ∈ zT := zT_in (i := 478) (by decide +kernel) (by decide +kernel)
theorem zw_479 : (Jvm.Cond.constantLong "DutyLedger$Shares" (18 : Nat) (1000 : Int64)) ∈ zT := zT_in (i := 479) (by decide +kernel) (by decide +kernel)
theorem zw_480 : (Jvm.Cond.methodLink "DutyLedger" (174 : Nat) ({ cls := "DutyLedger$Shares", name := "allShares", desc := "(IJ)J" } : Jvm.MethodName)) ∈ zT := zT_in (i := 480) (by decide +kernel) (by decide +kernel)
theorem zw_481 : (Jvm.Cond.instanceMethod ({ cls := "DutyLedger$Shares", name := "allShares", desc := "(IJ)J" } : Jvm.MethodName)) ∈ zT := zT_in (i := 481) (by decide +kernel) (by decide +kernel)
theorem zw_482 : (Jvm.Cond.selects "DutyLedger$Shares" ({ cls := "DutyLedger$Shares", name := "allShares", desc := "(IJ)J" } : Jvm.MethodName) ({ cls := "DutyLedger$Shares", name := "allShares", desc := "(IJ)J" } : Jvm.MethodName)) ∈ zT := zT_in (i := 482) (by decide +kernel) (by decide +kernel)
theorem zw_483 : (Jvm.Cond.code ({ cls := "DutyLedger$Shares", name := "allShares", desc := "(IJ)J" } : Jvm.MethodName) prog_4_method_5_code (7 : Nat) (Option.some Jvm.ClassFile.FieldType.long)) ∈ zT := zT_in (i := 483) (by decide +kernel) (by decide +kernel)
theorem zw_484 : (Jvm.Cond.methodLink "DutyLedger$Shares" (20 : Nat) ({ cls := "DutyLedger$Shares", name := "shareOf", desc := "(IIJ)J" } : Jvm.MethodName)) ∈ zT := zT_in (i := 484) (by decide +kernel) (by decide +kernel)
theorem zw_485 : (Jvm.Cond.instanceMethod ({ cls := "DutyLedger$Shares", name := "shareOf", desc := "(IIJ)J" } : Jvm.MethodName)) ∈ zT := zT_in (i := 485) (by decide +kernel) (by decide +kernel)
theorem zw_486 : (Jvm.Cond.selects "DutyLedger$Shares" ({ cls := "DutyLedger$Shares", name := "shareOf", desc := "(IIJ)J" } : Jvm.MethodName) ({ cls := "DutyLedger$Shares", name := "shareOf", desc := "(IIJ)J" } : Jvm.MethodName)) ∈ zT := zT_in (i := 486) (by decide +kernel) (by decide +kernel)
theorem zw_487 : (Jvm.Cond.code ({ cls := "DutyLedger$Shares", name := "shareOf", desc := "(IIJ)J" } : Jvm.MethodName) prog_4_method_6_code (7 : Nat) (Option.some Jvm.ClassFile.FieldType.long)) ∈ zT := zT_in (i := 487) (by decide +kernel) (by decide +kernel)
theorem zw_488 : (Jvm.Cond.methodLink "DutyLedger$Shares" (24 : Nat) ({ cls := "DutyLedger$Shares", name := "allParts", desc := "(I)I" } : Jvm.MethodName)) ∈ zT := zT_in (i := 488) (by decide +kernel) (by decide +kernel)
theorem zw_490 : (Jvm.Cond.instanceMethod ({ cls := "DutyLedger$Shares", name := "allParts", desc := "(I)I" } : Jvm.MethodName)) ∈ zT := zT_in (i := 490) (by decide +kernel) (by decide +kernel)
theorem zw_491 : (Jvm.Cond.code ({ cls := "DutyLedger$Shares", name := "allParts", desc := "(I)I" } : Jvm.MethodName) prog_4_method_7_code (4 : Nat) (Option.some Jvm.ClassFile.FieldType.int)) ∈ zT := zT_in (i := 491) (by decide +kernel) (by decide +kernel)
theorem zw_492 : (Jvm.Cond.methodLink "DutyLedger$Shares" (28 : Nat) ({ cls := "DutyLedger$Shares", name := "wholeShare", desc := "(IIJ)J" } : Jvm.MethodName)) ∈ zT := zT_in (i := 492) (by decide +kernel) (by decide +kernel)
theorem zw_494 : (Jvm.Cond.instanceMethod ({ cls := "DutyLedger$Shares", name := "wholeShare", desc := "(IIJ)J" } : Jvm.MethodName)) ∈ zT := zT_in (i := 494) (by decide +kernel) (by decide +kernel)
theorem zw_495 : (Jvm.Cond.code ({ cls := "DutyLedger$Shares", name := "wholeShare", desc := "(IIJ)J" } : Jvm.MethodName) prog_4_method_8_code (6 : Nat) (Option.some Jvm.ClassFile.FieldType.long)) ∈ zT := zT_in (i := 495) (by decide +kernel) (by decide +kernel)
theorem zw_496 : (Jvm.Cond.methodLink "DutyLedger$Shares" (31 : Nat) ({ cls := "DutyLedger$Shares", name := "placeByRemainder", desc := "(IIJ)I" } : Jvm.MethodName)) ∈ zT := zT_in (i := 496) (by decide +kernel) (by decide +kernel)
theorem zw_498 : (Jvm.Cond.instanceMethod ({ cls := "DutyLedger$Shares", name := "placeByRemainder", desc := "(IIJ)I" } : Jvm.MethodName)) ∈ zT := zT_in (i := 498) (by decide +kernel) (by decide +kernel)
theorem zw_499 : (Jvm.Cond.code ({ cls := "DutyLedger$Shares", name := "placeByRemainder", desc := "(IIJ)I" } : Jvm.MethodName) prog_4_method_11_code (11 : Nat) (Option.some Jvm.ClassFile.FieldType.int)) ∈ zT := zT_in (i := 499) (by decide +kernel) (by decide +kernel)
theorem zw_500 : (Jvm.Cond.methodLink "DutyLedger$Shares" (39 : Nat) ({ cls := "DutyLedger$Shares", name := "remainder", desc := "(IIJ)J" } : Jvm.MethodName)) ∈ zT := zT_in (i := 500) (by decide +kernel) (by decide +kernel)
theorem zw_502 : (Jvm.Cond.instanceMethod ({ cls := "DutyLedger$Shares", name := "remainder", desc := "(IIJ)J" } : Jvm.MethodName)) ∈ zT := zT_in (i := 502) (by decide +kernel) (by decide +kernel)
theorem zw_503 : (Jvm.Cond.code ({ cls := "DutyLedger$Shares", name := "remainder", desc := "(IIJ)J" } : Jvm.MethodName) prog_4_method_9_code (6 : Nat) (Option.some Jvm.ClassFile.FieldType.long)) ∈ zT := zT_in (i := 503) (by decide +kernel) (by decide +kernel)
theorem zw_504 : (Jvm.Cond.methodLink "DutyLedger$Shares" (35 : Nat) ({ cls := "DutyLedger$Shares", name := "centsLeft", desc := "(IJ)J" } : Jvm.MethodName)) ∈ zT := zT_in (i := 504) (by decide +kernel) (by decide +kernel)
theorem zw_506 : (Jvm.Cond.instanceMethod ({ cls := "DutyLedger$Shares", name := "centsLeft", desc := "(IJ)J" } : Jvm.MethodName)) ∈ zT := zT_in (i := 506) (by decide +kernel) (by decide +kernel)
theorem zw_507 : (Jvm.Cond.code ({ cls := "DutyLedger$Shares", name := "centsLeft", desc := "(IJ)J" } : Jvm.MethodName) prog_4_method_10_code (7 : Nat) (Option.some Jvm.ClassFile.FieldType.long)) ∈ zT := zT_in (i := 507) (by decide +kernel) (by decide +kernel)
theorem zw_508 : (Jvm.Cond.methodLink "DutyLedger" (177 : Nat) ({ cls := "DutyLedger$Shares", name := "shareOf", desc := "(IIJ)J" } : Jvm.MethodName)) ∈ zT := zT_in (i := 508) (by decide +kernel) (by decide +kernel)
theorem zw_509 : (Jvm.Cond.methodLink "DutyLedgerLaw" (113 : Nat) ({ cls := "DutyLedgerLaw", name := "reconcile", desc := "(LDutyLedger;IIII[J)I" } : Jvm.MethodName)) ∈ zT := zT_in (i := 509) (by decide +kernel) (by decide +kernel)
theorem zw_510 : (Jvm.Cond.static ({ cls := "DutyLedgerLaw", name := "reconcile", desc := "(LDutyLedger;IIII[J)I" } : Jvm.MethodName)) ∈ zT := zT_in (i := 510) (by decide +kernel) (by decide +kernel)
theorem zw_511 : (Jvm.Cond.codeWith ({ cls := "DutyLedgerLaw", name := "reconcile", desc := "(LDutyLedger;IIII[J)I" } : Jvm.MethodName) method_10_code (7 : Nat) (Option.some Jvm.ClassFile.FieldType.int) [((0 : Nat), (13 : Nat), (16 : Nat), (13 : Nat))]) ∈ zT := zT_in (i := 511) (by decide +kernel) (by decide +kernel)
theorem zw_512 : (Jvm.Cond.methodLink "DutyLedgerLaw" (39 : Nat) ({ cls := "DutyLedger", name := "reconcile", desc := "(IIII)J" } : Jvm.MethodName)) ∈ zT := zT_in (i := 512) (by decide +kernel) (by decide +kernel)
theorem zw_513 : (Jvm.Cond.instanceMethod ({ cls := "DutyLedger", name := "reconcile", desc := "(IIII)J" } : Jvm.MethodName)) ∈ zT := zT_in (i := 513) (by decide +kernel) (by decide +kernel)
theorem zw_514 : (Jvm.Cond.selects "DutyLedger" ({ cls := "DutyLedger", name := "reconcile", desc := "(IIII)J" } : Jvm.MethodName) ({ cls := "DutyLedger", name := "reconcile", desc := "(IIII)J" } : Jvm.MethodName)) ∈ zT := zT_in (i := 514) (by decide +kernel) (by decide +kernel)
theorem zw_515 : (Jvm.Cond.code ({ cls := "DutyLedger", name := "reconcile", desc := "(IIII)J" } : Jvm.MethodName) prog_1_method_14_code (5 : Nat) (Option.some Jvm.ClassFile.FieldType.long)) ∈ zT := zT_in (i := 515) (by decide +kernel) (by decide +kernel)
theorem zw_517 : (Jvm.Cond.methodLink "DutyLedgerLaw" (117 : Nat) ({ cls := "DutyLedgerLaw", name := "read", desc := "(LDutyLedger;II[J)I" } : Jvm.MethodName)) ∈ zT := zT_in (i := 517) (by decide +kernel) (by decide +kernel)
theorem zw_518 : (Jvm.Cond.static ({ cls := "DutyLedgerLaw", name := "read", desc := "(LDutyLedger;II[J)I" } : Jvm.MethodName)) ∈ zT := zT_in (i := 518) (by decide +kernel) (by decide +kernel)
theorem zw_519 : (Jvm.Cond.codeWith ({ cls := "DutyLedgerLaw", name := "read", desc := "(LDutyLedger;II[J)I" } : Jvm.MethodName) method_11_code (5 : Nat) (Option.some Jvm.ClassFile.FieldType.int) [((0 : Nat), (9 : Nat), (12 : Nat), (47 : Nat))]) ∈ zT := zT_in (i := 519) (by decide +kernel) (by decide +kernel)
theorem zw_520 : (Jvm.Cond.classLink "DutyLedgerLaw" (47 : Nat) "java/lang/IndexOutOfBoundsException") ∈ zT := zT_in (i := 520) (by decide +kernel) (by decide +kernel)
theorem zw_521 : (Jvm.Cond.methodLink "DutyLedgerLaw" (43 : Nat) ({ cls := "DutyLedger", name := "read", desc := "(II)J" } : Jvm.MethodName)) ∈ zT := zT_in (i := 521) (by decide +kernel) (by decide +kernel)
theorem zw_522 : (Jvm.Cond.instanceMethod ({ cls := "DutyLedger", name := "read", desc := "(II)J" } : Jvm.MethodName)) ∈ zT := zT_in (i := 522) (by decide +kernel) (by decide +kernel)
theorem zw_523 : (Jvm.Cond.selects "DutyLedger" ({ cls := "DutyLedger", name := "read", desc := "(II)J" } : Jvm.MethodName) ({ cls := "DutyLedger", name := "read", desc := "(II)J" } : Jvm.MethodName)) ∈ zT := zT_in (i := 523) (by decide +kernel) (by decide +kernel)
theorem zw_524 : (Jvm.Cond.code ({ cls := "DutyLedger", name := "read", desc := "(II)J" } : Jvm.MethodName) prog_1_method_15_code (3 : Nat) (Option.some Jvm.ClassFile.FieldType.long)) ∈ zT := zT_in (i := 524) (by decide +kernel) (by decide +kernel)
theorem zw_525 : (Jvm.Cond.classLink "DutyLedger" (186 : Nat) "java/lang/IndexOutOfBoundsException") ∈ zT := zT_in (i := 525) (by decide +kernel) (by decide +kernel)
theorem zw_526 : (Jvm.Cond.instantiable "java/lang/IndexOutOfBoundsException" (6 : Nat)) ∈ zT := zT_in (i := 526) (by decide +kernel) (by decide +kernel)
theorem zw_528 : (Jvm.Cond.selects "java/lang/IndexOutOfBoundsException" ({ cls := "java/lang/Throwable", name := "fillInStackTrace", desc := "(I)Ljava/lang/Throwable;" } : Jvm.MethodName) ({ cls := "java/lang/Throwable", name := "fillInStackTrace", desc := "(I)Ljava/lang/Throwable;" } : Jvm.MethodName)) ∈ zT := zT_in (i := 528) (by decide +kernel) (by decide +kernel)
theorem zw_529 : (Jvm.Cond.lays "java/lang/IndexOutOfBoundsException" "java/lang/Throwable" "cause" "Ljava/lang/Throwable;") ∈ zT := zT_in (i := 529) (by decide +kernel) (by decide +kernel)
theorem zw_530 : (Jvm.Cond.lays "java/lang/IndexOutOfBoundsException" "java/lang/Throwable" "stackTrace" "[Ljava/lang/StackTraceElement;") ∈ zT := zT_in (i := 530) (by decide +kernel) (by decide +kernel)
theorem zw_531 : (Jvm.Cond.lays "java/lang/IndexOutOfBoundsException" "java/lang/Throwable" "suppressedExceptions" "Ljava/util/List;") ∈ zT := zT_in (i := 531) (by decide +kernel) (by decide +kernel)
theorem zw_532 : (Jvm.Cond.lays "java/lang/IndexOutOfBoundsException" "java/lang/Throwable" "detailMessage" "Ljava/lang/String;") ∈ zT := zT_in (i := 532) (by decide +kernel) (by decide +kernel)
theorem zw_533 : (Jvm.Cond.lays "java/lang/IndexOutOfBoundsException" "java/lang/Throwable" "backtrace" "Ljava/lang/Object;") ∈ zT := zT_in (i := 533) (by decide +kernel) (by decide +kernel)
theorem zw_535 : (Jvm.Cond.methodLink "DutyLedger" (190 : Nat) ({ cls := "java/lang/IndexOutOfBoundsException", name := "<init>", desc := "(Ljava/lang/String;)V" } : Jvm.MethodName)) ∈ zT := zT_in (i := 535) (by decide +kernel) (by decide +kernel)
theorem zw_536 : (Jvm.Cond.instanceMethod ({ cls := "java/lang/IndexOutOfBoundsException", name := "<init>", desc := "(Ljava/lang/String;)V" } : Jvm.MethodName)) ∈ zT := zT_in (i := 536) (by decide +kernel) (by decide +kernel)
theorem zw_537 : (Jvm.Cond.code ({ cls := "java/lang/IndexOutOfBoundsException", name := "<init>", desc := "(Ljava/lang/String;)V" } : Jvm.MethodName) prog_10_method_2_code (2 : Nat) (Option.none : Option Jvm.ClassFile.FieldType)) ∈ zT := zT_in (i := 537) (by decide +kernel) (by decide +kernel)
theorem zw_538 : (Jvm.Cond.methodLink "java/lang/IndexOutOfBoundsException" (7 : Nat) ({ cls := "java/lang/RuntimeException", name := "<init>", desc := "(Ljava/lang/String;)V" } : Jvm.MethodName)) ∈ zT := zT_in (i := 538) (by decide +kernel) (by decide +kernel)
theorem zw_539 : (Jvm.Cond.lays "java/lang/IndexOutOfBoundsException" "java/lang/Throwable" "depth" "I") ∈ zT := zT_in (i := 539) (by decide +kernel) (by decide +kernel)
theorem zw_542 : (Jvm.Cond.methodLink "DutyLedgerLaw" (120 : Nat) ({ cls := "DutyLedgerLaw", name := "look", desc := "(LDutyLedger;II[J)I" } : Jvm.MethodName)) ∈ zT := zT_in (i := 542) (by decide +kernel) (by decide +kernel)
theorem zw_543 : (Jvm.Cond.static ({ cls := "DutyLedgerLaw", name := "look", desc := "(LDutyLedger;II[J)I" } : Jvm.MethodName)) ∈ zT := zT_in (i := 543) (by decide +kernel) (by decide +kernel)
theorem zw_544 : (Jvm.Cond.codeWith ({ cls := "DutyLedgerLaw", name := "look", desc := "(LDutyLedger;II[J)I" } : Jvm.MethodName) method_12_code (5 : Nat) (Option.some Jvm.ClassFile.FieldType.int) [((0 : Nat), (10 : Nat), (13 : Nat), (47 : Nat))]) ∈ zT := zT_in (i := 544) (by decide +kernel) (by decide +kernel)
theorem zw_545 : (Jvm.Cond.methodLink "DutyLedgerLaw" (49 : Nat) ({ cls := "DutyLedger", name := "look", desc := "(II)I" } : Jvm.MethodName)) ∈ zT := zT_in (i := 545) (by decide +kernel) (by decide +kernel)
theorem zw_546 : (Jvm.Cond.instanceMethod ({ cls := "DutyLedger", name := "look", desc := "(II)I" } : Jvm.MethodName)) ∈ zT := zT_in (i := 546) (by decide +kernel) (by decide +kernel)
theorem zw_547 : (Jvm.Cond.selects "DutyLedger" ({ cls := "DutyLedger", name := "look", desc := "(II)I" } : Jvm.MethodName) ({ cls := "DutyLedger", name := "look", desc := "(II)I" } : Jvm.MethodName)) ∈ zT := zT_in (i := 547) (by decide +kernel) (by decide +kernel)
theorem zw_548 : (Jvm.Cond.code ({ cls := "DutyLedger", name := "look", desc := "(II)I" } : Jvm.MethodName) prog_1_method_16_code (4 : Nat) (Option.some Jvm.ClassFile.FieldType.int)) ∈ zT := zT_in (i := 548) (by decide +kernel) (by decide +kernel)
theorem zw_550 : (Jvm.Cond.classLink "DutyLedgerLaw" (53 : Nat) "DutyLedgerModel") ∈ zT := zT_in (i := 550) (by decide +kernel) (by decide +kernel)
theorem zw_551 : (Jvm.Cond.instantiable "DutyLedgerModel" (22 : Nat)) ∈ zT := zT_in (i := 551) (by decide +kernel) (by decide +kernel)
theorem zw_552 : (Jvm.Cond.methodLink "DutyLedgerLaw" (55 : Nat) ({ cls := "DutyLedgerModel", name := "<init>", desc := "()V" } : Jvm.MethodName)) ∈ zT := zT_in (i := 552) (by decide +kernel) (by decide +kernel)
theorem zw_553 : (Jvm.Cond.instanceMethod ({ cls := "DutyLedgerModel", name := "<init>", desc := "()V" } : Jvm.MethodName)) ∈ zT := zT_in (i := 553) (by decide +kernel) (by decide +kernel)
theorem zw_554 : (Jvm.Cond.code ({ cls := "DutyLedgerModel", name := "<init>", desc := "()V" } : Jvm.MethodName) prog_6_method_1_code (1 : Nat) (Option.none : Option Jvm.ClassFile.FieldType)) ∈ zT := zT_in (i := 554) (by decide +kernel) (by decide +kernel)
theorem zw_555 : (Jvm.Cond.methodLink "DutyLedgerModel" (1 : Nat) ({ cls := "java/lang/Object", name := "<init>", desc := "()V" } : Jvm.MethodName)) ∈ zT := zT_in (i := 555) (by decide +kernel) (by decide +kernel)
theorem zw_556 : (Jvm.Cond.fieldLink "DutyLedgerModel" (61 : Nat) "DutyLedgerModel" "thrown" "I") ∈ zT := zT_in (i := 556) (by decide +kernel) (by decide +kernel)
theorem zw_557 : (Jvm.Cond.fieldLink "DutyLedgerModel" (72 : Nat) "DutyLedgerModel" "accounts" "I") ∈ zT := zT_in (i := 557) (by decide +kernel) (by decide +kernel)
theorem zw_558 : (Jvm.Cond.fieldLink "DutyLedgerModel" (75 : Nat) "DutyLedgerModel" "batches" "I") ∈ zT := zT_in (i := 558) (by decide +kernel) (by decide +kernel)
theorem zw_559 : (Jvm.Cond.fieldLink "DutyLedgerModel" (103 : Nat) "DutyLedgerModel" "rows" "I") ∈ zT := zT_in (i := 559) (by decide +kernel) (by decide +kernel)
theorem zw_560 : (Jvm.Cond.fieldLink "DutyLedgerModel" (9 : Nat) "DutyLedgerModel" "closed" "I") ∈ zT := zT_in (i := 560) (by decide +kernel) (by decide +kernel)
theorem zw_561 : (Jvm.Cond.fieldLink "DutyLedgerModel" (13 : Nat) "DutyLedgerModel" "latest" "I") ∈ zT := zT_in (i := 561) (by decide +kernel) (by decide +kernel)
theorem zw_562 : (Jvm.Cond.fieldLink "DutyLedgerModel" (110 : Nat) "DutyLedgerModel" "wrong" "I") ∈ zT := zT_in (i := 562) (by decide +kernel) (by decide +kernel)
theorem zw_563 : (Jvm.Cond.fieldLink "DutyLedgerModel" (16 : Nat) "DutyLedgerModel" "named" "I") ∈ zT := zT_in (i := 563) (by decide +kernel) (by decide +kernel)
theorem zw_564 : (Jvm.Cond.fieldLink "DutyLedgerModel" (116 : Nat) "DutyLedgerModel" "failures" "I") ∈ zT := zT_in (i := 564) (by decide +kernel) (by decide +kernel)
theorem zw_565 : (Jvm.Cond.fieldLink "DutyLedgerModel" (19 : Nat) "DutyLedgerModel" "kindOf" "[I") ∈ zT := zT_in (i := 565) (by decide +kernel) (by decide +kernel)
theorem zw_566 : (Jvm.Cond.fieldLink "DutyLedgerModel" (23 : Nat) "DutyLedgerModel" "stateOf" "[I") ∈ zT := zT_in (i := 566) (by decide +kernel) (by decide +kernel)
theorem zw_567 : (Jvm.Cond.fieldLink "DutyLedgerModel" (26 : Nat) "DutyLedgerModel" "validOf" "[I") ∈ zT := zT_in (i := 567) (by decide +kernel) (by decide +kernel)
theorem zw_568 : (Jvm.Cond.fieldLink "DutyLedgerModel" (29 : Nat) "DutyLedgerModel" "knownOf" "[I") ∈ zT := zT_in (i := 568) (by decide +kernel) (by decide +kernel)
theorem zw_569 : (Jvm.Cond.fieldLink "DutyLedgerModel" (32 : Nat) "DutyLedgerModel" "reverses" "[I") ∈ zT := zT_in (i := 569) (by decide +kernel) (by decide +kernel)
theorem zw_570 : (Jvm.Cond.fieldLink "DutyLedgerModel" (35 : Nat) "DutyLedgerModel" "reversedBy" "[I") ∈ zT := zT_in (i := 570) (by decide +kernel) (by decide +kernel)
theorem zw_571 : (Jvm.Cond.fieldLink "DutyLedgerModel" (38 : Nat) "DutyLedgerModel" "toFail" "[Z") ∈ zT := zT_in (i := 571) (by decide +kernel) (by decide +kernel)
theorem zw_572 : (Jvm.Cond.fieldLink "DutyLedgerModel" (42 : Nat) "DutyLedgerModel" "sizeOf" "[I") ∈ zT := zT_in (i := 572) (by decide +kernel) (by decide +kernel)
theorem zw_573 : (Jvm.Cond.fieldLink "DutyLedgerModel" (45 : Nat) "DutyLedgerModel" "rowAccount" "[I") ∈ zT := zT_in (i := 573) (by decide +kernel) (by decide +kernel)
theorem zw_574 : (Jvm.Cond.fieldLink "DutyLedgerModel" (48 : Nat) "DutyLedgerModel" "rowCents" "[J") ∈ zT := zT_in (i := 574) (by decide +kernel) (by decide +kernel)
theorem zw_575 : (Jvm.Cond.fieldLink "DutyLedgerModel" (52 : Nat) "DutyLedgerModel" "ledger" "[I") ∈ zT := zT_in (i := 575) (by decide +kernel) (by decide +kernel)
theorem zw_576 : (Jvm.Cond.fieldLink "DutyLedgerModel" (55 : Nat) "DutyLedgerModel" "parts" "[I") ∈ zT := zT_in (i := 576) (by decide +kernel) (by decide +kernel)
theorem zw_577 : (Jvm.Cond.fieldLink "DutyLedgerModel" (58 : Nat) "DutyLedgerModel" "costs" "[I") ∈ zT := zT_in (i := 577) (by decide +kernel) (by decide +kernel)
theorem zw_578 : (Jvm.Cond.lays "DutyLedgerModel" "DutyLedgerModel" "thrown" "I") ∈ zT := zT_in (i := 578) (by decide +kernel) (by decide +kernel)
theorem zw_580 : (Jvm.Cond.lays "DutyLedgerModel" "DutyLedgerModel" "accounts" "I") ∈ zT := zT_in (i := 580) (by decide +kernel) (by decide +kernel)
theorem zw_582 : (Jvm.Cond.lays "DutyLedgerModel" "DutyLedgerModel" "batches" "I") ∈ zT := zT_in (i := 582) (by decide +kernel) (by decide +kernel)
theorem zw_584 : (Jvm.Cond.lays "DutyLedgerModel" "DutyLedgerModel" "rows" "I") ∈ zT := zT_in (i := 584) (by decide +kernel) (by decide +kernel)
theorem zw_586 : (Jvm.Cond.lays "DutyLedgerModel" "DutyLedgerModel" "closed" "I") ∈ zT := zT_in (i := 586) (by decide +kernel) (by decide +kernel)
theorem zw_588 : (Jvm.Cond.lays "DutyLedgerModel" "DutyLedgerModel" "latest" "I") ∈ zT := zT_in (i := 588) (by decide +kernel) (by decide +kernel)
theorem zw_590 : (Jvm.Cond.lays "DutyLedgerModel" "DutyLedgerModel" "wrong" "I") ∈ zT := zT_in (i := 590) (by decide +kernel) (by decide +kernel)
theorem zw_592 : (Jvm.Cond.lays "DutyLedgerModel" "DutyLedgerModel" "named" "I") ∈ zT := zT_in (i := 592) (by decide +kernel) (by decide +kernel)
theorem zw_594 : (Jvm.Cond.lays "DutyLedgerModel" "DutyLedgerModel" "failures" "I") ∈ zT := zT_in (i := 594) (by decide +kernel) (by decide +kernel)
theorem zw_596 : (Jvm.Cond.laysFinal "DutyLedgerModel" "DutyLedgerModel" "kindOf" "[I") ∈ zT := zT_in (i := 596) (by decide +kernel) (by decide +kernel)
theorem zw_598 : (Jvm.Cond.laysFinal "DutyLedgerModel" "DutyLedgerModel" "stateOf" "[I") ∈ zT := zT_in (i := 598) (by decide +kernel) (by decide +kernel)
theorem zw_600 : (Jvm.Cond.laysFinal "DutyLedgerModel" "DutyLedgerModel" "validOf" "[I") ∈ zT := zT_in (i := 600) (by decide +kernel) (by decide +kernel)
theorem zw_602 : (Jvm.Cond.laysFinal "DutyLedgerModel" "DutyLedgerModel" "knownOf" "[I") ∈ zT := zT_in (i := 602) (by decide +kernel) (by decide +kernel)
theorem zw_604 : (Jvm.Cond.laysFinal "DutyLedgerModel" "DutyLedgerModel" "reverses" "[I") ∈ zT := zT_in (i := 604) (by decide +kernel) (by decide +kernel)
theorem zw_606 : (Jvm.Cond.laysFinal "DutyLedgerModel" "DutyLedgerModel" "reversedBy" "[I") ∈ zT := zT_in (i := 606) (by decide +kernel) (by decide +kernel)
theorem zw_608 : (Jvm.Cond.laysFinal "DutyLedgerModel" "DutyLedgerModel" "toFail" "[Z") ∈ zT := zT_in (i := 608) (by decide +kernel) (by decide +kernel)
theorem zw_610 : (Jvm.Cond.laysFinal "DutyLedgerModel" "DutyLedgerModel" "sizeOf" "[I") ∈ zT := zT_in (i := 610) (by decide +kernel) (by decide +kernel)
theorem zw_612 : (Jvm.Cond.laysFinal "DutyLedgerModel" "DutyLedgerModel" "rowAccount" "[I") ∈ zT := zT_in (i := 612) (by decide +kernel) (by decide +kernel)
theorem zw_614 : (Jvm.Cond.laysFinal "DutyLedgerModel" "DutyLedgerModel" "rowCents" "[J") ∈ zT := zT_in (i := 614) (by decide +kernel) (by decide +kernel)
theorem zw_616 : (Jvm.Cond.laysFinal "DutyLedgerModel" "DutyLedgerModel" "ledger" "[I") ∈ zT := zT_in (i := 616) (by decide +kernel) (by decide +kernel)
theorem zw_618 : (Jvm.Cond.laysFinal "DutyLedgerModel" "DutyLedgerModel" "parts" "[I") ∈ zT := zT_in (i := 618) (by decide +kernel) (by decide +kernel)
theorem zw_620 : (Jvm.Cond.laysFinal "DutyLedgerModel" "DutyLedgerModel" "costs" "[I") ∈ zT := zT_in (i := 620) (by decide +kernel) (by decide +kernel)
theorem zw_623 : (Jvm.Cond.arrayClass Jvm.ClassFile.FieldType.boolean) ∈ zT := zT_in (i := 623) (by decide +kernel) (by decide +kernel)
theorem zw_624 : (Jvm.Cond.methodLink "DutyLedgerLaw" (62 : Nat) ({ cls := "DutyLedgerModel", name := "thrown", desc := "()I" } : Jvm.MethodName)) ∈ zT := zT_in (i := 624) (by decide +kernel) (by decide +kernel)
theorem zw_625 : (Jvm.Cond.instanceMethod ({ cls := "DutyLedgerModel", name := "thrown", desc := "()I" } : Jvm.MethodName)) ∈ zT := zT_in (i := 625) (by decide +kernel) (by decide +kernel)
theorem zw_626 : (Jvm.Cond.selects "DutyLedgerModel" ({ cls := "DutyLedgerModel", name := "thrown", desc := "()I" } : Jvm.MethodName) ({ cls := "DutyLedgerModel", name := "thrown", desc := "()I" } : Jvm.MethodName)) ∈ zT := zT_in (i := 626) (by decide +kernel) (by decide +kernel)
theorem zw_627 : (Jvm.Cond.code ({ cls := "DutyLedgerModel", name := "thrown", desc := "()I" } : Jvm.MethodName) prog_6_method_2_code (1 : Nat) (Option.some Jvm.ClassFile.FieldType.int)) ∈ zT := zT_in (i := 627) (by decide +kernel) (by decide +kernel)
theorem zw_628 : (Jvm.Cond.methodLink "DutyLedgerLaw" (61 : Nat) ({ cls := "DutyLedgerModel", name := "account", desc := "(I)I" } : Jvm.MethodName)) ∈ zT := zT_in (i := 628) (by decide +kernel) (by decide +kernel)
theorem zw_629 : (Jvm.Cond.instanceMethod ({ cls := "DutyLedgerModel", name := "account", desc := "(I)I" } : Jvm.MethodName)) ∈ zT := zT_in (i := 629) (by decide +kernel) (by decide +kernel)
theorem zw_630 : (Jvm.Cond.selects "DutyLedgerModel" ({ cls := "DutyLedgerModel", name := "account", desc := "(I)I" } : Jvm.MethodName) ({ cls := "DutyLedgerModel", name := "account", desc := "(I)I" } : Jvm.MethodName)) ∈ zT := zT_in (i := 630) (by decide +kernel) (by decide +kernel)
theorem zw_631 : (Jvm.Cond.code ({ cls := "DutyLedgerModel", name := "account", desc := "(I)I" } : Jvm.MethodName) prog_6_method_8_code (2 : Nat) (Option.some Jvm.ClassFile.FieldType.int)) ∈ zT := zT_in (i := 631) (by decide +kernel) (by decide +kernel)
theorem zw_632 : (Jvm.Cond.methodLink "DutyLedgerModel" (78 : Nat) ({ cls := "DutyLedgerModel", name := "isKind", desc := "(I)Z" } : Jvm.MethodName)) ∈ zT := zT_in (i := 632) (by decide +kernel) (by decide +kernel)
theorem zw_633 : (Jvm.Cond.static ({ cls := "DutyLedgerModel", name := "isKind", desc := "(I)Z" } : Jvm.MethodName)) ∈ zT := zT_in (i := 633) (by decide +kernel) (by decide +kernel)
theorem zw_634 : (Jvm.Cond.code ({ cls := "DutyLedgerModel", name := "isKind", desc := "(I)Z" } : Jvm.MethodName) prog_6_method_5_code (1 : Nat) (Option.some Jvm.ClassFile.FieldType.boolean)) ∈ zT := zT_in (i := 634) (by decide +kernel) (by decide +kernel)
theorem zw_635 : (Jvm.Cond.constantLong "DutyLedgerModel" (70 : Nat) (5 : Int64)) ∈ zT := zT_in (i := 635) (by decide +kernel) (by decide +kernel)
theorem zw_636 : (Jvm.Cond.methodLink "DutyLedgerModel" (66 : Nat) ({ cls := "DutyLedgerModel", name := "in", desc := "(JJJ)Z" } : Jvm.MethodName)) ∈ zT := zT_in (i := 636) (by decide +kernel) (by decide +kernel)
theorem zw_637 : (Jvm.Cond.static ({ cls := "DutyLedgerModel", name := "in", desc := "(JJJ)Z" } : Jvm.MethodName)) ∈ zT := zT_in (i := 637) (by decide +kernel) (by decide +kernel)
theorem zw_638 : (Jvm.Cond.code ({ cls := "DutyLedgerModel", name := "in", desc := "(JJJ)Z" } : Jvm.MethodName) prog_6_method_3_code (6 : Nat) (Option.some Jvm.ClassFile.FieldType.boolean)) ∈ zT := zT_in (i := 638) (by decide +kernel) (by decide +kernel)
theorem zw_639 : (Jvm.Cond.methodLink "DutyLedgerLaw" (69 : Nat) ({ cls := "DutyLedgerModel", name := "batch", desc := "(II)I" } : Jvm.MethodName)) ∈ zT := zT_in (i := 639) (by decide +kernel) (by decide +kernel)
theorem zw_640 : (Jvm.Cond.instanceMethod ({ cls := "DutyLedgerModel", name := "batch", desc := "(II)I" } : Jvm.MethodName)) ∈ zT := zT_in (i := 640) (by decide +kernel) (by decide +kernel)
theorem zw_641 : (Jvm.Cond.selects "DutyLedgerModel" ({ cls := "DutyLedgerModel", name := "batch", desc := "(II)I" } : Jvm.MethodName) ({ cls := "DutyLedgerModel", name := "batch", desc := "(II)I" } : Jvm.MethodName)) ∈ zT := zT_in (i := 641) (by decide +kernel) (by decide +kernel)
theorem zw_642 : (Jvm.Cond.code ({ cls := "DutyLedgerModel", name := "batch", desc := "(II)I" } : Jvm.MethodName) prog_6_method_10_code (3 : Nat) (Option.some Jvm.ClassFile.FieldType.int)) ∈ zT := zT_in (i := 642) (by decide +kernel) (by decide +kernel)
theorem zw_643 : (Jvm.Cond.methodLink "DutyLedgerModel" (82 : Nat) ({ cls := "DutyLedgerModel", name := "isDay", desc := "(I)Z" } : Jvm.MethodName)) ∈ zT := zT_in (i := 643) (by decide +kernel) (by decide +kernel)
theorem zw_644 : (Jvm.Cond.static ({ cls := "DutyLedgerModel", name := "isDay", desc := "(I)Z" } : Jvm.MethodName)) ∈ zT := zT_in (i := 644) (by decide +kernel) (by decide +kernel)
theorem zw_645 : (Jvm.Cond.code ({ cls := "DutyLedgerModel", name := "isDay", desc := "(I)Z" } : Jvm.MethodName) prog_6_method_4_code (1 : Nat) (Option.some Jvm.ClassFile.FieldType.boolean)) ∈ zT := zT_in (i := 645) (by decide +kernel) (by decide +kernel)
theorem zw_646 : (Jvm.Cond.constantLong "DutyLedgerModel" (64 : Nat) (100000 : Int64)) ∈ zT := zT_in (i := 646) (by decide +kernel) (by decide +kernel)
theorem zw_647 : (Jvm.Cond.methodLink "DutyLedgerModel" (85 : Nat) ({ cls := "DutyLedgerModel", name := "begin", desc := "(III)V" } : Jvm.MethodName)) ∈ zT := zT_in (i := 647) (by decide +kernel) (by decide +kernel)
theorem zw_649 : (Jvm.Cond.instanceMethod ({ cls := "DutyLedgerModel", name := "begin", desc := "(III)V" } : Jvm.MethodName)) ∈ zT := zT_in (i := 649) (by decide +kernel) (by decide +kernel)
theorem zw_650 : (Jvm.Cond.code ({ cls := "DutyLedgerModel", name := "begin", desc := "(III)V" } : Jvm.MethodName) prog_6_method_9_code (4 : Nat) (Option.none : Option Jvm.ClassFile.FieldType)) ∈ zT := zT_in (i := 650) (by decide +kernel) (by decide +kernel)
theorem zw_651 : (Jvm.Cond.methodLink "DutyLedgerLaw" (76 : Nat) ({ cls := "DutyLedgerModel", name := "row", desc := "(IIJ)Z" } : Jvm.MethodName)) ∈ zT := zT_in (i := 651) (by decide +kernel) (by decide +kernel)
theorem zw_652 : (Jvm.Cond.instanceMethod ({ cls := "DutyLedgerModel", name := "row", desc := "(IIJ)Z" } : Jvm.MethodName)) ∈ zT := zT_in (i := 652) (by decide +kernel) (by decide +kernel)
theorem zw_653 : (Jvm.Cond.selects "DutyLedgerModel" ({ cls := "DutyLedgerModel", name := "row", desc := "(IIJ)Z" } : Jvm.MethodName) ({ cls := "DutyLedgerModel", name := "row", desc := "(IIJ)Z" } : Jvm.MethodName)) ∈ zT := zT_in (i := 653) (by decide +kernel) (by decide +kernel)
theorem zw_654 : (Jvm.Cond.code ({ cls := "DutyLedgerModel", name := "row", desc := "(IIJ)Z" } : Jvm.MethodName) prog_6_method_11_code (5 : Nat) (Option.some Jvm.ClassFile.FieldType.boolean)) ∈ zT := zT_in (i := 654) (by decide +kernel) (by decide +kernel)
theorem zw_655 : (Jvm.Cond.methodLink "DutyLedgerModel" (89 : Nat) ({ cls := "DutyLedgerModel", name := "isOpen", desc := "(I)Z" } : Jvm.MethodName)) ∈ zT := zT_in (i := 655) (by decide +kernel) (by decide +kernel)
theorem zw_657 : (Jvm.Cond.instanceMethod ({ cls := "DutyLedgerModel", name := "isOpen", desc := "(I)Z" } : Jvm.MethodName)) ∈ zT := zT_in (i := 657) (by decide +kernel) (by decide +kernel)
theorem zw_658 : (Jvm.Cond.code ({ cls := "DutyLedgerModel", name := "isOpen", desc := "(I)Z" } : Jvm.MethodName) prog_6_method_7_code (2 : Nat) (Option.some Jvm.ClassFile.FieldType.boolean)) ∈ zT := zT_in (i := 658) (by decide +kernel) (by decide +kernel)
theorem zw_659 : (Jvm.Cond.methodLink "DutyLedgerModel" (92 : Nat) ({ cls := "DutyLedgerModel", name := "isAccount", desc := "(I)Z" } : Jvm.MethodName)) ∈ zT := zT_in (i := 659) (by decide +kernel) (by decide +kernel)
theorem zw_661 : (Jvm.Cond.instanceMethod ({ cls := "DutyLedgerModel", name := "isAccount", desc := "(I)Z" } : Jvm.MethodName)) ∈ zT := zT_in (i := 661) (by decide +kernel) (by decide +kernel)
theorem zw_662 : (Jvm.Cond.code ({ cls := "DutyLedgerModel", name := "isAccount", desc := "(I)Z" } : Jvm.MethodName) prog_6_method_6_code (2 : Nat) (Option.some Jvm.ClassFile.FieldType.boolean)) ∈ zT := zT_in (i := 662) (by decide +kernel) (by decide +kernel)
theorem zw_663 : (Jvm.Cond.constantLong "DutyLedgerModel" (95 : Nat) (-1000000000 : Int64)) ∈ zT := zT_in (i := 663) (by decide +kernel) (by decide +kernel)
theorem zw_664 : (Jvm.Cond.constantLong "DutyLedgerModel" (97 : Nat) (1000000000 : Int64)) ∈ zT := zT_in (i := 664) (by decide +kernel) (by decide +kernel)
theorem zw_665 : (Jvm.Cond.methodLink "DutyLedgerLaw" (81 : Nat) ({ cls := "DutyLedgerModel", name := "fails", desc := "(IZ)Z" } : Jvm.MethodName)) ∈ zT := zT_in (i := 665) (by decide +kernel) (by decide +kernel)
theorem zw_666 : (Jvm.Cond.instanceMethod ({ cls := "DutyLedgerModel", name := "fails", desc := "(IZ)Z" } : Jvm.MethodName)) ∈ zT := zT_in (i := 666) (by decide +kernel) (by decide +kernel)
theorem zw_667 : (Jvm.Cond.selects "DutyLedgerModel" ({ cls := "DutyLedgerModel", name := "fails", desc := "(IZ)Z" } : Jvm.MethodName) ({ cls := "DutyLedgerModel", name := "fails", desc := "(IZ)Z" } : Jvm.MethodName)) ∈ zT := zT_in (i := 667) (by decide +kernel) (by decide +kernel)
theorem zw_668 : (Jvm.Cond.code ({ cls := "DutyLedgerModel", name := "fails", desc := "(IZ)Z" } : Jvm.MethodName) prog_6_method_12_code (3 : Nat) (Option.some Jvm.ClassFile.FieldType.boolean)) ∈ zT := zT_in (i := 668) (by decide +kernel) (by decide +kernel)
theorem zw_669 : (Jvm.Cond.methodLink "DutyLedgerLaw" (84 : Nat) ({ cls := "DutyLedgerModel", name := "post", desc := "(I)I" } : Jvm.MethodName)) ∈ zT := zT_in (i := 669) (by decide +kernel) (by decide +kernel)
theorem zw_670 : (Jvm.Cond.instanceMethod ({ cls := "DutyLedgerModel", name := "post", desc := "(I)I" } : Jvm.MethodName)) ∈ zT := zT_in (i := 670) (by decide +kernel) (by decide +kernel)
theorem zw_671 : (Jvm.Cond.selects "DutyLedgerModel" ({ cls := "DutyLedgerModel", name := "post", desc := "(I)I" } : Jvm.MethodName) ({ cls := "DutyLedgerModel", name := "post", desc := "(I)I" } : Jvm.MethodName)) ∈ zT := zT_in (i := 671) (by decide +kernel) (by decide +kernel)
theorem zw_672 : (Jvm.Cond.code ({ cls := "DutyLedgerModel", name := "post", desc := "(I)I" } : Jvm.MethodName) prog_6_method_17_code (3 : Nat) (Option.some Jvm.ClassFile.FieldType.int)) ∈ zT := zT_in (i := 672) (by decide +kernel) (by decide +kernel)
theorem zw_673 : (Jvm.Cond.methodLink "DutyLedgerModel" (106 : Nat) ({ cls := "DutyLedgerModel", name := "wrongWith", desc := "(I)I" } : Jvm.MethodName)) ∈ zT := zT_in (i := 673) (by decide +kernel) (by decide +kernel)
theorem zw_675 : (Jvm.Cond.instanceMethod ({ cls := "DutyLedgerModel", name := "wrongWith", desc := "(I)I" } : Jvm.MethodName)) ∈ zT := zT_in (i := 675) (by decide +kernel) (by decide +kernel)
theorem zw_676 : (Jvm.Cond.code ({ cls := "DutyLedgerModel", name := "wrongWith", desc := "(I)I" } : Jvm.MethodName) prog_6_method_14_code (2 : Nat) (Option.some Jvm.ClassFile.FieldType.int)) ∈ zT := zT_in (i := 676) (by decide +kernel) (by decide +kernel)
theorem zw_677 : (Jvm.Cond.methodLink "DutyLedgerModel" (99 : Nat) ({ cls := "DutyLedgerModel", name := "sumIn", desc := "(II)J" } : Jvm.MethodName)) ∈ zT := zT_in (i := 677) (by decide +kernel) (by decide +kernel)
theorem zw_679 : (Jvm.Cond.instanceMethod ({ cls := "DutyLedgerModel", name := "sumIn", desc := "(II)J" } : Jvm.MethodName)) ∈ zT := zT_in (i := 679) (by decide +kernel) (by decide +kernel)
theorem zw_680 : (Jvm.Cond.code ({ cls := "DutyLedgerModel", name := "sumIn", desc := "(II)J" } : Jvm.MethodName) prog_6_method_13_code (6 : Nat) (Option.some Jvm.ClassFile.FieldType.long)) ∈ zT := zT_in (i := 680) (by decide +kernel) (by decide +kernel)
theorem zw_681 : (Jvm.Cond.methodLink "DutyLedgerModel" (113 : Nat) ({ cls := "DutyLedgerModel", name := "greatestIn", desc := "(I)I" } : Jvm.MethodName)) ∈ zT := zT_in (i := 681) (by decide +kernel) (by decide +kernel)
theorem zw_683 : (Jvm.Cond.instanceMethod ({ cls := "DutyLedgerModel", name := "greatestIn", desc := "(I)I" } : Jvm.MethodName)) ∈ zT := zT_in (i := 683) (by decide +kernel) (by decide +kernel)
theorem zw_684 : (Jvm.Cond.code ({ cls := "DutyLedgerModel", name := "greatestIn", desc := "(I)I" } : Jvm.MethodName) prog_6_method_16_code (8 : Nat) (Option.some Jvm.ClassFile.FieldType.int)) ∈ zT := zT_in (i := 684) (by decide +kernel) (by decide +kernel)
theorem zw_685 : (Jvm.Cond.methodLink "DutyLedgerModel" (119 : Nat) ({ cls := "DutyLedgerModel", name := "enter", desc := "(I)V" } : Jvm.MethodName)) ∈ zT := zT_in (i := 685) (by decide +kernel) (by decide +kernel)
theorem zw_687 : (Jvm.Cond.instanceMethod ({ cls := "DutyLedgerModel", name := "enter", desc := "(I)V" } : Jvm.MethodName)) ∈ zT := zT_in (i := 687) (by decide +kernel) (by decide +kernel)
theorem zw_688 : (Jvm.Cond.code ({ cls := "DutyLedgerModel", name := "enter", desc := "(I)V" } : Jvm.MethodName) prog_6_method_15_code (3 : Nat) (Option.none : Option Jvm.ClassFile.FieldType)) ∈ zT := zT_in (i := 688) (by decide +kernel) (by decide +kernel)
theorem zw_689 : (Jvm.Cond.methodLink "DutyLedgerLaw" (87 : Nat) ({ cls := "DutyLedgerModel", name := "reverse", desc := "(II)I" } : Jvm.MethodName)) ∈ zT := zT_in (i := 689) (by decide +kernel) (by decide +kernel)
theorem zw_690 : (Jvm.Cond.instanceMethod ({ cls := "DutyLedgerModel", name := "reverse", desc := "(II)I" } : Jvm.MethodName)) ∈ zT := zT_in (i := 690) (by decide +kernel) (by decide +kernel)
theorem zw_691 : (Jvm.Cond.selects "DutyLedgerModel" ({ cls := "DutyLedgerModel", name := "reverse", desc := "(II)I" } : Jvm.MethodName) ({ cls := "DutyLedgerModel", name := "reverse", desc := "(II)I" } : Jvm.MethodName)) ∈ zT := zT_in (i := 691) (by decide +kernel) (by decide +kernel)
theorem zw_692 : (Jvm.Cond.code ({ cls := "DutyLedgerModel", name := "reverse", desc := "(II)I" } : Jvm.MethodName) prog_6_method_18_code (6 : Nat) (Option.some Jvm.ClassFile.FieldType.int)) ∈ zT := zT_in (i := 692) (by decide +kernel) (by decide +kernel)
theorem zw_693 : (Jvm.Cond.methodLink "DutyLedgerLaw" (92 : Nat) ({ cls := "DutyLedgerModel", name := "close", desc := "(I)Z" } : Jvm.MethodName)) ∈ zT := zT_in (i := 693) (by decide +kernel) (by decide +kernel)
theorem zw_694 : (Jvm.Cond.instanceMethod ({ cls := "DutyLedgerModel", name := "close", desc := "(I)Z" } : Jvm.MethodName)) ∈ zT := zT_in (i := 694) (by decide +kernel) (by decide +kernel)
theorem zw_695 : (Jvm.Cond.selects "DutyLedgerModel" ({ cls := "DutyLedgerModel", name := "close", desc := "(I)Z" } : Jvm.MethodName) ({ cls := "DutyLedgerModel", name := "close", desc := "(I)Z" } : Jvm.MethodName)) ∈ zT := zT_in (i := 695) (by decide +kernel) (by decide +kernel)
theorem zw_696 : (Jvm.Cond.code ({ cls := "DutyLedgerModel", name := "close", desc := "(I)Z" } : Jvm.MethodName) prog_6_method_19_code (2 : Nat) (Option.some Jvm.ClassFile.FieldType.boolean)) ∈ zT := zT_in (i := 696) (by decide +kernel) (by decide +kernel)
theorem zw_697 : (Jvm.Cond.methodLink "DutyLedgerLaw" (96 : Nat) ({ cls := "DutyLedgerModel", name := "balance", desc := "(III)J" } : Jvm.MethodName)) ∈ zT := zT_in (i := 697) (by decide +kernel) (by decide +kernel)
theorem zw_698 : (Jvm.Cond.instanceMethod ({ cls := "DutyLedgerModel", name := "balance", desc := "(III)J" } : Jvm.MethodName)) ∈ zT := zT_in (i := 698) (by decide +kernel) (by decide +kernel)
theorem zw_699 : (Jvm.Cond.selects "DutyLedgerModel" ({ cls := "DutyLedgerModel", name := "balance", desc := "(III)J" } : Jvm.MethodName) ({ cls := "DutyLedgerModel", name := "balance", desc := "(III)J" } : Jvm.MethodName)) ∈ zT := zT_in (i := 699) (by decide +kernel) (by decide +kernel)
theorem zw_700 : (Jvm.Cond.code ({ cls := "DutyLedgerModel", name := "balance", desc := "(III)J" } : Jvm.MethodName) prog_6_method_21_code (4 : Nat) (Option.some Jvm.ClassFile.FieldType.long)) ∈ zT := zT_in (i := 700) (by decide +kernel) (by decide +kernel)
theorem zw_701 : (Jvm.Cond.methodLink "DutyLedgerModel" (123 : Nat) ({ cls := "DutyLedgerModel", name := "sum", desc := "(IIII)J" } : Jvm.MethodName)) ∈ zT := zT_in (i := 701) (by decide +kernel) (by decide +kernel)
theorem zw_703 : (Jvm.Cond.instanceMethod ({ cls := "DutyLedgerModel", name := "sum", desc := "(IIII)J" } : Jvm.MethodName)) ∈ zT := zT_in (i := 703) (by decide +kernel) (by decide +kernel)
theorem zw_704 : (Jvm.Cond.code ({ cls := "DutyLedgerModel", name := "sum", desc := "(IIII)J" } : Jvm.MethodName) prog_6_method_20_code (10 : Nat) (Option.some Jvm.ClassFile.FieldType.long)) ∈ zT := zT_in (i := 704) (by decide +kernel) (by decide +kernel)
theorem zw_705 : (Jvm.Cond.methodLink "DutyLedgerLaw" (99 : Nat) ({ cls := "DutyLedgerModel", name := "statement", desc := "(III)J" } : Jvm.MethodName)) ∈ zT := zT_in (i := 705) (by decide +kernel) (by decide +kernel)
theorem zw_706 : (Jvm.Cond.instanceMethod ({ cls := "DutyLedgerModel", name := "statement", desc := "(III)J" } : Jvm.MethodName)) ∈ zT := zT_in (i := 706) (by decide +kernel) (by decide +kernel)
theorem zw_707 : (Jvm.Cond.selects "DutyLedgerModel" ({ cls := "DutyLedgerModel", name := "statement", desc := "(III)J" } : Jvm.MethodName) ({ cls := "DutyLedgerModel", name := "statement", desc := "(III)J" } : Jvm.MethodName)) ∈ zT := zT_in (i := 707) (by decide +kernel) (by decide +kernel)
theorem zw_708 : (Jvm.Cond.code ({ cls := "DutyLedgerModel", name := "statement", desc := "(III)J" } : Jvm.MethodName) prog_6_method_22_code (4 : Nat) (Option.some Jvm.ClassFile.FieldType.long)) ∈ zT := zT_in (i := 708) (by decide +kernel) (by decide +kernel)
theorem zw_709 : (Jvm.Cond.constantLong "DutyLedgerModel" (127 : Nat) (3333 : Int64)) ∈ zT := zT_in (i := 709) (by decide +kernel) (by decide +kernel)
theorem zw_710 : (Jvm.Cond.methodLink "DutyLedgerLaw" (104 : Nat) ({ cls := "DutyLedgerModel", name := "part", desc := "(III)Z" } : Jvm.MethodName)) ∈ zT := zT_in (i := 710) (by decide +kernel) (by decide +kernel)
theorem zw_711 : (Jvm.Cond.instanceMethod ({ cls := "DutyLedgerModel", name := "part", desc := "(III)Z" } : Jvm.MethodName)) ∈ zT := zT_in (i := 711) (by decide +kernel) (by decide +kernel)
theorem zw_712 : (Jvm.Cond.selects "DutyLedgerModel" ({ cls := "DutyLedgerModel", name := "part", desc := "(III)Z" } : Jvm.MethodName) ({ cls := "DutyLedgerModel", name := "part", desc := "(III)Z" } : Jvm.MethodName)) ∈ zT := zT_in (i := 712) (by decide +kernel) (by decide +kernel)
theorem zw_713 : (Jvm.Cond.code ({ cls := "DutyLedgerModel", name := "part", desc := "(III)Z" } : Jvm.MethodName) prog_6_method_23_code (4 : Nat) (Option.some Jvm.ClassFile.FieldType.boolean)) ∈ zT := zT_in (i := 713) (by decide +kernel) (by decide +kernel)
theorem zw_714 : (Jvm.Cond.constantLong "DutyLedgerModel" (129 : Nat) (3 : Int64)) ∈ zT := zT_in (i := 714) (by decide +kernel) (by decide +kernel)
theorem zw_715 : (Jvm.Cond.constantLong "DutyLedgerModel" (131 : Nat) (1000 : Int64)) ∈ zT := zT_in (i := 715) (by decide +kernel) (by decide +kernel)
theorem zw_716 : (Jvm.Cond.methodLink "DutyLedgerLaw" (109 : Nat) ({ cls := "DutyLedgerModel", name := "cost", desc := "(II)Z" } : Jvm.MethodName)) ∈ zT := zT_in (i := 716) (by decide +kernel) (by decide +kernel)
theorem zw_717 : (Jvm.Cond.instanceMethod ({ cls := "DutyLedgerModel", name := "cost", desc := "(II)Z" } : Jvm.MethodName)) ∈ zT := zT_in (i := 717) (by decide +kernel) (by decide +kernel)
theorem zw_718 : (Jvm.Cond.selects "DutyLedgerModel" ({ cls := "DutyLedgerModel", name := "cost", desc := "(II)Z" } : Jvm.MethodName) ({ cls := "DutyLedgerModel", name := "cost", desc := "(II)Z" } : Jvm.MethodName)) ∈ zT := zT_in (i := 718) (by decide +kernel) (by decide +kernel)
theorem zw_719 : (Jvm.Cond.code ({ cls := "DutyLedgerModel", name := "cost", desc := "(II)Z" } : Jvm.MethodName) prog_6_method_24_code (3 : Nat) (Option.some Jvm.ClassFile.FieldType.boolean)) ∈ zT := zT_in (i := 719) (by decide +kernel) (by decide +kernel)
theorem zw_720 : (Jvm.Cond.methodLink "DutyLedgerLaw" (112 : Nat) ({ cls := "DutyLedgerModel", name := "passed", desc := "(III)J" } : Jvm.MethodName)) ∈ zT := zT_in (i := 720) (by decide +kernel) (by decide +kernel)
theorem zw_721 : (Jvm.Cond.instanceMethod ({ cls := "DutyLedgerModel", name := "passed", desc := "(III)J" } : Jvm.MethodName)) ∈ zT := zT_in (i := 721) (by decide +kernel) (by decide +kernel)
theorem zw_722 : (Jvm.Cond.selects "DutyLedgerModel" ({ cls := "DutyLedgerModel", name := "passed", desc := "(III)J" } : Jvm.MethodName) ({ cls := "DutyLedgerModel", name := "passed", desc := "(III)J" } : Jvm.MethodName)) ∈ zT := zT_in (i := 722) (by decide +kernel) (by decide +kernel)
theorem zw_723 : (Jvm.Cond.code ({ cls := "DutyLedgerModel", name := "passed", desc := "(III)J" } : Jvm.MethodName) prog_6_method_28_code (11 : Nat) (Option.some Jvm.ClassFile.FieldType.long)) ∈ zT := zT_in (i := 723) (by decide +kernel) (by decide +kernel)
theorem zw_724 : (Jvm.Cond.constantLong "DutyLedgerModel" (137 : Nat) (6 : Int64)) ∈ zT := zT_in (i := 724) (by decide +kernel) (by decide +kernel)
theorem zw_725 : (Jvm.Cond.methodLink "DutyLedgerModel" (139 : Nat) ({ cls := "DutyLedgerModel", name := "sumOf", desc := "(II)J" } : Jvm.MethodName)) ∈ zT := zT_in (i := 725) (by decide +kernel) (by decide +kernel)
theorem zw_727 : (Jvm.Cond.instanceMethod ({ cls := "DutyLedgerModel", name := "sumOf", desc := "(II)J" } : Jvm.MethodName)) ∈ zT := zT_in (i := 727) (by decide +kernel) (by decide +kernel)
theorem zw_728 : (Jvm.Cond.code ({ cls := "DutyLedgerModel", name := "sumOf", desc := "(II)J" } : Jvm.MethodName) prog_6_method_26_code (6 : Nat) (Option.some Jvm.ClassFile.FieldType.long)) ∈ zT := zT_in (i := 728) (by decide +kernel) (by decide +kernel)
theorem zw_729 : (Jvm.Cond.constant "DutyLedgerModel" (133 : Nat) (100000 : Int32)) ∈ zT := zT_in (i := 729) (by decide +kernel) (by decide +kernel)
theorem zw_730 : (Jvm.Cond.methodLink "DutyLedgerModel" (142 : Nat) ({ cls := "DutyLedgerModel", name := "share", desc := "(IIJ)J" } : Jvm.MethodName)) ∈ zT := zT_in (i := 730) (by decide +kernel) (by decide +kernel)
theorem zw_732 : (Jvm.Cond.instanceMethod ({ cls := "DutyLedgerModel", name := "share", desc := "(IIJ)J" } : Jvm.MethodName)) ∈ zT := zT_in (i := 732) (by decide +kernel) (by decide +kernel)
theorem zw_733 : (Jvm.Cond.code ({ cls := "DutyLedgerModel", name := "share", desc := "(IIJ)J" } : Jvm.MethodName) prog_6_method_27_code (14 : Nat) (Option.some Jvm.ClassFile.FieldType.long)) ∈ zT := zT_in (i := 733) (by decide +kernel) (by decide +kernel)
theorem zw_734 : (Jvm.Cond.methodLink "DutyLedgerModel" (134 : Nat) ({ cls := "DutyLedgerModel", name := "partsOf", desc := "(I)I" } : Jvm.MethodName)) ∈ zT := zT_in (i := 734) (by decide +kernel) (by decide +kernel)
theorem zw_736 : (Jvm.Cond.instanceMethod ({ cls := "DutyLedgerModel", name := "partsOf", desc := "(I)I" } : Jvm.MethodName)) ∈ zT := zT_in (i := 736) (by decide +kernel) (by decide +kernel)
theorem zw_737 : (Jvm.Cond.code ({ cls := "DutyLedgerModel", name := "partsOf", desc := "(I)I" } : Jvm.MethodName) prog_6_method_25_code (2 : Nat) (Option.some Jvm.ClassFile.FieldType.int)) ∈ zT := zT_in (i := 737) (by decide +kernel) (by decide +kernel)
theorem zw_738 : (Jvm.Cond.methodLink "DutyLedgerLaw" (116 : Nat) ({ cls := "DutyLedgerModel", name := "reconcile", desc := "(IIII)J" } : Jvm.MethodName)) ∈ zT := zT_in (i := 738) (by decide +kernel) (by decide +kernel)
theorem zw_739 : (Jvm.Cond.instanceMethod ({ cls := "DutyLedgerModel", name := "reconcile", desc := "(IIII)J" } : Jvm.MethodName)) ∈ zT := zT_in (i := 739) (by decide +kernel) (by decide +kernel)
theorem zw_740 : (Jvm.Cond.selects "DutyLedgerModel" ({ cls := "DutyLedgerModel", name := "reconcile", desc := "(IIII)J" } : Jvm.MethodName) ({ cls := "DutyLedgerModel", name := "reconcile", desc := "(IIII)J" } : Jvm.MethodName)) ∈ zT := zT_in (i := 740) (by decide +kernel) (by decide +kernel)
theorem zw_741 : (Jvm.Cond.code ({ cls := "DutyLedgerModel", name := "reconcile", desc := "(IIII)J" } : Jvm.MethodName) prog_6_method_29_code (5 : Nat) (Option.some Jvm.ClassFile.FieldType.long)) ∈ zT := zT_in (i := 741) (by decide +kernel) (by decide +kernel)
theorem zw_742 : (Jvm.Cond.methodLink "DutyLedgerLaw" (119 : Nat) ({ cls := "DutyLedgerModel", name := "read", desc := "(II)J" } : Jvm.MethodName)) ∈ zT := zT_in (i := 742) (by decide +kernel) (by decide +kernel)
theorem zw_743 : (Jvm.Cond.instanceMethod ({ cls := "DutyLedgerModel", name := "read", desc := "(II)J" } : Jvm.MethodName)) ∈ zT := zT_in (i := 743) (by decide +kernel) (by decide +kernel)
theorem zw_744 : (Jvm.Cond.selects "DutyLedgerModel" ({ cls := "DutyLedgerModel", name := "read", desc := "(II)J" } : Jvm.MethodName) ({ cls := "DutyLedgerModel", name := "read", desc := "(II)J" } : Jvm.MethodName)) ∈ zT := zT_in (i := 744) (by decide +kernel) (by decide +kernel)
theorem zw_745 : (Jvm.Cond.code ({ cls := "DutyLedgerModel", name := "read", desc := "(II)J" } : Jvm.MethodName) prog_6_method_30_code (4 : Nat) (Option.some Jvm.ClassFile.FieldType.long)) ∈ zT := zT_in (i := 745) (by decide +kernel) (by decide +kernel)
theorem zw_746 : (Jvm.Cond.methodLink "DutyLedgerLaw" (122 : Nat) ({ cls := "DutyLedgerModel", name := "look", desc := "(II)I" } : Jvm.MethodName)) ∈ zT := zT_in (i := 746) (by decide +kernel) (by decide +kernel)
theorem zw_747 : (Jvm.Cond.instanceMethod ({ cls := "DutyLedgerModel", name := "look", desc := "(II)I" } : Jvm.MethodName)) ∈ zT := zT_in (i := 747) (by decide +kernel) (by decide +kernel)
theorem zw_748 : (Jvm.Cond.selects "DutyLedgerModel" ({ cls := "DutyLedgerModel", name := "look", desc := "(II)I" } : Jvm.MethodName) ({ cls := "DutyLedgerModel", name := "look", desc := "(II)I" } : Jvm.MethodName)) ∈ zT := zT_in (i := 748) (by decide +kernel) (by decide +kernel)
theorem zw_749 : (Jvm.Cond.code ({ cls := "DutyLedgerModel", name := "look", desc := "(II)I" } : Jvm.MethodName) prog_6_method_31_code (3 : Nat) (Option.some Jvm.ClassFile.FieldType.int)) ∈ zT := zT_in (i := 749) (by decide +kernel) (by decide +kernel)
theorem zw_750 : (Jvm.Cond.methodLink "DutyLedgerLaw" (126 : Nat) ({ cls := "DutyLedgerModel", name := "count", desc := "(I)I" } : Jvm.MethodName)) ∈ zT := zT_in (i := 750) (by decide +kernel) (by decide +kernel)
theorem zw_751 : (Jvm.Cond.instanceMethod ({ cls := "DutyLedgerModel", name := "count", desc := "(I)I" } : Jvm.MethodName)) ∈ zT := zT_in (i := 751) (by decide +kernel) (by decide +kernel)
theorem zw_752 : (Jvm.Cond.selects "DutyLedgerModel" ({ cls := "DutyLedgerModel", name := "count", desc := "(I)I" } : Jvm.MethodName) ({ cls := "DutyLedgerModel", name := "count", desc := "(I)I" } : Jvm.MethodName)) ∈ zT := zT_in (i := 752) (by decide +kernel) (by decide +kernel)
theorem zw_753 : (Jvm.Cond.code ({ cls := "DutyLedgerModel", name := "count", desc := "(I)I" } : Jvm.MethodName) prog_6_method_32_code (2 : Nat) (Option.some Jvm.ClassFile.FieldType.int)) ∈ zT := zT_in (i := 753) (by decide +kernel) (by decide +kernel)
theorem zw_754 : (Jvm.Cond.constantLong "DutyLedgerLaw" (70 : Nat) (4294967295 : Int64)) ∈ zT := zT_in (i := 754) (by decide +kernel) (by decide +kernel)
theorem nmBa : ∀ a, a < 9 → ∀ b, b < 9 → a ≠ b → (TBa a).2.1 ≠ (TBa b).2.1 := by decide +kernel
theorem tkBa : ∀ k, k < 9 → parseFieldDescriptor (TBa k).2.2.1 = some (tyBa k) := by decide +kernel
theorem inBa : ∀ w ∈ u_ws RBa TBa 9, w ∈ zT := List.forall_mem_cons.mpr ⟨zw_328, List.forall_mem_cons.mpr ⟨zw_330, List.forall_mem_cons.mpr ⟨zw_332, List.forall_mem_cons.mpr ⟨zw_334, List.forall_mem_cons.mpr ⟨zw_336, List.forall_mem_cons.mpr ⟨zw_338, List.forall_mem_cons.mpr ⟨zw_340, List.forall_mem_cons.mpr ⟨zw_342, List.forall_mem_cons.mpr ⟨zw_344, fun _ h => absurd h List.not_mem_nil⟩⟩⟩⟩⟩⟩⟩⟩⟩
theorem nmBk : ∀ a, a < 7 → ∀ b, b < 7 → a ≠ b → (TBk a).2.1 ≠ (TBk b).2.1 := by decide +kernel
theorem tkBk : ∀ k, k < 7 → parseFieldDescriptor (TBk k).2.2.1 = some (tyBk k) := by decide +kernel
theorem inBk : ∀ w ∈ u_ws RBk TBk 7, w ∈ zT := List.forall_mem_cons.mpr ⟨zw_71, List.forall_mem_cons.mpr ⟨zw_73, List.forall_mem_cons.mpr ⟨zw_75, List.forall_mem_cons.mpr ⟨zw_77, List.forall_mem_cons.mpr ⟨zw_79, List.forall_mem_cons.mpr ⟨zw_81, List.forall_mem_cons.mpr ⟨zw_83, fun _ h => absurd h List.not_mem_nil⟩⟩⟩⟩⟩⟩⟩
theorem nmSh : ∀ a, a < 2 → ∀ b, b < 2 → a ≠ b → (TSh a).2.1 ≠ (TSh b).2.1 := by decide +kernel
theorem tkSh : ∀ k, k < 2 → parseFieldDescriptor (TSh k).2.2.1 = some (tySh k) := by decide +kernel
theorem inSh : ∀ w ∈ u_ws RSh TSh 2, w ∈ zT := List.forall_mem_cons.mpr ⟨zw_96, List.forall_mem_cons.mpr ⟨zw_98, fun _ h => absurd h List.not_mem_nil⟩⟩
theorem nmDu : ∀ a, a < 11 → ∀ b, b < 11 → a ≠ b → (TDu a).2.1 ≠ (TDu b).2.1 := by decide +kernel
theorem tkDu : ∀ k, k < 11 → parseFieldDescriptor (TDu k).2.2.1 = some (tyDu k) := by decide +kernel
theorem inDu : ∀ w ∈ u_ws RDu TDu 11, w ∈ zT := List.forall_mem_cons.mpr ⟨zw_112, List.forall_mem_cons.mpr ⟨zw_114, List.forall_mem_cons.mpr ⟨zw_116, List.forall_mem_cons.mpr ⟨zw_118, List.forall_mem_cons.mpr ⟨zw_120, List.forall_mem_cons.mpr ⟨zw_122, List.forall_mem_cons.mpr ⟨zw_124, List.forall_mem_cons.mpr ⟨zw_126, List.forall_mem_cons.mpr ⟨zw_128, List.forall_mem_cons.mpr ⟨zw_130, List.forall_mem_cons.mpr ⟨zw_132, fun _ h => absurd h List.not_mem_nil⟩⟩⟩⟩⟩⟩⟩⟩⟩⟩⟩
theorem nmMo : ∀ a, a < 22 → ∀ b, b < 22 → a ≠ b → (TMo a).2.1 ≠ (TMo b).2.1 := by decide +kernel
theorem tkMo : ∀ k, k < 22 → parseFieldDescriptor (TMo k).2.2.1 = some (tyMo k) := by decide +kernel
theorem inMo : ∀ w ∈ u_ws RMo TMo 22, w ∈ zT := List.forall_mem_cons.mpr ⟨zw_578, List.forall_mem_cons.mpr ⟨zw_580, List.forall_mem_cons.mpr ⟨zw_582, List.forall_mem_cons.mpr ⟨zw_584, List.forall_mem_cons.mpr ⟨zw_586, List.forall_mem_cons.mpr ⟨zw_588, List.forall_mem_cons.mpr ⟨zw_590, List.forall_mem_cons.mpr ⟨zw_592, List.forall_mem_cons.mpr ⟨zw_594, List.forall_mem_cons.mpr ⟨zw_596, List.forall_mem_cons.mpr ⟨zw_598, List.forall_mem_cons.mpr ⟨zw_600, List.forall_mem_cons.mpr ⟨zw_602, List.forall_mem_cons.mpr ⟨zw_604, List.forall_mem_cons.mpr ⟨zw_606, List.forall_mem_cons.mpr ⟨zw_608, List.forall_mem_cons.mpr ⟨zw_610, List.forall_mem_cons.mpr ⟨zw_612, List.forall_mem_cons.mpr ⟨zw_614, List.forall_mem_cons.mpr ⟨zw_616, List.forall_mem_cons.mpr ⟨zw_618, List.forall_mem_cons.mpr ⟨zw_620, fun _ h => absurd h List.not_mem_nil⟩⟩⟩⟩⟩⟩⟩⟩⟩⟩⟩⟩⟩⟩⟩⟩⟩⟩⟩⟩⟩⟩
