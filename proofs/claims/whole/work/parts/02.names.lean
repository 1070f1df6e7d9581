def R_FB : String := "FundBook"
def F_FB : u_T := fun k => match k with
  | 0 => ("FundBook", "accounts", "[LFundBook$Account;", true)
  | 1 => ("FundBook", "purchases", "[LFundBook$Purchase;", true)
  | 2 => ("FundBook", "moves", "[LFundBook$Move;", true)
  | 3 => ("FundBook", "latestRates", "[LFundBook$Rate;", true)
  | 4 => ("FundBook", "batch", "LFundBook$Batch;", true)
  | 5 => ("FundBook", "accountCount", "I", false)
  | 6 => ("FundBook", "purchaseCount", "I", false)
  | 7 => ("FundBook", "moveCount", "I", false)
  | 8 => ("FundBook", "currentYear", "I", false)
  | 9 => ("FundBook", "tolerance", "I", false)
  | _ => ("FundBook", "failingFund", "I", false)
def t_FB : Nat → FieldType := fun k => match k with
  | 0 => (.array (.object "FundBook$Account"))
  | 1 => (.array (.object "FundBook$Purchase"))
  | 2 => (.array (.object "FundBook$Move"))
  | 3 => (.array (.object "FundBook$Rate"))
  | 4 => (.object "FundBook$Batch")
  | 5 => .int
  | 6 => .int
  | 7 => .int
  | 8 => .int
  | 9 => .int
  | _ => .int
theorem n_FB : ∀ a, a < 11 → ∀ b, b < 11 → a ≠ b → (F_FB a).2.1 ≠ (F_FB b).2.1 := by decide +kernel
theorem t_FB_ok : ∀ k, k < 11 → parseFieldDescriptor (F_FB k).2.2.1 = some (t_FB k) := by decide +kernel
def R_Ac : String := "FundBook$Account"
def F_Ac : u_T := fun k => match k with
  | 0 => ("FundBook$Account", "number", "I", true)
  | 1 => ("FundBook$Account", "carry", "I", true)
  | 2 => ("FundBook$Account", "given", "J", false)
  | 3 => ("FundBook$Account", "encumbered", "J", false)
  | 4 => ("FundBook$Account", "spent", "J", false)
  | _ => ("FundBook$Account", "pending", "J", false)
def t_Ac : Nat → FieldType := fun k => match k with
  | 0 => .int
  | 1 => .int
  | 2 => .long
  | 3 => .long
  | 4 => .long
  | _ => .long
theorem n_Ac : ∀ a, a < 6 → ∀ b, b < 6 → a ≠ b → (F_Ac a).2.1 ≠ (F_Ac b).2.1 := by decide +kernel
theorem t_Ac_ok : ∀ k, k < 6 → parseFieldDescriptor (F_Ac k).2.2.1 = some (t_Ac k) := by decide +kernel
def R_Pu : String := "FundBook$Purchase"
def F_Pu : u_T := fun k => match k with
  | 0 => ("FundBook$Purchase", "account", "LFundBook$Account;", true)
  | 1 => ("FundBook$Purchase", "cents", "I", true)
  | 2 => ("FundBook$Purchase", "standing", "Z", true)
  | 3 => ("FundBook$Purchase", "approvals", "LFundBook$Approvals;", true)
  | 4 => ("FundBook$Purchase", "state", "I", false)
  | 5 => ("FundBook$Purchase", "invoiceCount", "I", false)
  | 6 => ("FundBook$Purchase", "latestMonth", "I", false)
  | _ => ("FundBook$Purchase", "latestExcess", "J", false)
def t_Pu : Nat → FieldType := fun k => match k with
  | 0 => (.object "FundBook$Account")
  | 1 => .int
  | 2 => .boolean
  | 3 => (.object "FundBook$Approvals")
  | 4 => .int
  | 5 => .int
  | 6 => .int
  | _ => .long
theorem n_Pu : ∀ a, a < 8 → ∀ b, b < 8 → a ≠ b → (F_Pu a).2.1 ≠ (F_Pu b).2.1 := by decide +kernel
theorem t_Pu_ok : ∀ k, k < 8 → parseFieldDescriptor (F_Pu k).2.2.1 = some (t_Pu k) := by decide +kernel
def R_Mv : String := "FundBook$Move"
def F_Mv : u_T := fun k => match k with
  | 0 => ("FundBook$Move", "source", "LFundBook$Account;", true)
  | 1 => ("FundBook$Move", "target", "LFundBook$Account;", true)
  | 2 => ("FundBook$Move", "cents", "I", true)
  | 3 => ("FundBook$Move", "approvals", "LFundBook$Approvals;", true)
  | _ => ("FundBook$Move", "happened", "Z", false)
def t_Mv : Nat → FieldType := fun k => match k with
  | 0 => (.object "FundBook$Account")
  | 1 => (.object "FundBook$Account")
  | 2 => .int
  | 3 => (.object "FundBook$Approvals")
  | _ => .boolean
theorem n_Mv : ∀ a, a < 5 → ∀ b, b < 5 → a ≠ b → (F_Mv a).2.1 ≠ (F_Mv b).2.1 := by decide +kernel
theorem t_Mv_ok : ∀ k, k < 5 → parseFieldDescriptor (F_Mv k).2.2.1 = some (t_Mv k) := by decide +kernel
def R_Ap : String := "FundBook$Approvals"
def F_Ap : u_T := fun k => match k with
  | 0 => ("FundBook$Approvals", "lowPersons", "J", false)
  | 1 => ("FundBook$Approvals", "highPersons", "J", false)
  | _ => ("FundBook$Approvals", "count", "I", false)
def t_Ap : Nat → FieldType := fun k => match k with
  | 0 => .long
  | 1 => .long
  | _ => .int
theorem n_Ap : ∀ a, a < 3 → ∀ b, b < 3 → a ≠ b → (F_Ap a).2.1 ≠ (F_Ap b).2.1 := by decide +kernel
theorem t_Ap_ok : ∀ k, k < 3 → parseFieldDescriptor (F_Ap k).2.2.1 = some (t_Ap k) := by decide +kernel
def R_Ra : String := "FundBook$Rate"
def F_Ra : u_T := fun k => match k with
  | 0 => ("FundBook$Rate", "day", "I", true)
  | 1 => ("FundBook$Rate", "up", "I", true)
  | 2 => ("FundBook$Rate", "down", "I", true)
  | 3 => ("FundBook$Rate", "earlier", "LFundBook$Rate;", true)
  | _ => ("FundBook$Rate", "rank", "I", true)
def t_Ra : Nat → FieldType := fun k => match k with
  | 0 => .int
  | 1 => .int
  | 2 => .int
  | 3 => (.object "FundBook$Rate")
  | _ => .int
theorem n_Ra : ∀ a, a < 5 → ∀ b, b < 5 → a ≠ b → (F_Ra a).2.1 ≠ (F_Ra b).2.1 := by decide +kernel
theorem t_Ra_ok : ∀ k, k < 5 → parseFieldDescriptor (F_Ra k).2.2.1 = some (t_Ra k) := by decide +kernel
def R_Ba : String := "FundBook$Batch"
def F_Ba : u_T := fun k => match k with
  | 0 => ("FundBook$Batch", "rows", "[LFundBook$Account;", true)
  | 1 => ("FundBook$Batch", "count", "I", false)
  | _ => ("FundBook$Batch", "total", "J", false)
def t_Ba : Nat → FieldType := fun k => match k with
  | 0 => (.array (.object "FundBook$Account"))
  | 1 => .int
  | _ => .long
theorem n_Ba : ∀ a, a < 3 → ∀ b, b < 3 → a ≠ b → (F_Ba a).2.1 ≠ (F_Ba b).2.1 := by decide +kernel
theorem t_Ba_ok : ∀ k, k < 3 → parseFieldDescriptor (F_Ba k).2.2.1 = some (t_Ba k) := by decide +kernel
def R_Mo : String := "FundBookModel"
def F_Mo : u_T := fun k => match k with
  | 0 => ("FundBookModel", "thrown", "I", false)
  | 1 => ("FundBookModel", "year", "I", false)
  | 2 => ("FundBookModel", "funds", "I", false)
  | 3 => ("FundBookModel", "carry", "[I", true)
  | 4 => ("FundBookModel", "given", "[J", true)
  | 5 => ("FundBookModel", "spent", "[J", true)
  | 6 => ("FundBookModel", "orders", "I", false)
  | 7 => ("FundBookModel", "fund", "[I", true)
  | 8 => ("FundBookModel", "cents", "[I", true)
  | 9 => ("FundBookModel", "standing", "[Z", true)
  | 10 => ("FundBookModel", "state", "[I", true)
  | 11 => ("FundBookModel", "firstBy", "[I", true)
  | 12 => ("FundBookModel", "approved", "[I", true)
  | 13 => ("FundBookModel", "difference", "[J", true)
  | 14 => ("FundBookModel", "invoices", "[I", true)
  | 15 => ("FundBookModel", "month", "[I", true)
  | 16 => ("FundBookModel", "transfers", "I", false)
  | 17 => ("FundBookModel", "from", "[I", true)
  | 18 => ("FundBookModel", "to", "[I", true)
  | 19 => ("FundBookModel", "sum", "[I", true)
  | 20 => ("FundBookModel", "happened", "[Z", true)
  | 21 => ("FundBookModel", "agreed", "[Z", true)
  | 22 => ("FundBookModel", "band", "I", false)
  | 23 => ("FundBookModel", "rows", "[I", true)
  | 24 => ("FundBookModel", "day", "[I", true)
  | 25 => ("FundBookModel", "up", "[I", true)
  | 26 => ("FundBookModel", "down", "[I", true)
  | 27 => ("FundBookModel", "batch", "I", false)
  | 28 => ("FundBookModel", "batchFund", "[I", true)
  | 29 => ("FundBookModel", "batchCents", "[I", true)
  | _ => ("FundBookModel", "failing", "I", false)
def t_Mo : Nat → FieldType := fun k => match k with
  | 0 => .int
  | 1 => .int
  | 2 => .int
  | 3 => (.array .int)
  | 4 => (.array .long)
  | 5 => (.array .long)
  | 6 => .int
  | 7 => (.array .int)
  | 8 => (.array .int)
  | 9 => (.array .boolean)
  | 10 => (.array .int)
  | 11 => (.array .int)
  | 12 => (.array .int)
  | 13 => (.array .long)
  | 14 => (.array .int)
  | 15 => (.array .int)
  | 16 => .int
  | 17 => (.array .int)
  | 18 => (.array .int)
  | 19 => (.array .int)
  | 20 => (.array .boolean)
  | 21 => (.array .boolean)
  | 22 => .int
  | 23 => (.array .int)
  | 24 => (.array .int)
  | 25 => (.array .int)
  | 26 => (.array .int)
  | 27 => .int
  | 28 => (.array .int)
  | 29 => (.array .int)
  | _ => .int
theorem n_Mo : ∀ a, a < 31 → ∀ b, b < 31 → a ≠ b → (F_Mo a).2.1 ≠ (F_Mo b).2.1 := by decide +kernel
theorem t_Mo_ok : ∀ k, k < 31 → parseFieldDescriptor (F_Mo k).2.2.1 = some (t_Mo k) := by decide +kernel
def R_Law : String := "FundBookLaw"
abbrev classes : List vw_C := [(R_FB, F_FB, 11), (R_Ac, F_Ac, 6), (R_Pu, F_Pu, 8), (R_Mv, F_Mv, 5), (R_Ap, F_Ap, 3), (R_Ra, F_Ra, 5), (R_Ba, F_Ba, 3), (R_Mo, F_Mo, 31)]
abbrev b_FB_init : ByteArray := prog_1_method_1_code
def y_FB_init : MethodName := ⟨R_FB, "<init>", "(I)V"⟩
abbrev b_FB_fund : ByteArray := prog_1_method_2_code
def y_FB_fund : MethodName := ⟨R_FB, "fund", "(I)I"⟩
abbrev b_FB_give : ByteArray := prog_1_method_3_code
def y_FB_give : MethodName := ⟨R_FB, "give", "(IJ)I"⟩
abbrev b_FB_order : ByteArray := prog_1_method_4_code
def y_FB_order : MethodName := ⟨R_FB, "order", "(IIZ)I"⟩
abbrev b_FB_approve : ByteArray := prog_1_method_5_code
def y_FB_approve : MethodName := ⟨R_FB, "approve", "(II)I"⟩
abbrev b_FB_invoice : ByteArray := prog_1_method_6_code
def y_FB_invoice : MethodName := ⟨R_FB, "invoice", "(IIII)J"⟩
abbrev b_FB_cancel : ByteArray := prog_1_method_7_code
def y_FB_cancel : MethodName := ⟨R_FB, "cancel", "(I)I"⟩
abbrev b_FB_band : ByteArray := prog_1_method_8_code
def y_FB_band : MethodName := ⟨R_FB, "band", "(I)I"⟩
abbrev b_FB_currency : ByteArray := prog_1_method_9_code
def y_FB_currency : MethodName := ⟨R_FB, "currency", "(IIII)I"⟩
abbrev b_FB_transfer : ByteArray := prog_1_method_10_code
def y_FB_transfer : MethodName := ⟨R_FB, "transfer", "(III)I"⟩
abbrev b_FB_agree : ByteArray := prog_1_method_11_code
def y_FB_agree : MethodName := ⟨R_FB, "agree", "(II)I"⟩
abbrev b_FB_row : ByteArray := prog_1_method_12_code
def y_FB_row : MethodName := ⟨R_FB, "row", "(II)I"⟩
abbrev b_FB_post : ByteArray := prog_1_method_13_code
def y_FB_post : MethodName := ⟨R_FB, "post", "()I"⟩
abbrev b_FB_failing : ByteArray := prog_1_method_14_code
def y_FB_failing : MethodName := ⟨R_FB, "failing", "()I"⟩
abbrev b_FB_close : ByteArray := prog_1_method_15_code
def y_FB_close : MethodName := ⟨R_FB, "close", "()I"⟩
abbrev b_FB_about : ByteArray := prog_1_method_16_code
def y_FB_about : MethodName := ⟨R_FB, "about", "(II)J"⟩
abbrev b_FB_told : ByteArray := prog_1_method_17_code
def y_FB_told : MethodName := ⟨R_FB, "told", "(II)J"⟩
abbrev b_FB_sum : ByteArray := prog_1_method_18_code
def y_FB_sum : MethodName := ⟨R_FB, "sum", "(I)J"⟩
abbrev b_FB_givenToAll : ByteArray := prog_1_method_19_code
def y_FB_givenToAll : MethodName := ⟨R_FB, "givenToAll", "()J"⟩
abbrev b_FB_accountAt : ByteArray := prog_1_method_20_code
def y_FB_accountAt : MethodName := ⟨R_FB, "accountAt", "(I)LFundBook$Account;"⟩
abbrev b_FB_purchaseAt : ByteArray := prog_1_method_21_code
def y_FB_purchaseAt : MethodName := ⟨R_FB, "purchaseAt", "(I)LFundBook$Purchase;"⟩
abbrev b_FB_moveAt : ByteArray := prog_1_method_22_code
def y_FB_moveAt : MethodName := ⟨R_FB, "moveAt", "(I)LFundBook$Move;"⟩
abbrev b_FB_isCurrency : ByteArray := prog_1_method_23_code
def y_FB_isCurrency : MethodName := ⟨R_FB, "isCurrency", "(I)Z"⟩
abbrev b_FB_rateOn : ByteArray := prog_1_method_24_code
def y_FB_rateOn : MethodName := ⟨R_FB, "rateOn", "(II)LFundBook$Rate;"⟩
abbrev b_FB_isWithin : ByteArray := prog_1_method_25_code
def y_FB_isWithin : MethodName := ⟨R_FB, "isWithin", "(JJJ)Z"⟩
abbrev b_FB_isAmount : ByteArray := prog_1_method_26_code
def y_FB_isAmount : MethodName := ⟨R_FB, "isAmount", "(J)Z"⟩
abbrev b_Mo_init : ByteArray := prog_9_method_1_code
def y_Mo_init : MethodName := ⟨R_Mo, "<init>", "(I)V"⟩
abbrev b_Mo_thrown : ByteArray := prog_9_method_2_code
def y_Mo_thrown : MethodName := ⟨R_Mo, "thrown", "()I"⟩
abbrev b_Mo_in : ByteArray := prog_9_method_3_code
def y_Mo_in : MethodName := ⟨R_Mo, "in", "(JJJ)Z"⟩
abbrev b_Mo_isFund : ByteArray := prog_9_method_4_code
def y_Mo_isFund : MethodName := ⟨R_Mo, "isFund", "(I)Z"⟩
abbrev b_Mo_encumbered : ByteArray := prog_9_method_5_code
def y_Mo_encumbered : MethodName := ⟨R_Mo, "encumbered", "(I)J"⟩
abbrev b_Mo_free : ByteArray := prog_9_method_6_code
def y_Mo_free : MethodName := ⟨R_Mo, "free", "(I)J"⟩
abbrev b_Mo_isBound : ByteArray := prog_9_method_7_code
def y_Mo_isBound : MethodName := ⟨R_Mo, "isBound", "(J)Z"⟩
abbrev b_Mo_fits : ByteArray := prog_9_method_8_code
def y_Mo_fits : MethodName := ⟨R_Mo, "fits", "(IJJJ)Z"⟩
abbrev b_Mo_fund : ByteArray := prog_9_method_9_code
def y_Mo_fund : MethodName := ⟨R_Mo, "fund", "(I)I"⟩
abbrev b_Mo_give : ByteArray := prog_9_method_10_code
def y_Mo_give : MethodName := ⟨R_Mo, "give", "(IJ)I"⟩
abbrev b_Mo_order : ByteArray := prog_9_method_11_code
def y_Mo_order : MethodName := ⟨R_Mo, "order", "(IIZ)I"⟩
abbrev b_Mo_approve : ByteArray := prog_9_method_12_code
def y_Mo_approve : MethodName := ⟨R_Mo, "approve", "(II)I"⟩
abbrev b_Mo_rowOn : ByteArray := prog_9_method_13_code
def y_Mo_rowOn : MethodName := ⟨R_Mo, "rowOn", "(II)I"⟩
abbrev b_Mo_invoice : ByteArray := prog_9_method_14_code
def y_Mo_invoice : MethodName := ⟨R_Mo, "invoice", "(IIII)J"⟩
abbrev b_Mo_cancel : ByteArray := prog_9_method_15_code
def y_Mo_cancel : MethodName := ⟨R_Mo, "cancel", "(I)I"⟩
abbrev b_Mo_band : ByteArray := prog_9_method_16_code
def y_Mo_band : MethodName := ⟨R_Mo, "band", "(I)I"⟩
abbrev b_Mo_currency : ByteArray := prog_9_method_17_code
def y_Mo_currency : MethodName := ⟨R_Mo, "currency", "(IIII)I"⟩
abbrev b_Mo_transfer : ByteArray := prog_9_method_18_code
def y_Mo_transfer : MethodName := ⟨R_Mo, "transfer", "(III)I"⟩
abbrev b_Mo_agree : ByteArray := prog_9_method_19_code
def y_Mo_agree : MethodName := ⟨R_Mo, "agree", "(II)I"⟩
abbrev b_Mo_row : ByteArray := prog_9_method_20_code
def y_Mo_row : MethodName := ⟨R_Mo, "row", "(II)I"⟩
abbrev b_Mo_batched : ByteArray := prog_9_method_21_code
def y_Mo_batched : MethodName := ⟨R_Mo, "batched", "(I)J"⟩
abbrev b_Mo_post : ByteArray := prog_9_method_22_code
def y_Mo_post : MethodName := ⟨R_Mo, "post", "()I"⟩
abbrev b_Mo_failing : ByteArray := prog_9_method_23_code
def y_Mo_failing : MethodName := ⟨R_Mo, "failing", "()I"⟩
abbrev b_Mo_close : ByteArray := prog_9_method_24_code
def y_Mo_close : MethodName := ⟨R_Mo, "close", "()I"⟩
abbrev b_Mo_about : ByteArray := prog_9_method_25_code
def y_Mo_about : MethodName := ⟨R_Mo, "about", "(II)J"⟩
abbrev b_Mo_told : ByteArray := prog_9_method_26_code
def y_Mo_told : MethodName := ⟨R_Mo, "told", "(II)J"⟩
abbrev b_Mo_sum : ByteArray := prog_9_method_27_code
def y_Mo_sum : MethodName := ⟨R_Mo, "sum", "(I)J"⟩
abbrev b_Ac_init : ByteArray := prog_2_method_1_code
def y_Ac_init : MethodName := ⟨R_Ac, "<init>", "(II)V"⟩
abbrev b_Ac_free : ByteArray := prog_2_method_2_code
def y_Ac_free : MethodName := ⟨R_Ac, "free", "()J"⟩
abbrev b_Ac_hasRoomFor : ByteArray := prog_2_method_3_code
def y_Ac_hasRoomFor : MethodName := ⟨R_Ac, "hasRoomFor", "(JJJ)Z"⟩
abbrev b_Ac_carried : ByteArray := prog_2_method_4_code
def y_Ac_carried : MethodName := ⟨R_Ac, "carried", "()J"⟩
abbrev b_Ac_beginYear : ByteArray := prog_2_method_5_code
def y_Ac_beginYear : MethodName := ⟨R_Ac, "beginYear", "()V"⟩
abbrev b_Ap_init : ByteArray := prog_3_method_1_code
def y_Ap_init : MethodName := ⟨R_Ap, "<init>", "()V"⟩
abbrev b_Ap_include : ByteArray := prog_3_method_2_code
def y_Ap_include : MethodName := ⟨R_Ap, "include", "(I)Z"⟩
abbrev b_Ap_add : ByteArray := prog_3_method_3_code
def y_Ap_add : MethodName := ⟨R_Ap, "add", "(I)V"⟩
abbrev b_Ap_bitOf : ByteArray := prog_3_method_4_code
def y_Ap_bitOf : MethodName := ⟨R_Ap, "bitOf", "(I)J"⟩
abbrev b_Ba_init : ByteArray := prog_4_method_1_code
def y_Ba_init : MethodName := ⟨R_Ba, "<init>", "()V"⟩
abbrev b_Ba_isFull : ByteArray := prog_4_method_2_code
def y_Ba_isFull : MethodName := ⟨R_Ba, "isFull", "()Z"⟩
abbrev b_Ba_add : ByteArray := prog_4_method_3_code
def y_Ba_add : MethodName := ⟨R_Ba, "add", "(LFundBook$Account;I)V"⟩
abbrev b_Ba_culprit : ByteArray := prog_4_method_4_code
def y_Ba_culprit : MethodName := ⟨R_Ba, "culprit", "()LFundBook$Account;"⟩
abbrev b_Ba_empty : ByteArray := prog_4_method_5_code
def y_Ba_empty : MethodName := ⟨R_Ba, "empty", "(Z)V"⟩
abbrev b_Mv_init : ByteArray := prog_5_method_1_code
def y_Mv_init : MethodName := ⟨R_Mv, "<init>", "(LFundBook$Account;LFundBook$Account;I)V"⟩
abbrev b_Mv_happensWithOneMore : ByteArray := prog_5_method_2_code
def y_Mv_happensWithOneMore : MethodName := ⟨R_Mv, "happensWithOneMore", "()Z"⟩
abbrev b_Mv_hasRoom : ByteArray := prog_5_method_3_code
def y_Mv_hasRoom : MethodName := ⟨R_Mv, "hasRoom", "()Z"⟩
abbrev b_Mv_carryOut : ByteArray := prog_5_method_4_code
def y_Mv_carryOut : MethodName := ⟨R_Mv, "carryOut", "()V"⟩
abbrev b_Pu_init : ByteArray := prog_6_method_1_code
def y_Pu_init : MethodName := ⟨R_Pu, "<init>", "(LFundBook$Account;IZ)V"⟩
abbrev b_Pu_place : ByteArray := prog_6_method_2_code
def y_Pu_place : MethodName := ⟨R_Pu, "place", "()V"⟩
abbrev b_Pu_awaitsInvoiceIn : ByteArray := prog_6_method_3_code
def y_Pu_awaitsInvoiceIn : MethodName := ⟨R_Pu, "awaitsInvoiceIn", "(I)Z"⟩
abbrev b_Pu_isInBand : ByteArray := prog_6_method_4_code
def y_Pu_isInBand : MethodName := ⟨R_Pu, "isInBand", "(JI)Z"⟩
abbrev b_Pu_releasedByInvoice : ByteArray := prog_6_method_5_code
def y_Pu_releasedByInvoice : MethodName := ⟨R_Pu, "releasedByInvoice", "()I"⟩
abbrev b_Pu_hasRoomToPay : ByteArray := prog_6_method_6_code
def y_Pu_hasRoomToPay : MethodName := ⟨R_Pu, "hasRoomToPay", "(J)Z"⟩
abbrev b_Pu_pay : ByteArray := prog_6_method_7_code
def y_Pu_pay : MethodName := ⟨R_Pu, "pay", "(JI)V"⟩
abbrev b_Ra_init : ByteArray := prog_7_method_1_code
def y_Ra_init : MethodName := ⟨R_Ra, "<init>", "(IIILFundBook$Rate;)V"⟩
abbrev b_Ra_inHouse : ByteArray := prog_7_method_2_code
def y_Ra_inHouse : MethodName := ⟨R_Ra, "inHouse", "(I)J"⟩
abbrev b_Law_cell : ByteArray := method_2_code
def y_Law_cell : MethodName := ⟨R_Law, "cell", "([II)I"⟩
/-- the tables' words that any state keeps -/
def wG : List Cond := lw_tbl.filter goodWord
theorem wG_in {w : Cond} (i : Nat) (h : lw_tbl[i]? = some w) (g : goodWord w = true) : w ∈ wG := List.mem_filter.mpr ⟨List.mem_of_getElem? h, g⟩
theorem wG_good {w : Cond} (h : w ∈ wG) : w ∈ lw_tbl ∧ goodWord w = true := List.mem_filter.mp h
/-- the words on private members of nest mates: carried by the contracts' starts -/
def isNW : Cond → Bool
  | .fieldLinkNest _ _ _ _ _ _ => true
  | .methodLinkNest _ _ _ _ => true
  | _ => false
def wN : List Cond := lw_tbl.filter isNW
theorem wN_in {w : Cond} (i : Nat) (h : lw_tbl[i]? = some w) (g : isNW w = true) : w ∈ wN := List.mem_filter.mpr ⟨List.mem_of_getElem? h, g⟩
def NK (U : State) : Prop := ∀ w ∈ wN, va_Nw w U
theorem isNW_tab {w : Cond} (h : isNW w = true) : w.onTables = true := by
  cases w <;> first | rfl | (exact absurd h (by simp [isNW]))
theorem NK.use {U : State} {args : Array Value} {w : Cond} (h : NK U) (hw : w ∈ wN) : w.before args U = true := va_Nw.use (isNW_tab (List.mem_filter.mp hw).2) (h w hw)
theorem NK.same {u U : State} (e : u.vm = U.vm) (h : NK u) : NK U := fun w hw => va_Nw.same (isNW_tab (List.mem_filter.mp hw).2) e (h w hw)
theorem NK.warm {s U : State} (hW : s.WarmedH U.vm) (h : NK s) : NK U := by
  intro w hw
  have hz := h w hw
  have hg := (List.mem_filter.mp hw).2
  cases w <;> first | exact va_Nw.warmF hW hz | exact va_Nw.warmM hW hz | (exact absurd hg (by simp [isNW]))
theorem NK.of {args : Array Value} {s : State} (h : ∀ w ∈ lw_tbl, w.before args s = true) : NK s := fun w hw => va_Nw.of (isNW_tab (List.mem_filter.mp hw).2) (h w (List.mem_filter.mp hw).1)
abbrev w_FB_init : List Cond := .code y_FB_init b_FB_init 2 none :: wG
abbrev w_FB_fund : List Cond := .code y_FB_fund b_FB_fund 3 ((some .int)) :: wG
abbrev w_FB_give : List Cond := .code y_FB_give b_FB_give 5 ((some .int)) :: wG
abbrev w_FB_order : List Cond := .code y_FB_order b_FB_order 7 ((some .int)) :: wG
abbrev w_FB_approve : List Cond := .code y_FB_approve b_FB_approve 4 ((some .int)) :: wG
abbrev w_FB_invoice : List Cond := .code y_FB_invoice b_FB_invoice 10 ((some .long)) :: wG
abbrev w_FB_cancel : List Cond := .code y_FB_cancel b_FB_cancel 4 ((some .int)) :: wG
abbrev w_FB_band : List Cond := .code y_FB_band b_FB_band 2 ((some .int)) :: wG
abbrev w_FB_currency : List Cond := .code y_FB_currency b_FB_currency 6 ((some .int)) :: wG
abbrev w_FB_transfer : List Cond := .code y_FB_transfer b_FB_transfer 7 ((some .int)) :: wG
abbrev w_FB_agree : List Cond := .code y_FB_agree b_FB_agree 5 ((some .int)) :: wG
abbrev w_FB_row : List Cond := .code y_FB_row b_FB_row 4 ((some .int)) :: wG
abbrev w_FB_post : List Cond := .code y_FB_post b_FB_post 3 ((some .int)) :: wG
abbrev w_FB_failing : List Cond := .code y_FB_failing b_FB_failing 1 ((some .int)) :: wG
abbrev w_FB_close : List Cond := .code y_FB_close b_FB_close 5 ((some .int)) :: wG
abbrev w_FB_about : List Cond := .code y_FB_about b_FB_about 4 ((some .long)) :: wG
abbrev w_FB_told : List Cond := .code y_FB_told b_FB_told 4 ((some .long)) :: wG
abbrev w_FB_sum : List Cond := .code y_FB_sum b_FB_sum 2 ((some .long)) :: wG
abbrev w_FB_givenToAll : List Cond := .code y_FB_givenToAll b_FB_givenToAll 7 ((some .long)) :: wG
abbrev w_FB_accountAt : List Cond := .code y_FB_accountAt b_FB_accountAt 2 ((some (.object "FundBook$Account"))) :: wG
abbrev w_FB_purchaseAt : List Cond := .code y_FB_purchaseAt b_FB_purchaseAt 2 ((some (.object "FundBook$Purchase"))) :: wG
abbrev w_FB_moveAt : List Cond := .code y_FB_moveAt b_FB_moveAt 2 ((some (.object "FundBook$Move"))) :: wG
abbrev w_FB_isCurrency : List Cond := .code y_FB_isCurrency b_FB_isCurrency 2 ((some .boolean)) :: wG
abbrev w_FB_rateOn : List Cond := .code y_FB_rateOn b_FB_rateOn 4 ((some (.object "FundBook$Rate"))) :: wG
abbrev w_FB_isWithin : List Cond := .code y_FB_isWithin b_FB_isWithin 6 ((some .boolean)) :: wG
abbrev w_FB_isAmount : List Cond := .code y_FB_isAmount b_FB_isAmount 2 ((some .boolean)) :: wG
abbrev w_Mo_init : List Cond := .code y_Mo_init b_Mo_init 2 none :: wG
abbrev w_Mo_thrown : List Cond := .code y_Mo_thrown b_Mo_thrown 1 ((some .int)) :: wG
abbrev w_Mo_in : List Cond := .code y_Mo_in b_Mo_in 6 ((some .boolean)) :: wG
abbrev w_Mo_isFund : List Cond := .code y_Mo_isFund b_Mo_isFund 2 ((some .boolean)) :: wG
abbrev w_Mo_encumbered : List Cond := .code y_Mo_encumbered b_Mo_encumbered 5 ((some .long)) :: wG
abbrev w_Mo_free : List Cond := .code y_Mo_free b_Mo_free 2 ((some .long)) :: wG
abbrev w_Mo_isBound : List Cond := .code y_Mo_isBound b_Mo_isBound 2 ((some .boolean)) :: wG
abbrev w_Mo_fits : List Cond := .code y_Mo_fits b_Mo_fits 14 ((some .boolean)) :: wG
abbrev w_Mo_fund : List Cond := .code y_Mo_fund b_Mo_fund 2 ((some .int)) :: wG
abbrev w_Mo_give : List Cond := .code y_Mo_give b_Mo_give 4 ((some .int)) :: wG
abbrev w_Mo_order : List Cond := .code y_Mo_order b_Mo_order 5 ((some .int)) :: wG
abbrev w_Mo_approve : List Cond := .code y_Mo_approve b_Mo_approve 3 ((some .int)) :: wG
abbrev w_Mo_rowOn : List Cond := .code y_Mo_rowOn b_Mo_rowOn 5 ((some .int)) :: wG
abbrev w_Mo_invoice : List Cond := .code y_Mo_invoice b_Mo_invoice 10 ((some .long)) :: wG
abbrev w_Mo_cancel : List Cond := .code y_Mo_cancel b_Mo_cancel 3 ((some .int)) :: wG
abbrev w_Mo_band : List Cond := .code y_Mo_band b_Mo_band 2 ((some .int)) :: wG
abbrev w_Mo_currency : List Cond := .code y_Mo_currency b_Mo_currency 6 ((some .int)) :: wG
abbrev w_Mo_transfer : List Cond := .code y_Mo_transfer b_Mo_transfer 4 ((some .int)) :: wG
abbrev w_Mo_agree : List Cond := .code y_Mo_agree b_Mo_agree 5 ((some .int)) :: wG
abbrev w_Mo_row : List Cond := .code y_Mo_row b_Mo_row 3 ((some .int)) :: wG
abbrev w_Mo_batched : List Cond := .code y_Mo_batched b_Mo_batched 5 ((some .long)) :: wG
abbrev w_Mo_post : List Cond := .code y_Mo_post b_Mo_post 6 ((some .int)) :: wG
abbrev w_Mo_failing : List Cond := .code y_Mo_failing b_Mo_failing 1 ((some .int)) :: wG
abbrev w_Mo_close : List Cond := .code y_Mo_close b_Mo_close 6 ((some .int)) :: wG
abbrev w_Mo_about : List Cond := .code y_Mo_about b_Mo_about 3 ((some .long)) :: wG
abbrev w_Mo_told : List Cond := .code y_Mo_told b_Mo_told 3 ((some .long)) :: wG
abbrev w_Mo_sum : List Cond := .code y_Mo_sum b_Mo_sum 5 ((some .long)) :: wG
abbrev w_Ac_init : List Cond := .code y_Ac_init b_Ac_init 3 none :: wG
abbrev w_Ac_free : List Cond := .code y_Ac_free b_Ac_free 1 ((some .long)) :: wG
abbrev w_Ac_hasRoomFor : List Cond := .code y_Ac_hasRoomFor b_Ac_hasRoomFor 7 ((some .boolean)) :: wG
abbrev w_Ac_carried : List Cond := .code y_Ac_carried b_Ac_carried 3 ((some .long)) :: wG
abbrev w_Ac_beginYear : List Cond := .code y_Ac_beginYear b_Ac_beginYear 1 none :: wG
abbrev w_Ap_init : List Cond := .code y_Ap_init b_Ap_init 1 none :: wG
abbrev w_Ap_include : List Cond := .code y_Ap_include b_Ap_include 4 ((some .boolean)) :: wG
abbrev w_Ap_add : List Cond := .code y_Ap_add b_Ap_add 2 none :: wG
abbrev w_Ap_bitOf : List Cond := .code y_Ap_bitOf b_Ap_bitOf 1 ((some .long)) :: wG
abbrev w_Ba_init : List Cond := .code y_Ba_init b_Ba_init 1 none :: wG
abbrev w_Ba_isFull : List Cond := .code y_Ba_isFull b_Ba_isFull 1 ((some .boolean)) :: wG
abbrev w_Ba_add : List Cond := .code y_Ba_add b_Ba_add 3 none :: wG
abbrev w_Ba_culprit : List Cond := .code y_Ba_culprit b_Ba_culprit 6 ((some (.object "FundBook$Account"))) :: wG
abbrev w_Ba_empty : List Cond := .code y_Ba_empty b_Ba_empty 4 none :: wG
abbrev w_Mv_init : List Cond := .code y_Mv_init b_Mv_init 4 none :: wG
abbrev w_Mv_happensWithOneMore : List Cond := .code y_Mv_happensWithOneMore b_Mv_happensWithOneMore 1 ((some .boolean)) :: wG
abbrev w_Mv_hasRoom : List Cond := .code y_Mv_hasRoom b_Mv_hasRoom 1 ((some .boolean)) :: wG
abbrev w_Mv_carryOut : List Cond := .code y_Mv_carryOut b_Mv_carryOut 1 none :: wG
abbrev w_Pu_init : List Cond := .code y_Pu_init b_Pu_init 4 none :: wG
abbrev w_Pu_place : List Cond := .code y_Pu_place b_Pu_place 1 none :: wG
abbrev w_Pu_awaitsInvoiceIn : List Cond := .code y_Pu_awaitsInvoiceIn b_Pu_awaitsInvoiceIn 2 ((some .boolean)) :: wG
abbrev w_Pu_isInBand : List Cond := .code y_Pu_isInBand b_Pu_isInBand 6 ((some .boolean)) :: wG
abbrev w_Pu_releasedByInvoice : List Cond := .code y_Pu_releasedByInvoice b_Pu_releasedByInvoice 1 ((some .int)) :: wG
abbrev w_Pu_hasRoomToPay : List Cond := .code y_Pu_hasRoomToPay b_Pu_hasRoomToPay 3 ((some .boolean)) :: wG
abbrev w_Pu_pay : List Cond := .code y_Pu_pay b_Pu_pay 4 none :: wG
abbrev w_Ra_init : List Cond := .code y_Ra_init b_Ra_init 5 none :: wG
abbrev w_Ra_inHouse : List Cond := .code y_Ra_inHouse b_Ra_inHouse 2 ((some .long)) :: wG
abbrev w_Law_cell : List Cond := .code y_Law_cell b_Law_cell 2 ((some .int)) :: wG
theorem gd_c {x : Cond} {y : MethodName} {b : ByteArray} {n : Nat} {r : Option FieldType} (hc : Cond.code y b n r ∈ wG) : GoodIn (x :: wG) (Cond.code y b n r :: wG) := fun w h => (List.mem_cons.mp h).elim (fun e => e ▸ ⟨List.mem_cons_of_mem _ hc, good_of_word (wG_good hc).2⟩) (fun h => ⟨List.mem_cons_of_mem _ h, good_of_word (wG_good h).2⟩)
theorem gd_V {x : Cond} {own C : String} {idx : Nat} {y : MethodName} {b : ByteArray} {n : Nat} {r : Option FieldType} (h1 : Cond.methodLink own idx y ∈ wG) (h2 : Cond.instanceMethod y ∈ wG) (h3 : Cond.selects C y y ∈ wG) (h4 : Cond.initialized C ∈ wG) (hc : Cond.code y b n r ∈ wG) : GoodIn (x :: wG) (wsV own idx C y (Cond.code y b n r :: wG)) := by
  intro w h
  rcases List.mem_append.mp h with h | h
  · have hw : w ∈ wG := by
      simp only [List.mem_cons, List.not_mem_nil, or_false] at h
      rcases h with rfl | rfl | rfl | rfl <;> assumption
    exact ⟨List.mem_cons_of_mem _ hw, good_of_word (wG_good hw).2⟩
  · exact gd_c hc w h
theorem gd_S {x : Cond} {own : String} {idx : Nat} {y : MethodName} {b : ByteArray} {n : Nat} {r : Option FieldType} (h1 : Cond.methodLink own idx y ∈ wG) (h2 : Cond.static y ∈ wG) (h4 : Cond.initialized own ∈ wG) (hc : Cond.code y b n r ∈ wG) : GoodIn (x :: wG) (wsS own idx y (Cond.code y b n r :: wG)) := by
  intro w h
  rcases List.mem_append.mp h with h | h
  · have hw : w ∈ wG := by
      simp only [List.mem_cons, List.not_mem_nil, or_false] at h
      rcases h with rfl | rfl | rfl <;> assumption
    exact ⟨List.mem_cons_of_mem _ hw, good_of_word (wG_good hw).2⟩
  · exact gd_c hc w h
theorem iG_FB : ∀ w ∈ u_ws R_FB F_FB 11, w ∈ wG := by
  have h : u_ws R_FB F_FB 11 = ([78, 80, 82, 84, 86, 88, 90, 92, 94, 96, 98] : List Nat).filterMap (fun i => lw_tbl[i]?) := by decide +kernel
  have g : (u_ws R_FB F_FB 11).all goodWord = true := by decide +kernel
  intro w hw
  have hg := List.all_eq_true.mp g w hw
  rw [h] at hw
  obtain ⟨i, -, hi⟩ := List.mem_filterMap.mp hw
  exact wG_in i hi hg
theorem iG_Ac : ∀ w ∈ u_ws R_Ac F_Ac 6, w ∈ wG := by
  have h : u_ws R_Ac F_Ac 6 = ([128, 130, 132, 134, 136, 138] : List Nat).filterMap (fun i => lw_tbl[i]?) := by decide +kernel
  have g : (u_ws R_Ac F_Ac 6).all goodWord = true := by decide +kernel
  intro w hw
  have hg := List.all_eq_true.mp g w hw
  rw [h] at hw
  obtain ⟨i, -, hi⟩ := List.mem_filterMap.mp hw
  exact wG_in i hi hg
theorem iG_Pu : ∀ w ∈ u_ws R_Pu F_Pu 8, w ∈ wG := by
  have h : u_ws R_Pu F_Pu 8 = ([205, 207, 209, 211, 213, 215, 217, 219] : List Nat).filterMap (fun i => lw_tbl[i]?) := by decide +kernel
  have g : (u_ws R_Pu F_Pu 8).all goodWord = true := by decide +kernel
  intro w hw
  have hg := List.all_eq_true.mp g w hw
  rw [h] at hw
  obtain ⟨i, -, hi⟩ := List.mem_filterMap.mp hw
  exact wG_in i hi hg
theorem iG_Mv : ∀ w ∈ u_ws R_Mv F_Mv 5, w ∈ wG := by
  have h : u_ws R_Mv F_Mv 5 = ([350, 352, 354, 356, 358] : List Nat).filterMap (fun i => lw_tbl[i]?) := by decide +kernel
  have g : (u_ws R_Mv F_Mv 5).all goodWord = true := by decide +kernel
  intro w hw
  have hg := List.all_eq_true.mp g w hw
  rw [h] at hw
  obtain ⟨i, -, hi⟩ := List.mem_filterMap.mp hw
  exact wG_in i hi hg
theorem iG_Ap : ∀ w ∈ u_ws R_Ap F_Ap 3, w ∈ wG := by
  have h : u_ws R_Ap F_Ap 3 = ([184, 186, 188] : List Nat).filterMap (fun i => lw_tbl[i]?) := by decide +kernel
  have g : (u_ws R_Ap F_Ap 3).all goodWord = true := by decide +kernel
  intro w hw
  have hg := List.all_eq_true.mp g w hw
  rw [h] at hw
  obtain ⟨i, -, hi⟩ := List.mem_filterMap.mp hw
  exact wG_in i hi hg
theorem iG_Ra : ∀ w ∈ u_ws R_Ra F_Ra 5, w ∈ wG := by
  have h : u_ws R_Ra F_Ra 5 = ([321, 323, 325, 327, 329] : List Nat).filterMap (fun i => lw_tbl[i]?) := by decide +kernel
  have g : (u_ws R_Ra F_Ra 5).all goodWord = true := by decide +kernel
  intro w hw
  have hg := List.all_eq_true.mp g w hw
  rw [h] at hw
  obtain ⟨i, -, hi⟩ := List.mem_filterMap.mp hw
  exact wG_in i hi hg
theorem iG_Ba : ∀ w ∈ u_ws R_Ba F_Ba 3, w ∈ wG := by
  have h : u_ws R_Ba F_Ba 3 = ([54, 56, 58] : List Nat).filterMap (fun i => lw_tbl[i]?) := by decide +kernel
  have g : (u_ws R_Ba F_Ba 3).all goodWord = true := by decide +kernel
  intro w hw
  have hg := List.all_eq_true.mp g w hw
  rw [h] at hw
  obtain ⟨i, -, hi⟩ := List.mem_filterMap.mp hw
  exact wG_in i hi hg
theorem iG_Mo : ∀ w ∈ u_ws R_Mo F_Mo 31, w ∈ wG := by
  have h : u_ws R_Mo F_Mo 31 = ([554, 556, 558, 560, 562, 564, 566, 568, 570, 572, 574, 576, 578, 580, 582, 584, 586, 588, 590, 592, 594, 596, 598, 600, 602, 604, 606, 608, 610, 612, 614] : List Nat).filterMap (fun i => lw_tbl[i]?) := by decide +kernel
  have g : (u_ws R_Mo F_Mo 31).all goodWord = true := by decide +kernel
  intro w hw
  have hg := List.all_eq_true.mp g w hw
  rw [h] at hw
  obtain ⟨i, -, hi⟩ := List.mem_filterMap.mp hw
  exact wG_in i hi hg
