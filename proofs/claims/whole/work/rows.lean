section
-- ===== PART A: goes FIRST, ahead of the names: the tables' words, and 'selects' of the private methods out of them =====
/-- a private method of a class that the tables say can be made, by its rows of tables_1 -/
def lw_okq (q : MethodName × Nat) : Prop := (q.1.cls ≠ "java/lang/invoke/MethodHandle" ∧ q.1.cls ≠ "java/lang/invoke/VarHandle") ∧ Cond.instantiable q.1.cls q.2 ∈ tables_1 ∧ Cond.privateMethod q.1 ∈ tables_1 ∧ Cond.instanceMethod q.1 ∈ tables_1
theorem lw_p0 : lw_okq (⟨"FundBook", "accountAt", "(I)LFundBook$Account;"⟩, 11) := ⟨⟨by decide +kernel, by decide +kernel⟩, List.mem_of_getElem? (i := 15) (by decide +kernel), List.mem_of_getElem? (i := 133) (by decide +kernel), List.mem_of_getElem? (i := 134) (by decide +kernel)⟩
theorem lw_p1 : lw_okq (⟨"FundBook", "purchaseAt", "(I)LFundBook$Purchase;"⟩, 11) := ⟨⟨by decide +kernel, by decide +kernel⟩, List.mem_of_getElem? (i := 15) (by decide +kernel), List.mem_of_getElem? (i := 219) (by decide +kernel), List.mem_of_getElem? (i := 220) (by decide +kernel)⟩
theorem lw_p2 : lw_okq (⟨"FundBook", "isCurrency", "(I)Z"⟩, 11) := ⟨⟨by decide +kernel, by decide +kernel⟩, List.mem_of_getElem? (i := 15) (by decide +kernel), List.mem_of_getElem? (i := 240) (by decide +kernel), List.mem_of_getElem? (i := 241) (by decide +kernel)⟩
theorem lw_p3 : lw_okq (⟨"FundBook", "rateOn", "(II)LFundBook$Rate;"⟩, 11) := ⟨⟨by decide +kernel, by decide +kernel⟩, List.mem_of_getElem? (i := 15) (by decide +kernel), List.mem_of_getElem? (i := 251) (by decide +kernel), List.mem_of_getElem? (i := 252) (by decide +kernel)⟩
theorem lw_p4 : lw_okq (⟨"FundBook", "moveAt", "(I)LFundBook$Move;"⟩, 11) := ⟨⟨by decide +kernel, by decide +kernel⟩, List.mem_of_getElem? (i := 15) (by decide +kernel), List.mem_of_getElem? (i := 353) (by decide +kernel), List.mem_of_getElem? (i := 354) (by decide +kernel)⟩
theorem lw_p5 : lw_okq (⟨"FundBook", "givenToAll", "()J"⟩, 11) := ⟨⟨by decide +kernel, by decide +kernel⟩, List.mem_of_getElem? (i := 15) (by decide +kernel), List.mem_of_getElem? (i := 415) (by decide +kernel), List.mem_of_getElem? (i := 416) (by decide +kernel)⟩
theorem lw_p6 : lw_okq (⟨"java/lang/Throwable", "fillInStackTrace", "(I)Ljava/lang/Throwable;"⟩, 6) := ⟨⟨by decide +kernel, by decide +kernel⟩, List.mem_of_getElem? (i := 475) (by decide +kernel), List.mem_of_getElem? (i := 473) (by decide +kernel), List.mem_of_getElem? (i := 474) (by decide +kernel)⟩
theorem lw_p7 : lw_okq (⟨"FundBookModel", "isFund", "(I)Z"⟩, 31) := ⟨⟨by decide +kernel, by decide +kernel⟩, List.mem_of_getElem? (i := 505) (by decide +kernel), List.mem_of_getElem? (i := 624) (by decide +kernel), List.mem_of_getElem? (i := 625) (by decide +kernel)⟩
theorem lw_p8 : lw_okq (⟨"FundBookModel", "fits", "(IJJJ)Z"⟩, 31) := ⟨⟨by decide +kernel, by decide +kernel⟩, List.mem_of_getElem? (i := 505) (by decide +kernel), List.mem_of_getElem? (i := 629) (by decide +kernel), List.mem_of_getElem? (i := 630) (by decide +kernel)⟩
theorem lw_p9 : lw_okq (⟨"FundBookModel", "encumbered", "(I)J"⟩, 31) := ⟨⟨by decide +kernel, by decide +kernel⟩, List.mem_of_getElem? (i := 505) (by decide +kernel), List.mem_of_getElem? (i := 633) (by decide +kernel), List.mem_of_getElem? (i := 634) (by decide +kernel)⟩
theorem lw_p10 : lw_okq (⟨"FundBookModel", "free", "(I)J"⟩, 31) := ⟨⟨by decide +kernel, by decide +kernel⟩, List.mem_of_getElem? (i := 505) (by decide +kernel), List.mem_of_getElem? (i := 647) (by decide +kernel), List.mem_of_getElem? (i := 648) (by decide +kernel)⟩
theorem lw_p11 : lw_okq (⟨"FundBookModel", "rowOn", "(II)I"⟩, 31) := ⟨⟨by decide +kernel, by decide +kernel⟩, List.mem_of_getElem? (i := 505) (by decide +kernel), List.mem_of_getElem? (i := 665) (by decide +kernel), List.mem_of_getElem? (i := 666) (by decide +kernel)⟩
theorem lw_p12 : lw_okq (⟨"FundBookModel", "batched", "(I)J"⟩, 31) := ⟨⟨by decide +kernel, by decide +kernel⟩, List.mem_of_getElem? (i := 505) (by decide +kernel), List.mem_of_getElem? (i := 703) (by decide +kernel), List.mem_of_getElem? (i := 704) (by decide +kernel)⟩
def lw_privs_1 : List (MethodName × Nat) := [(⟨"FundBook", "accountAt", "(I)LFundBook$Account;"⟩, 11), (⟨"FundBook", "purchaseAt", "(I)LFundBook$Purchase;"⟩, 11), (⟨"FundBook", "isCurrency", "(I)Z"⟩, 11), (⟨"FundBook", "rateOn", "(II)LFundBook$Rate;"⟩, 11), (⟨"FundBook", "moveAt", "(I)LFundBook$Move;"⟩, 11), (⟨"FundBook", "givenToAll", "()J"⟩, 11), (⟨"java/lang/Throwable", "fillInStackTrace", "(I)Ljava/lang/Throwable;"⟩, 6), (⟨"FundBookModel", "isFund", "(I)Z"⟩, 31), (⟨"FundBookModel", "fits", "(IJJJ)Z"⟩, 31), (⟨"FundBookModel", "encumbered", "(I)J"⟩, 31), (⟨"FundBookModel", "free", "(I)J"⟩, 31), (⟨"FundBookModel", "rowOn", "(II)I"⟩, 31), (⟨"FundBookModel", "batched", "(I)J"⟩, 31)]
theorem lw_r1 : ∀ q ∈ lw_privs_1, lw_okq q := List.forall_mem_cons.mpr ⟨lw_p0, List.forall_mem_cons.mpr ⟨lw_p1, List.forall_mem_cons.mpr ⟨lw_p2, List.forall_mem_cons.mpr ⟨lw_p3, List.forall_mem_cons.mpr ⟨lw_p4, List.forall_mem_cons.mpr ⟨lw_p5, List.forall_mem_cons.mpr ⟨lw_p6, List.forall_mem_cons.mpr ⟨lw_p7, List.forall_mem_cons.mpr ⟨lw_p8, List.forall_mem_cons.mpr ⟨lw_p9, List.forall_mem_cons.mpr ⟨lw_p10, List.forall_mem_cons.mpr ⟨lw_p11, List.forall_mem_cons.mpr ⟨lw_p12, fun _ h => absurd h List.not_mem_nil⟩⟩⟩⟩⟩⟩⟩⟩⟩⟩⟩⟩⟩
def lw_privs : List (MethodName × Nat) := lw_privs_1
def lw_tbl : List Cond := k2_sels lw_privs ++ tables_1
theorem lw_privs_ok : ∀ q ∈ lw_privs, lw_okq q := lw_r1
end
section
def R_FB : String := "FundBook"
def F_FB : u_T := fun k => match k with
  | 0 => ("FundBook", "accounts", "[LFundBook$Account;", true)
  | 1 => ("FundBook", "purchases", "[LFundBook$Purchase;", true)
  | 2 => ("FundBook", "moves", "[LFundBook$Move;", true)
  | 3 => ("FundBook", "latestRates", "[LFundBook$Rate;", true)
  | 4 => ("FundBook", "batch", "LFundBook$Batch;", true)
  | 5 => ("FundBook", "accountCount", "I", false)
  | 6 => ("FundBook", "purchaseCount", "I", false)
  | 7 => ("FundBook", "moveCount", "I", false)
  | 8 => ("FundBook", "currentYear", "I", false)
  | 9 => ("FundBook", "tolerance", "I", false)
  | _ => ("FundBook", "failingFund", "I", false)
def t_FB : Nat → FieldType := fun k => match k with
  | 0 => (.array (.object "FundBook$Account"))
  | 1 => (.array (.object "FundBook$Purchase"))
  | 2 => (.array (.object "FundBook$Move"))
  | 3 => (.array (.object "FundBook$Rate"))
  | 4 => (.object "FundBook$Batch")
  | 5 => .int
  | 6 => .int
  | 7 => .int
  | 8 => .int
  | 9 => .int
  | _ => .int
theorem n_FB : ∀ a, a < 11 → ∀ b, b < 11 → a ≠ b → (F_FB a).2.1 ≠ (F_FB b).2.1 := by decide +kernel
theorem t_FB_ok : ∀ k, k < 11 → parseFieldDescriptor (F_FB k).2.2.1 = some (t_FB k) := by decide +kernel
def R_Ac : String := "FundBook$Account"
def F_Ac : u_T := fun k => match k with
  | 0 => ("FundBook$Account", "number", "I", true)
  | 1 => ("FundBook$Account", "carry", "I", true)
  | 2 => ("FundBook$Account", "given", "J", false)
  | 3 => ("FundBook$Account", "encumbered", "J", false)
  | 4 => ("FundBook$Account", "spent", "J", false)
  | _ => ("FundBook$Account", "pending", "J", false)
def t_Ac : Nat → FieldType := fun k => match k with
  | 0 => .int
  | 1 => .int
  | 2 => .long
  | 3 => .long
  | 4 => .long
  | _ => .long
theorem n_Ac : ∀ a, a < 6 → ∀ b, b < 6 → a ≠ b → (F_Ac a).2.1 ≠ (F_Ac b).2.1 := by decide +kernel
theorem t_Ac_ok : ∀ k, k < 6 → parseFieldDescriptor (F_Ac k).2.2.1 = some (t_Ac k) := by decide +kernel
def R_Pu : String := "FundBook$Purchase"
def F_Pu : u_T := fun k => match k with
  | 0 => ("FundBook$Purchase", "account", "LFundBook$Account;", true)
  | 1 => ("FundBook$Purchase", "cents", "I", true)
  | 2 => ("FundBook$Purchase", "standing", "Z", true)
  | 3 => ("FundBook$Purchase", "approvals", "LFundBook$Approvals;", true)
  | 4 => ("FundBook$Purchase", "state", "I", false)
  | 5 => ("FundBook$Purchase", "invoiceCount", "I", false)
  | 6 => ("FundBook$Purchase", "latestMonth", "I", false)
  | _ => ("FundBook$Purchase", "latestExcess", "J", false)
def t_Pu : Nat → FieldType := fun k => match k with
  | 0 => (.object "FundBook$Account")
  | 1 => .int
  | 2 => .boolean
  | 3 => (.object "FundBook$Approvals")
  | 4 => .int
  | 5 => .int
  | 6 => .int
  | _ => .long
theorem n_Pu : ∀ a, a < 8 → ∀ b, b < 8 → a ≠ b → (F_Pu a).2.1 ≠ (F_Pu b).2.1 := by decide +kernel
theorem t_Pu_ok : ∀ k, k < 8 → parseFieldDescriptor (F_Pu k).2.2.1 = some (t_Pu k) := by decide +kernel
def R_Mv : String := "FundBook$Move"
def F_Mv : u_T := fun k => match k with
  | 0 => ("FundBook$Move", "source", "LFundBook$Account;", true)
  | 1 => ("FundBook$Move", "target", "LFundBook$Account;", true)
  | 2 => ("FundBook$Move", "cents", "I", true)
  | 3 => ("FundBook$Move", "approvals", "LFundBook$Approvals;", true)
  | _ => ("FundBook$Move", "happened", "Z", false)
def t_Mv : Nat → FieldType := fun k => match k with
  | 0 => (.object "FundBook$Account")
  | 1 => (.object "FundBook$Account")
  | 2 => .int
  | 3 => (.object "FundBook$Approvals")
  | _ => .boolean
theorem n_Mv : ∀ a, a < 5 → ∀ b, b < 5 → a ≠ b → (F_Mv a).2.1 ≠ (F_Mv b).2.1 := by decide +kernel
theorem t_Mv_ok : ∀ k, k < 5 → parseFieldDescriptor (F_Mv k).2.2.1 = some (t_Mv k) := by decide +kernel
def R_Ap : String := "FundBook$Approvals"
def F_Ap : u_T := fun k => match k with
  | 0 => ("FundBook$Approvals", "lowPersons", "J", false)
  | 1 => ("FundBook$Approvals", "highPersons", "J", false)
  | _ => ("FundBook$Approvals", "count", "I", false)
def t_Ap : Nat → FieldType := fun k => match k with
  | 0 => .long
  | 1 => .long
  | _ => .int
theorem n_Ap : ∀ a, a < 3 → ∀ b, b < 3 → a ≠ b → (F_Ap a).2.1 ≠ (F_Ap b).2.1 := by decide +kernel
theorem t_Ap_ok : ∀ k, k < 3 → parseFieldDescriptor (F_Ap k).2.2.1 = some (t_Ap k) := by decide +kernel
def R_Ra : String := "FundBook$Rate"
def F_Ra : u_T := fun k => match k with
  | 0 => ("FundBook$Rate", "day", "I", true)
  | 1 => ("FundBook$Rate", "up", "I", true)
  | 2 => ("FundBook$Rate", "down", "I", true)
  | 3 => ("FundBook$Rate", "earlier", "LFundBook$Rate;", true)
  | _ => ("FundBook$Rate", "rank", "I", true)
def t_Ra : Nat → FieldType := fun k => match k with
  | 0 => .int
  | 1 => .int
  | 2 => .int
  | 3 => (.object "FundBook$Rate")
  | _ => .int
theorem n_Ra : ∀ a, a < 5 → ∀ b, b < 5 → a ≠ b → (F_Ra a).2.1 ≠ (F_Ra b).2.1 := by decide +kernel
theorem t_Ra_ok : ∀ k, k < 5 → parseFieldDescriptor (F_Ra k).2.2.1 = some (t_Ra k) := by decide +kernel
def R_Ba : String := "FundBook$Batch"
def F_Ba : u_T := fun k => match k with
  | 0 => ("FundBook$Batch", "rows", "[LFundBook$Account;", true)
  | 1 => ("FundBook$Batch", "count", "I", false)
  | _ => ("FundBook$Batch", "total", "J", false)
def t_Ba : Nat → FieldType := fun k => match k with
  | 0 => (.array (.object "FundBook$Account"))
  | 1 => .int
  | _ => .long
theorem n_Ba : ∀ a, a < 3 → ∀ b, b < 3 → a ≠ b → (F_Ba a).2.1 ≠ (F_Ba b).2.1 := by decide +kernel
theorem t_Ba_ok : ∀ k, k < 3 → parseFieldDescriptor (F_Ba k).2.2.1 = some (t_Ba k) := by decide +kernel
def R_Mo : String := "FundBookModel"
def F_Mo : u_T := fun k => match k with
  | 0 => ("FundBookModel", "thrown", "I", false)
  | 1 => ("FundBookModel", "year", "I", false)
  | 2 => ("FundBookModel", "funds", "I", false)
  | 3 => ("FundBookModel", "carry", "[I", true)
  | 4 => ("FundBookModel", "given", "[J", true)
  | 5 => ("FundBookModel", "spent", "[J", true)
  | 6 => ("FundBookModel", "orders", "I", false)
  | 7 => ("FundBookModel", "fund", "[I", true)
  | 8 => ("FundBookModel", "cents", "[I", true)
  | 9 => ("FundBookModel", "standing", "[Z", true)
  | 10 => ("FundBookModel", "state", "[I", true)
  | 11 => ("FundBookModel", "firstBy", "[I", true)
  | 12 => ("FundBookModel", "approved", "[I", true)
  | 13 => ("FundBookModel", "difference", "[J", true)
  | 14 => ("FundBookModel", "invoices", "[I", true)
  | 15 => ("FundBookModel", "month", "[I", true)
  | 16 => ("FundBookModel", "transfers", "I", false)
  | 17 => ("FundBookModel", "from", "[I", true)
  | 18 => ("FundBookModel", "to", "[I", true)
  | 19 => ("FundBookModel", "sum", "[I", true)
  | 20 => ("FundBookModel", "happened", "[Z", true)
  | 21 => ("FundBookModel", "agreed", "[Z", true)
  | 22 => ("FundBookModel", "band", "I", false)
  | 23 => ("FundBookModel", "rows", "[I", true)
  | 24 => ("FundBookModel", "day", "[I", true)
  | 25 => ("FundBookModel", "up", "[I", true)
  | 26 => ("FundBookModel", "down", "[I", true)
  | 27 => ("FundBookModel", "batch", "I", false)
  | 28 => ("FundBookModel", "batchFund", "[I", true)
  | 29 => ("FundBookModel", "batchCents", "[I", true)
  | _ => ("FundBookModel", "failing", "I", false)
def t_Mo : Nat → FieldType := fun k => match k with
  | 0 => .int
  | 1 => .int
  | 2 => .int
  | 3 => (.array .int)
  | 4 => (.array .long)
  | 5 => (.array .long)
  | 6 => .int
  | 7 => (.array .int)
  | 8 => (.array .int)
  | 9 => (.array .boolean)
  | 10 => (.array .int)
  | 11 => (.array .int)
  | 12 => (.array .int)
  | 13 => (.array .long)
  | 14 => (.array .int)
  | 15 => (.array .int)
  | 16 => .int
  | 17 => (.array .int)
  | 18 => (.array .int)
  | 19 => (.array .int)
  | 20 => (.array .boolean)
  | 21 => (.array .boolean)
  | 22 => .int
  | 23 => (.array .int)
  | 24 => (.array .int)
  | 25 => (.array .int)
  | 26 => (.array .int)
  | 27 => .int
  | 28 => (.array .int)
  | 29 => (.array .int)
  | _ => .int
theorem n_Mo : ∀ a, a < 31 → ∀ b, b < 31 → a ≠ b → (F_Mo a).2.1 ≠ (F_Mo b).2.1 := by decide +kernel
theorem t_Mo_ok : ∀ k, k < 31 → parseFieldDescriptor (F_Mo k).2.2.1 = some (t_Mo k) := by decide +kernel
def R_Law : String := "FundBookLaw"
abbrev classes : List vw_C := [(R_FB, F_FB, 11), (R_Ac, F_Ac, 6), (R_Pu, F_Pu, 8), (R_Mv, F_Mv, 5), (R_Ap, F_Ap, 3), (R_Ra, F_Ra, 5), (R_Ba, F_Ba, 3), (R_Mo, F_Mo, 31)]
abbrev b_FB_init : ByteArray := prog_1_method_1_code
def y_FB_init : MethodName := ⟨R_FB, "<init>", "(I)V"⟩
abbrev b_FB_fund : ByteArray := prog_1_method_2_code
def y_FB_fund : MethodName := ⟨R_FB, "fund", "(I)I"⟩
abbrev b_FB_give : ByteArray := prog_1_method_3_code
def y_FB_give : MethodName := ⟨R_FB, "give", "(IJ)I"⟩
abbrev b_FB_order : ByteArray := prog_1_method_4_code
def y_FB_order : MethodName := ⟨R_FB, "order", "(IIZ)I"⟩
abbrev b_FB_approve : ByteArray := prog_1_method_5_code
def y_FB_approve : MethodName := ⟨R_FB, "approve", "(II)I"⟩
abbrev b_FB_invoice : ByteArray := prog_1_method_6_code
def y_FB_invoice : MethodName := ⟨R_FB, "invoice", "(IIII)J"⟩
abbrev b_FB_cancel : ByteArray := prog_1_method_7_code
def y_FB_cancel : MethodName := ⟨R_FB, "cancel", "(I)I"⟩
abbrev b_FB_band : ByteArray := prog_1_method_8_code
def y_FB_band : MethodName := ⟨R_FB, "band", "(I)I"⟩
abbrev b_FB_currency : ByteArray := prog_1_method_9_code
def y_FB_currency : MethodName := ⟨R_FB, "currency", "(IIII)I"⟩
abbrev b_FB_transfer : ByteArray := prog_1_method_10_code
def y_FB_transfer : MethodName := ⟨R_FB, "transfer", "(III)I"⟩
abbrev b_FB_agree : ByteArray := prog_1_method_11_code
def y_FB_agree : MethodName := ⟨R_FB, "agree", "(II)I"⟩
abbrev b_FB_row : ByteArray := prog_1_method_12_code
def y_FB_row : MethodName := ⟨R_FB, "row", "(II)I"⟩
abbrev b_FB_post : ByteArray := prog_1_method_13_code
def y_FB_post : MethodName := ⟨R_FB, "post", "()I"⟩
abbrev b_FB_failing : ByteArray := prog_1_method_14_code
def y_FB_failing : MethodName := ⟨R_FB, "failing", "()I"⟩
abbrev b_FB_close : ByteArray := prog_1_method_15_code
def y_FB_close : MethodName := ⟨R_FB, "close", "()I"⟩
abbrev b_FB_about : ByteArray := prog_1_method_16_code
def y_FB_about : MethodName := ⟨R_FB, "about", "(II)J"⟩
abbrev b_FB_told : ByteArray := prog_1_method_17_code
def y_FB_told : MethodName := ⟨R_FB, "told", "(II)J"⟩
abbrev b_FB_sum : ByteArray := prog_1_method_18_code
def y_FB_sum : MethodName := ⟨R_FB, "sum", "(I)J"⟩
abbrev b_FB_givenToAll : ByteArray := prog_1_method_19_code
def y_FB_givenToAll : MethodName := ⟨R_FB, "givenToAll", "()J"⟩
abbrev b_FB_accountAt : ByteArray := prog_1_method_20_code
def y_FB_accountAt : MethodName := ⟨R_FB, "accountAt", "(I)LFundBook$Account;"⟩
abbrev b_FB_purchaseAt : ByteArray := prog_1_method_21_code
def y_FB_purchaseAt : MethodName := ⟨R_FB, "purchaseAt", "(I)LFundBook$Purchase;"⟩
abbrev b_FB_moveAt : ByteArray := prog_1_method_22_code
def y_FB_moveAt : MethodName := ⟨R_FB, "moveAt", "(I)LFundBook$Move;"⟩
abbrev b_FB_isCurrency : ByteArray := prog_1_method_23_code
def y_FB_isCurrency : MethodName := ⟨R_FB, "isCurrency", "(I)Z"⟩
abbrev b_FB_rateOn : ByteArray := prog_1_method_24_code
def y_FB_rateOn : MethodName := ⟨R_FB, "rateOn", "(II)LFundBook$Rate;"⟩
abbrev b_FB_isWithin : ByteArray := prog_1_method_25_code
def y_FB_isWithin : MethodName := ⟨R_FB, "isWithin", "(JJJ)Z"⟩
abbrev b_FB_isAmount : ByteArray := prog_1_method_26_code
def y_FB_isAmount : MethodName := ⟨R_FB, "isAmount", "(J)Z"⟩
abbrev b_Mo_init : ByteArray := prog_9_method_1_code
def y_Mo_init : MethodName := ⟨R_Mo, "<init>", "(I)V"⟩
abbrev b_Mo_thrown : ByteArray := prog_9_method_2_code
def y_Mo_thrown : MethodName := ⟨R_Mo, "thrown", "()I"⟩
abbrev b_Mo_in : ByteArray := prog_9_method_3_code
def y_Mo_in : MethodName := ⟨R_Mo, "in", "(JJJ)Z"⟩
abbrev b_Mo_isFund : ByteArray := prog_9_method_4_code
def y_Mo_isFund : MethodName := ⟨R_Mo, "isFund", "(I)Z"⟩
abbrev b_Mo_encumbered : ByteArray := prog_9_method_5_code
def y_Mo_encumbered : MethodName := ⟨R_Mo, "encumbered", "(I)J"⟩
abbrev b_Mo_free : ByteArray := prog_9_method_6_code
def y_Mo_free : MethodName := ⟨R_Mo, "free", "(I)J"⟩
abbrev b_Mo_isBound : ByteArray := prog_9_method_7_code
def y_Mo_isBound : MethodName := ⟨R_Mo, "isBound", "(J)Z"⟩
abbrev b_Mo_fits : ByteArray := prog_9_method_8_code
def y_Mo_fits : MethodName := ⟨R_Mo, "fits", "(IJJJ)Z"⟩
abbrev b_Mo_fund : ByteArray := prog_9_method_9_code
def y_Mo_fund : MethodName := ⟨R_Mo, "fund", "(I)I"⟩
abbrev b_Mo_give : ByteArray := prog_9_method_10_code
def y_Mo_give : MethodName := ⟨R_Mo, "give", "(IJ)I"⟩
abbrev b_Mo_order : ByteArray := prog_9_method_11_code
def y_Mo_order : MethodName := ⟨R_Mo, "order", "(IIZ)I"⟩
abbrev b_Mo_approve : ByteArray := prog_9_method_12_code
def y_Mo_approve : MethodName := ⟨R_Mo, "approve", "(II)I"⟩
abbrev b_Mo_rowOn : ByteArray := prog_9_method_13_code
def y_Mo_rowOn : MethodName := ⟨R_Mo, "rowOn", "(II)I"⟩
abbrev b_Mo_invoice : ByteArray := prog_9_method_14_code
def y_Mo_invoice : MethodName := ⟨R_Mo, "invoice", "(IIII)J"⟩
abbrev b_Mo_cancel : ByteArray := prog_9_method_15_code
def y_Mo_cancel : MethodName := ⟨R_Mo, "cancel", "(I)I"⟩
abbrev b_Mo_band : ByteArray := prog_9_method_16_code
def y_Mo_band : MethodName := ⟨R_Mo, "band", "(I)I"⟩
abbrev b_Mo_currency : ByteArray := prog_9_method_17_code
def y_Mo_currency : MethodName := ⟨R_Mo, "currency", "(IIII)I"⟩
abbrev b_Mo_transfer : ByteArray := prog_9_method_18_code
def y_Mo_transfer : MethodName := ⟨R_Mo, "transfer", "(III)I"⟩
abbrev b_Mo_agree : ByteArray := prog_9_method_19_code
def y_Mo_agree : MethodName := ⟨R_Mo, "agree", "(II)I"⟩
abbrev b_Mo_row : ByteArray := prog_9_method_20_code
def y_Mo_row : MethodName := ⟨R_Mo, "row", "(II)I"⟩
abbrev b_Mo_batched : ByteArray := prog_9_method_21_code
def y_Mo_batched : MethodName := ⟨R_Mo, "batched", "(I)J"⟩
abbrev b_Mo_post : ByteArray := prog_9_method_22_code
def y_Mo_post : MethodName := ⟨R_Mo, "post", "()I"⟩
abbrev b_Mo_failing : ByteArray := prog_9_method_23_code
def y_Mo_failing : MethodName := ⟨R_Mo, "failing", "()I"⟩
abbrev b_Mo_close : ByteArray := prog_9_method_24_code
def y_Mo_close : MethodName := ⟨R_Mo, "close", "()I"⟩
abbrev b_Mo_about : ByteArray := prog_9_method_25_code
def y_Mo_about : MethodName := ⟨R_Mo, "about", "(II)J"⟩
abbrev b_Mo_told : ByteArray := prog_9_method_26_code
def y_Mo_told : MethodName := ⟨R_Mo, "told", "(II)J"⟩
abbrev b_Mo_sum : ByteArray := prog_9_method_27_code
def y_Mo_sum : MethodName := ⟨R_Mo, "sum", "(I)J"⟩
abbrev b_Ac_init : ByteArray := prog_2_method_1_code
def y_Ac_init : MethodName := ⟨R_Ac, "<init>", "(II)V"⟩
abbrev b_Ac_free : ByteArray := prog_2_method_2_code
def y_Ac_free : MethodName := ⟨R_Ac, "free", "()J"⟩
abbrev b_Ac_hasRoomFor : ByteArray := prog_2_method_3_code
def y_Ac_hasRoomFor : MethodName := ⟨R_Ac, "hasRoomFor", "(JJJ)Z"⟩
abbrev b_Ac_carried : ByteArray := prog_2_method_4_code
def y_Ac_carried : MethodName := ⟨R_Ac, "carried", "()J"⟩
abbrev b_Ac_beginYear : ByteArray := prog_2_method_5_code
def y_Ac_beginYear : MethodName := ⟨R_Ac, "beginYear", "()V"⟩
abbrev b_Ap_init : ByteArray := prog_3_method_1_code
def y_Ap_init : MethodName := ⟨R_Ap, "<init>", "()V"⟩
abbrev b_Ap_include : ByteArray := prog_3_method_2_code
def y_Ap_include : MethodName := ⟨R_Ap, "include", "(I)Z"⟩
abbrev b_Ap_add : ByteArray := prog_3_method_3_code
def y_Ap_add : MethodName := ⟨R_Ap, "add", "(I)V"⟩
abbrev b_Ap_bitOf : ByteArray := prog_3_method_4_code
def y_Ap_bitOf : MethodName := ⟨R_Ap, "bitOf", "(I)J"⟩
abbrev b_Ba_init : ByteArray := prog_4_method_1_code
def y_Ba_init : MethodName := ⟨R_Ba, "<init>", "()V"⟩
abbrev b_Ba_isFull : ByteArray := prog_4_method_2_code
def y_Ba_isFull : MethodName := ⟨R_Ba, "isFull", "()Z"⟩
abbrev b_Ba_add : ByteArray := prog_4_method_3_code
def y_Ba_add : MethodName := ⟨R_Ba, "add", "(LFundBook$Account;I)V"⟩
abbrev b_Ba_culprit : ByteArray := prog_4_method_4_code
def y_Ba_culprit : MethodName := ⟨R_Ba, "culprit", "()LFundBook$Account;"⟩
abbrev b_Ba_empty : ByteArray := prog_4_method_5_code
def y_Ba_empty : MethodName := ⟨R_Ba, "empty", "(Z)V"⟩
abbrev b_Mv_init : ByteArray := prog_5_method_1_code
def y_Mv_init : MethodName := ⟨R_Mv, "<init>", "(LFundBook$Account;LFundBook$Account;I)V"⟩
abbrev b_Mv_happensWithOneMore : ByteArray := prog_5_method_2_code
def y_Mv_happensWithOneMore : MethodName := ⟨R_Mv, "happensWithOneMore", "()Z"⟩
abbrev b_Mv_hasRoom : ByteArray := prog_5_method_3_code
def y_Mv_hasRoom : MethodName := ⟨R_Mv, "hasRoom", "()Z"⟩
abbrev b_Mv_carryOut : ByteArray := prog_5_method_4_code
def y_Mv_carryOut : MethodName := ⟨R_Mv, "carryOut", "()V"⟩
abbrev b_Pu_init : ByteArray := prog_6_method_1_code
def y_Pu_init : MethodName := ⟨R_Pu, "<init>", "(LFundBook$Account;IZ)V"⟩
abbrev b_Pu_place : ByteArray := prog_6_method_2_code
def y_Pu_place : MethodName := ⟨R_Pu, "place", "()V"⟩
abbrev b_Pu_awaitsInvoiceIn : ByteArray := prog_6_method_3_code
def y_Pu_awaitsInvoiceIn : MethodName := ⟨R_Pu, "awaitsInvoiceIn", "(I)Z"⟩
abbrev b_Pu_isInBand : ByteArray := prog_6_method_4_code
def y_Pu_isInBand : MethodName := ⟨R_Pu, "isInBand", "(JI)Z"⟩
abbrev b_Pu_releasedByInvoice : ByteArray := prog_6_method_5_code
def y_Pu_releasedByInvoice : MethodName := ⟨R_Pu, "releasedByInvoice", "()I"⟩
abbrev b_Pu_hasRoomToPay : ByteArray := prog_6_method_6_code
def y_Pu_hasRoomToPay : MethodName := ⟨R_Pu, "hasRoomToPay", "(J)Z"⟩
abbrev b_Pu_pay : ByteArray := prog_6_method_7_code
def y_Pu_pay : MethodName := ⟨R_Pu, "pay", "(JI)V"⟩
abbrev b_Ra_init : ByteArray := prog_7_method_1_code
def y_Ra_init : MethodName := ⟨R_Ra, "<init>", "(IIILFundBook$Rate;)V"⟩
abbrev b_Ra_inHouse : ByteArray := prog_7_method_2_code
def y_Ra_inHouse : MethodName := ⟨R_Ra, "inHouse", "(I)J"⟩
abbrev b_Law_cell : ByteArray := method_2_code
def y_Law_cell : MethodName := ⟨R_Law, "cell", "([II)I"⟩
/-- the tables' words that any state keeps -/
def wG : List Cond := lw_tbl.filter goodWord
theorem wG_in {w : Cond} (i : Nat) (h : lw_tbl[i]? = some w) (g : goodWord w = true) : w ∈ wG := List.mem_filter.mpr ⟨List.mem_of_getElem? h, g⟩
theorem wG_good {w : Cond} (h : w ∈ wG) : w ∈ lw_tbl ∧ goodWord w = true := List.mem_filter.mp h
/-- the words on private members of nest mates: carried by the contracts' starts -/
def isNW : Cond → Bool
  | .fieldLinkNest _ _ _ _ _ _ => true
  | .methodLinkNest _ _ _ _ => true
  | _ => false
def wN : List Cond := lw_tbl.filter isNW
theorem wN_in {w : Cond} (i : Nat) (h : lw_tbl[i]? = some w) (g : isNW w = true) : w ∈ wN := List.mem_filter.mpr ⟨List.mem_of_getElem? h, g⟩
def NK (U : State) : Prop := ∀ w ∈ wN, va_Nw w U
theorem isNW_tab {w : Cond} (h : isNW w = true) : w.onTables = true := by
  cases w <;> first | rfl | (exact absurd h (by simp [isNW]))
theorem NK.use {U : State} {args : Array Value} {w : Cond} (h : NK U) (hw : w ∈ wN) : w.before args U = true := va_Nw.use (isNW_tab (List.mem_filter.mp hw).2) (h w hw)
theorem NK.same {u U : State} (e : u.vm = U.vm) (h : NK u) : NK U := fun w hw => va_Nw.same (isNW_tab (List.mem_filter.mp hw).2) e (h w hw)
theorem NK.warm {s U : State} (hW : s.WarmedH U.vm) (h : NK s) : NK U := by
  intro w hw
  have hz := h w hw
  have hg := (List.mem_filter.mp hw).2
  cases w <;> first | exact va_Nw.warmF hW hz | exact va_Nw.warmM hW hz | (exact absurd hg (by simp [isNW]))
theorem NK.of {args : Array Value} {s : State} (h : ∀ w ∈ lw_tbl, w.before args s = true) : NK s := fun w hw => va_Nw.of (isNW_tab (List.mem_filter.mp hw).2) (h w (List.mem_filter.mp hw).1)
abbrev w_FB_init : List Cond := .code y_FB_init b_FB_init 2 none :: wG
abbrev w_FB_fund : List Cond := .code y_FB_fund b_FB_fund 3 ((some .int)) :: wG
abbrev w_FB_give : List Cond := .code y_FB_give b_FB_give 5 ((some .int)) :: wG
abbrev w_FB_order : List Cond := .code y_FB_order b_FB_order 7 ((some .int)) :: wG
abbrev w_FB_approve : List Cond := .code y_FB_approve b_FB_approve 4 ((some .int)) :: wG
abbrev w_FB_invoice : List Cond := .code y_FB_invoice b_FB_invoice 10 ((some .long)) :: wG
abbrev w_FB_cancel : List Cond := .code y_FB_cancel b_FB_cancel 4 ((some .int)) :: wG
abbrev w_FB_band : List Cond := .code y_FB_band b_FB_band 2 ((some .int)) :: wG
abbrev w_FB_currency : List Cond := .code y_FB_currency b_FB_currency 6 ((some .int)) :: wG
abbrev w_FB_transfer : List Cond := .code y_FB_transfer b_FB_transfer 7 ((some .int)) :: wG
abbrev w_FB_agree : List Cond := .code y_FB_agree b_FB_agree 5 ((some .int)) :: wG
abbrev w_FB_row : List Cond := .code y_FB_row b_FB_row 4 ((some .int)) :: wG
abbrev w_FB_post : List Cond := .code y_FB_post b_FB_post 3 ((some .int)) :: wG
abbrev w_FB_failing : List Cond := .code y_FB_failing b_FB_failing 1 ((some .int)) :: wG
abbrev w_FB_close : List Cond := .code y_FB_close b_FB_close 5 ((some .int)) :: wG
abbrev w_FB_about : List Cond := .code y_FB_about b_FB_about 4 ((some .long)) :: wG
abbrev w_FB_told : List Cond := .code y_FB_told b_FB_told 4 ((some .long)) :: wG
abbrev w_FB_sum : List Cond := .code y_FB_sum b_FB_sum 2 ((some .long)) :: wG
abbrev w_FB_givenToAll : List Cond := .code y_FB_givenToAll b_FB_givenToAll 7 ((some .long)) :: wG
abbrev w_FB_accountAt : List Cond := .code y_FB_accountAt b_FB_accountAt 2 ((some (.object "FundBook$Account"))) :: wG
abbrev w_FB_purchaseAt : List Cond := .code y_FB_purchaseAt b_FB_purchaseAt 2 ((some (.object "FundBook$Purchase"))) :: wG
abbrev w_FB_moveAt : List Cond := .code y_FB_moveAt b_FB_moveAt 2 ((some (.object "FundBook$Move"))) :: wG
abbrev w_FB_isCurrency : List Cond := .code y_FB_isCurrency b_FB_isCurrency 2 ((some .boolean)) :: wG
abbrev w_FB_rateOn : List Cond := .code y_FB_rateOn b_FB_rateOn 4 ((some (.object "FundBook$Rate"))) :: wG
abbrev w_FB_isWithin : List Cond := .code y_FB_isWithin b_FB_isWithin 6 ((some .boolean)) :: wG
abbrev w_FB_isAmount : List Cond := .code y_FB_isAmount b_FB_isAmount 2 ((some .boolean)) :: wG
abbrev w_Mo_init : List Cond := .code y_Mo_init b_Mo_init 2 none :: wG
abbrev w_Mo_thrown : List Cond := .code y_Mo_thrown b_Mo_thrown 1 ((some .int)) :: wG
abbrev w_Mo_in : List Cond := .code y_Mo_in b_Mo_in 6 ((some .boolean)) :: wG
abbrev w_Mo_isFund : List Cond := .code y_Mo_isFund b_Mo_isFund 2 ((some .boolean)) :: wG
abbrev w_Mo_encumbered : List Cond := .code y_Mo_encumbered b_Mo_encumbered 5 ((some .long)) :: wG
abbrev w_Mo_free : List Cond := .code y_Mo_free b_Mo_free 2 ((some .long)) :: wG
abbrev w_Mo_isBound : List Cond := .code y_Mo_isBound b_Mo_isBound 2 ((some .boolean)) :: wG
abbrev w_Mo_fits : List Cond := .code y_Mo_fits b_Mo_fits 14 ((some .boolean)) :: wG
abbrev w_Mo_fund : List Cond := .code y_Mo_fund b_Mo_fund 2 ((some .int)) :: wG
abbrev w_Mo_give : List Cond := .code y_Mo_give b_Mo_give 4 ((some .int)) :: wG
abbrev w_Mo_order : List Cond := .code y_Mo_order b_Mo_order 5 ((some .int)) :: wG
abbrev w_Mo_approve : List Cond := .code y_Mo_approve b_Mo_approve 3 ((some .int)) :: wG
abbrev w_Mo_rowOn : List Cond := .code y_Mo_rowOn b_Mo_rowOn 5 ((some .int)) :: wG
abbrev w_Mo_invoice : List Cond := .code y_Mo_invoice b_Mo_invoice 10 ((some .long)) :: wG
abbrev w_Mo_cancel : List Cond := .code y_Mo_cancel b_Mo_cancel 3 ((some .int)) :: wG
abbrev w_Mo_band : List Cond := .code y_Mo_band b_Mo_band 2 ((some .int)) :: wG
abbrev w_Mo_currency : List Cond := .code y_Mo_currency b_Mo_currency 6 ((some .int)) :: wG
abbrev w_Mo_transfer : List Cond := .code y_Mo_transfer b_Mo_transfer 4 ((some .int)) :: wG
abbrev w_Mo_agree : List Cond := .code y_Mo_agree b_Mo_agree 5 ((some .int)) :: wG
abbrev w_Mo_row : List Cond := .code y_Mo_row b_Mo_row 3 ((some .int)) :: wG
abbrev w_Mo_batched : List Cond := .code y_Mo_batched b_Mo_batched 5 ((some .long)) :: wG
abbrev w_Mo_post : List Cond := .code y_Mo_post b_Mo_post 6 ((some .int)) :: wG
abbrev w_Mo_failing : List Cond := .code y_Mo_failing b_Mo_failing 1 ((some .int)) :: wG
abbrev w_Mo_close : List Cond := .code y_Mo_close b_Mo_close 6 ((some .int)) :: wG
abbrev w_Mo_about : List Cond := .code y_Mo_about b_Mo_about 3 ((some .long)) :: wG
abbrev w_Mo_told : List Cond := .code y_Mo_told b_Mo_told 3 ((some .long)) :: wG
abbrev w_Mo_sum : List Cond := .code y_Mo_sum b_Mo_sum 5 ((some .long)) :: wG
abbrev w_Ac_init : List Cond := .code y_Ac_init b_Ac_init 3 none :: wG
abbrev w_Ac_free : List Cond := .code y_Ac_free b_Ac_free 1 ((some .long)) :: wG
abbrev w_Ac_hasRoomFor : List Cond := .code y_Ac_hasRoomFor b_Ac_hasRoomFor 7 ((some .boolean)) :: wG
abbrev w_Ac_carried : List Cond := .code y_Ac_carried b_Ac_carried 3 ((some .long)) :: wG
abbrev w_Ac_beginYear : List Cond := .code y_Ac_beginYear b_Ac_beginYear 1 none :: wG
abbrev w_Ap_init : List Cond := .code y_Ap_init b_Ap_init 1 none :: wG
abbrev w_Ap_include : List Cond := .code y_Ap_include b_Ap_include 4 ((some .boolean)) :: wG
abbrev w_Ap_add : List Cond := .code y_Ap_add b_Ap_add 2 none :: wG
abbrev w_Ap_bitOf : List Cond := .code y_Ap_bitOf b_Ap_bitOf 1 ((some .long)) :: wG
abbrev w_Ba_init : List Cond := .code y_Ba_init b_Ba_init 1 none :: wG
abbrev w_Ba_isFull : List Cond := .code y_Ba_isFull b_Ba_isFull 1 ((some .boolean)) :: wG
abbrev w_Ba_add : List Cond := .code y_Ba_add b_Ba_add 3 none :: wG
abbrev w_Ba_culprit : List Cond := .code y_Ba_culprit b_Ba_culprit 6 ((some (.object "FundBook$Account"))) :: wG
abbrev w_Ba_empty : List Cond := .code y_Ba_empty b_Ba_empty 4 none :: wG
abbrev w_Mv_init : List Cond := .code y_Mv_init b_Mv_init 4 none :: wG
abbrev w_Mv_happensWithOneMore : List Cond := .code y_Mv_happensWithOneMore b_Mv_happensWithOneMore 1 ((some .boolean)) :: wG
abbrev w_Mv_hasRoom : List Cond := .code y_Mv_hasRoom b_Mv_hasRoom 1 ((some .boolean)) :: wG
abbrev w_Mv_carryOut : List Cond := .code y_Mv_carryOut b_Mv_carryOut 1 none :: wG
abbrev w_Pu_init : List Cond := .code y_Pu_init b_Pu_init 4 none :: wG
abbrev w_Pu_place : List Cond := .code y_Pu_place b_Pu_place 1 none :: wG
abbrev w_Pu_awaitsInvoiceIn : List Cond := .code y_Pu_awaitsInvoiceIn b_Pu_awaitsInvoiceIn 2 ((some .boolean)) :: wG
abbrev w_Pu_isInBand : List Cond := .code y_Pu_isInBand b_Pu_isInBand 6 ((some .boolean)) :: wG
abbrev w_Pu_releasedByInvoice : List Cond := .code y_Pu_releasedByInvoice b_Pu_releasedByInvoice 1 ((some .int)) :: wG
abbrev w_Pu_hasRoomToPay : List Cond := .code y_Pu_hasRoomToPay b_Pu_hasRoomToPay 3 ((some .boolean)) :: wG
abbrev w_Pu_pay : List Cond := .code y_Pu_pay b_Pu_pay 4 none :: wG
abbrev w_Ra_init : List Cond := .code y_Ra_init b_Ra_init 5 none :: wG
abbrev w_Ra_inHouse : List Cond := .code y_Ra_inHouse b_Ra_inHouse 2 ((some .long)) :: wG
abbrev w_Law_cell : List Cond := .code y_Law_cell b_Law_cell 2 ((some .int)) :: wG
theorem gd_c {x : Cond} {y : MethodName} {b : ByteArray} {n : Nat} {r : Option FieldType} (hc : Cond.code y b n r ∈ wG) : GoodIn (x :: wG) (Cond.code y b n r :: wG) := fun w h => (List.mem_cons.mp h).elim (fun e => e ▸ ⟨List.mem_cons_of_mem _ hc, good_of_word (wG_good hc).2⟩) (fun h => ⟨List.mem_cons_of_mem _ h, good_of_word (wG_good h).2⟩)
theorem gd_V {x : Cond} {own C : String} {idx : Nat} {y : MethodName} {b : ByteArray} {n : Nat} {r : Option FieldType} (h1 : Cond.methodLink own idx y ∈ wG) (h2 : Cond.instanceMethod y ∈ wG) (h3 : Cond.selects C y y ∈ wG) (h4 : Cond.initialized C ∈ wG) (hc : Cond.code y b n r ∈ wG) : GoodIn (x :: wG) (wsV own idx C y (Cond.code y b n r :: wG)) := by
  intro w h
  rcases List.mem_append.mp h with h | h
  · have hw : w ∈ wG := by
      simp only [List.mem_cons, List.not_mem_nil, or_false] at h
      rcases h with rfl | rfl | rfl | rfl <;> assumption
    exact ⟨List.mem_cons_of_mem _ hw, good_of_word (wG_good hw).2⟩
  · exact gd_c hc w h
theorem gd_S {x : Cond} {own : String} {idx : Nat} {y : MethodName} {b : ByteArray} {n : Nat} {r : Option FieldType} (h1 : Cond.methodLink own idx y ∈ wG) (h2 : Cond.static y ∈ wG) (h4 : Cond.initialized own ∈ wG) (hc : Cond.code y b n r ∈ wG) : GoodIn (x :: wG) (wsS own idx y (Cond.code y b n r :: wG)) := by
  intro w h
  rcases List.mem_append.mp h with h | h
  · have hw : w ∈ wG := by
      simp only [List.mem_cons, List.not_mem_nil, or_false] at h
      rcases h with rfl | rfl | rfl <;> assumption
    exact ⟨List.mem_cons_of_mem _ hw, good_of_word (wG_good hw).2⟩
  · exact gd_c hc w h
theorem iG_FB : ∀ w ∈ u_ws R_FB F_FB 11, w ∈ wG := by
  have h : u_ws R_FB F_FB 11 = ([78, 80, 82, 84, 86, 88, 90, 92, 94, 96, 98] : List Nat).filterMap (fun i => lw_tbl[i]?) := by decide +kernel
  have g : (u_ws R_FB F_FB 11).all goodWord = true := by decide +kernel
  intro w hw
  have hg := List.all_eq_true.mp g w hw
  rw [h] at hw
  obtain ⟨i, -, hi⟩ := List.mem_filterMap.mp hw
  exact wG_in i hi hg
theorem iG_Ac : ∀ w ∈ u_ws R_Ac F_Ac 6, w ∈ wG := by
  have h : u_ws R_Ac F_Ac 6 = ([128, 130, 132, 134, 136, 138] : List Nat).filterMap (fun i => lw_tbl[i]?) := by decide +kernel
  have g : (u_ws R_Ac F_Ac 6).all goodWord = true := by decide +kernel
  intro w hw
  have hg := List.all_eq_true.mp g w hw
  rw [h] at hw
  obtain ⟨i, -, hi⟩ := List.mem_filterMap.mp hw
  exact wG_in i hi hg
theorem iG_Pu : ∀ w ∈ u_ws R_Pu F_Pu 8, w ∈ wG := by
  have h : u_ws R_Pu F_Pu 8 = ([205, 207, 209, 211, 213, 215, 217, 219] : List Nat).filterMap (fun i => lw_tbl[i]?) := by decide +kernel
  have g : (u_ws R_Pu F_Pu 8).all goodWord = true := by decide +kernel
  intro w hw
  have hg := List.all_eq_true.mp g w hw
  rw [h] at hw
  obtain ⟨i, -, hi⟩ := List.mem_filterMap.mp hw
  exact wG_in i hi hg
theorem iG_Mv : ∀ w ∈ u_ws R_Mv F_Mv 5, w ∈ wG := by
  have h : u_ws R_Mv F_Mv 5 = ([350, 352, 354, 356, 358] : List Nat).filterMap (fun i => lw_tbl[i]?) := by decide +kernel
  have g : (u_ws R_Mv F_Mv 5).all goodWord = true := by decide +kernel
  intro w hw
  have hg := List.all_eq_true.mp g w hw
  rw [h] at hw
  obtain ⟨i, -, hi⟩ := List.mem_filterMap.mp hw
  exact wG_in i hi hg
theorem iG_Ap : ∀ w ∈ u_ws R_Ap F_Ap 3, w ∈ wG := by
  have h : u_ws R_Ap F_Ap 3 = ([184, 186, 188] : List Nat).filterMap (fun i => lw_tbl[i]?) := by decide +kernel
  have g : (u_ws R_Ap F_Ap 3).all goodWord = true := by decide +kernel
  intro w hw
  have hg := List.all_eq_true.mp g w hw
  rw [h] at hw
  obtain ⟨i, -, hi⟩ := List.mem_filterMap.mp hw
  exact wG_in i hi hg
theorem iG_Ra : ∀ w ∈ u_ws R_Ra F_Ra 5, w ∈ wG := by
  have h : u_ws R_Ra F_Ra 5 = ([321, 323, 325, 327, 329] : List Nat).filterMap (fun i => lw_tbl[i]?) := by decide +kernel
  have g : (u_ws R_Ra F_Ra 5).all goodWord = true := by decide +kernel
  intro w hw
  have hg := List.all_eq_true.mp g w hw
  rw [h] at hw
  obtain ⟨i, -, hi⟩ := List.mem_filterMap.mp hw
  exact wG_in i hi hg
theorem iG_Ba : ∀ w ∈ u_ws R_Ba F_Ba 3, w ∈ wG := by
  have h : u_ws R_Ba F_Ba 3 = ([54, 56, 58] : List Nat).filterMap (fun i => lw_tbl[i]?) := by decide +kernel
  have g : (u_ws R_Ba F_Ba 3).all goodWord = true := by decide +kernel
  intro w hw
  have hg := List.all_eq_true.mp g w hw
  rw [h] at hw
  obtain ⟨i, -, hi⟩ := List.mem_filterMap.mp hw
  exact wG_in i hi hg
theorem iG_Mo : ∀ w ∈ u_ws R_Mo F_Mo 31, w ∈ wG := by
  have h : u_ws R_Mo F_Mo 31 = ([554, 556, 558, 560, 562, 564, 566, 568, 570, 572, 574, 576, 578, 580, 582, 584, 586, 588, 590, 592, 594, 596, 598, 600, 602, 604, 606, 608, 610, 612, 614] : List Nat).filterMap (fun i => lw_tbl[i]?) := by decide +kernel
  have g : (u_ws R_Mo F_Mo 31).all goodWord = true := by decide +kernel
  intro w hw
  have hg := List.all_eq_true.mp g w hw
  rw [h] at hw
  obtain ⟨i, -, hi⟩ := List.mem_filterMap.mp hw
  exact wG_in i hi hg
end
section
/-! contracts of one form: a world ws at the start, a world wf u at the end -/
/-- the start of a method that only reads -/
def rd_P (D : va_G) (cl : List vw_C) (tys : List (ClassId × FieldType)) (ws : va_W) (av : List Value) : Array Value → State → Prop := va_Pc av (fun U => va_P D cl ws U.heap ∧ va_K D cl tys U ∧ NK U)
/-- the start of a method that writes or makes -/
def mu_P (D : va_G) (cl : List vw_C) (tys : List (ClassId × FieldType)) (ws : va_W) (sz : Nat) (av : List Value) : Array Value → State → Prop := va_Pc av (fun U => U.heap.size = sz ∧ va_P D cl ws U.heap ∧ va_K D cl tys U ∧ va_D (fun _ => True) ws ∧ NK U)
/-- the world behind it -/
def mu_B {S : Type} (D : va_G) (cl : List vw_C) (tys : List (ClassId × FieldType)) (A : Nat → Prop) (wf : S → va_W) (u : S) (t : State) : Prop := va_P D cl (wf u) t.heap ∧ va_K D cl tys t ∧ va_D A (wf u)
section FWA
variable {s : State} {H : Heap} {D : va_G} {cl : List vw_C} {tys : List (ClassId × FieldType)} {ws : va_W}
theorem rd_blind {av : List Value} : FrameBlind (rd_P D cl tys ws av) := fun a U g mk q => ⟨q.1, q.2.1, va_K.moved (u := U) (U := U.calling g mk a) (Vm.Alike.refl U.vm) q.2.2.1, NK.same (u := U) (U := U.calling g mk a) rfl q.2.2.2⟩
theorem mu_blind {av : List Value} {sz : Nat} : FrameBlind (mu_P D cl tys ws sz av) := fun a U g mk q => ⟨q.1, q.2.1, q.2.2.1, va_K.moved (u := U) (U := U.calling g mk a) (Vm.Alike.refl U.vm) q.2.2.2.1, q.2.2.2.2.1, NK.same (u := U) (U := U.calling g mk a) rfl q.2.2.2.2.2⟩
theorem rd_preS {av : List Value} (hK : va_K D cl tys s) (hN : NK s) (hP : va_P D cl ws H) : PreS s H (rd_P D cl tys ws av) av := ⟨rd_blind, fun U hU hW => ⟨rfl, by rw [hU]; exact hP, va_K.moved hW.alike hK, hN.warm hW⟩⟩
theorem rd_preV {As : List Value} {b ci : Nat} {q : vw_C} {fs : List Value} (q0 : Nat) (hK : va_K D cl tys s) (hN : NK s) (hP : va_P D cl ws H) (hc : cl[ci]? = some q) (he : ws[q0]? = some (b, .inr (ci, fs))) : PreV s H q.1 b (rd_P D cl tys ws (.ref b :: As)) As := ⟨rd_blind, va_recv hK hP hc he, fun U hU hW => ⟨rfl, by rw [hU]; exact hP, va_K.moved hW.alike hK, hN.warm hW⟩⟩
theorem mu_preS {av : List Value} {A : Nat → Prop} (hK : va_K D cl tys s) (hN : NK s) (hP : va_P D cl ws H) (hD : va_D A ws) : PreS s H (mu_P D cl tys ws H.size av) av := ⟨mu_blind, fun U hU hW => ⟨rfl, by rw [hU], by rw [hU]; exact hP, va_K.moved hW.alike hK, hD.weaken (fun _ _ _ _ => trivial), hN.warm hW⟩⟩
theorem mu_preV {As : List Value} {A : Nat → Prop} {b ci : Nat} {q : vw_C} {fs : List Value} (q0 : Nat) (hK : va_K D cl tys s) (hN : NK s) (hP : va_P D cl ws H) (hD : va_D A ws) (hc : cl[ci]? = some q) (he : ws[q0]? = some (b, .inr (ci, fs))) : PreV s H q.1 b (mu_P D cl tys ws H.size (.ref b :: As)) As := ⟨mu_blind, va_recv hK hP hc he, fun U hU hW => ⟨rfl, by rw [hU], by rw [hU]; exact hP, va_K.moved hW.alike hK, hD.weaken (fun _ _ _ _ => trivial), hN.warm hW⟩⟩
theorem mu_free {A : Nat → Prop} {H0 : Heap} {locs : List Loc} (hD : va_D A ws) (hS : va_S A H0 H locs) (hA : ∀ q, H0.size ≤ q → A q) : ∀ q, va_A ws H.size q → A q := by
  intro q h
  rcases h with ⟨k, e, h⟩ | h
  · exact hD.2 k (q, e) h
  · exact hA q (Nat.le_trans hS.1 h)
end FWA
section FWC
variable {p : Program} {l : Launch} {e : Env} {R : Room} {s : State} {m : MethodId} {args : Array Value} {below : List Frame} {meth : Method} {c : Code} {H : Heap} {locs : List Loc} {cells slots : Nat} {Q : State → Prop}
variable {pc : Nat} {ls : Array Slot} {rest st0 : List Value} {a : Array Value} {A : Nat → Prop} {H0 : Heap} {mc ms : Nat} {D : va_G} {cl : List vw_C} {tys : List (ClassId × FieldType)} {ws : va_W}
theorem mu_calli {S : Type} {wf : S → va_W} {post : Int32 → S → Prop} (hr : va_Run p l e R s m args below meth c H locs cells slots mc ms (F0 m pc ls st0) rest (va_Qi post (mu_B D cl tys (va_A ws H.size) wf) (va_A ws H.size) a) (va_A ws H.size)) (hD : va_D A ws) (hS : va_S A H0 H locs) (hA : ∀ q, H0.size ≤ q → A q)
    (kk : ∀ (r : Int32) (u : S) (H1 : Heap) (locs1 : List Loc), post r u → va_P D cl (wf u) H1 → va_D A (wf u) → va_S A H0 H1 locs1 → W p l e R s m args below meth c H1 locs1 (cells + mc) (slots + ms) Q (F0 m (pc + 3) ls (.int r :: rest))) : W p l e R s m args below meth c H locs cells slots Q (F0 m pc ls st0) := by
  have hF := mu_free hD hS hA
  refine va_calli hr hS (fun q _ h => hF q h) hF (fun r u t H1 locs1 ht _ hw hB _ _ hS1 => ?_)
  obtain ⟨h1, -, h3⟩ := hB
  rw [ht] at h1
  exact kk r u H1 locs1 hw h1 (h3.weaken (fun k q _ h => hF q.1 h)) hS1
theorem mu_calll {S : Type} {wf : S → va_W} {post : Int64 → S → Prop} (hr : va_Run p l e R s m args below meth c H locs cells slots mc ms (F0 m pc ls st0) rest (va_Ql post (mu_B D cl tys (va_A ws H.size) wf) (va_A ws H.size) a) (va_A ws H.size)) (hD : va_D A ws) (hS : va_S A H0 H locs) (hA : ∀ q, H0.size ≤ q → A q)
    (kk : ∀ (r : Int64) (u : S) (H1 : Heap) (locs1 : List Loc), post r u → va_P D cl (wf u) H1 → va_D A (wf u) → va_S A H0 H1 locs1 → W p l e R s m args below meth c H1 locs1 (cells + mc) (slots + ms) Q (F0 m (pc + 3) ls (.long r :: rest))) : W p l e R s m args below meth c H locs cells slots Q (F0 m pc ls st0) := by
  have hF := mu_free hD hS hA
  refine va_calll hr hS (fun q _ h => hF q h) hF (fun r u t H1 locs1 ht _ hw hB _ _ hS1 => ?_)
  obtain ⟨h1, -, h3⟩ := hB
  rw [ht] at h1
  exact kk r u H1 locs1 hw h1 (h3.weaken (fun k q _ h => hF q.1 h)) hS1
theorem mu_callv {S : Type} {wf : S → va_W} {post : S → Prop} (hr : va_Run p l e R s m args below meth c H locs cells slots mc ms (F0 m pc ls st0) rest (va_Qv post (mu_B D cl tys (va_A ws H.size) wf) (va_A ws H.size) a) (va_A ws H.size)) (hD : va_D A ws) (hS : va_S A H0 H locs) (hA : ∀ q, H0.size ≤ q → A q)
    (kk : ∀ (u : S) (H1 : Heap) (locs1 : List Loc), post u → va_P D cl (wf u) H1 → va_D A (wf u) → va_S A H0 H1 locs1 → W p l e R s m args below meth c H1 locs1 (cells + mc) (slots + ms) Q (F0 m (pc + 3) ls rest)) : W p l e R s m args below meth c H locs cells slots Q (F0 m pc ls st0) := by
  have hF := mu_free hD hS hA
  refine va_callv hr hS (fun q _ h => hF q h) hF (fun u t H1 locs1 ht _ hw hB _ _ hS1 => ?_)
  obtain ⟨h1, -, h3⟩ := hB
  rw [ht] at h1
  exact kk u H1 locs1 hw h1 (h3.weaken (fun k q _ h => hF q.1 h)) hS1
theorem rd_calli {post : Int32 → Prop} (hr : va_Run p l e R s m args below meth c H locs cells slots 0 0 (F0 m pc ls st0) rest (vp_Si post a) (fun _ => False)) (kk : ∀ r : Int32, post r → W p l e R s m args below meth c H locs cells slots Q (F0 m (pc + 3) ls (.int r :: rest))) : W p l e R s m args below meth c H locs cells slots Q (F0 m pc ls st0) := vp_callSi hr.run kk
theorem rd_calll {post : Int64 → Prop} (hr : va_Run p l e R s m args below meth c H locs cells slots 0 0 (F0 m pc ls st0) rest (vp_Sl post a) (fun _ => False)) (kk : ∀ r : Int64, post r → W p l e R s m args below meth c H locs cells slots Q (F0 m (pc + 3) ls (.long r :: rest))) : W p l e R s m args below meth c H locs cells slots Q (F0 m pc ls st0) := vp_callSl hr.run kk
theorem rd_callq {post : Option Nat → Prop} (hr : va_Run p l e R s m args below meth c H locs cells slots 0 0 (F0 m pc ls st0) rest (va_Sq post a) (fun _ => False)) (kk : ∀ r : Option Nat, post r → W p l e R s m args below meth c H locs cells slots Q (F0 m (pc + 3) ls (va_rf r :: rest))) : W p l e R s m args below meth c H locs cells slots Q (F0 m pc ls st0) := va_csq hr.run kk
end FWC
/-! fragments: a world that is one pool: addresses L, what lies there f -/
abbrev fw_w (u : List Nat × (Nat → va_E)) : va_W := va_pl u.1 u.2
theorem fw_ix {L : List Nat} {a : Nat} (f : Nat → va_E) (h : a ∈ L) : ∃ k : Nat, (va_pl L f)[k]? = some (a, f a) := va_pl_get (X := []) h
theorem fw_set {A : Nat → Prop} {L : List Nat} {f : Nat → va_E} {a k : Nat} {e : va_E} (hD : va_D A (va_pl L f)) (h : a ∈ L) (hk : (va_pl L f)[k]? = some (a, f a)) : (va_pl L f).set k (a, e) = va_pl L (va_up f a e) := va_pl_set (X := []) hD h hk
section FWG
variable {p : Program} {l : Launch} {e : Env} {R : Room} {s : State} {m : MethodId} {args : Array Value} {below : List Frame} {meth : Method} {c : Code} {H : Heap} {locs : List Loc} {cells slots : Nat} {Q : State → Prop}
variable {cc : ByteArray} {pc : Nat} {ls : Array Slot} {rest : List Value} {D : va_G} {cl : List vw_C} {A : Nat → Prop} {a : Nat} {tys : List (ClassId × FieldType)} {L : List Nat} {f : Nat → va_E} {H0 : Heap}
theorem fw_preV {As : List Value} {ci : Nat} {q : vw_C} {fs : List Value} (hK : va_K D cl tys s) (hN : NK s) (hP : va_P D cl (va_pl L f) H) (hc : cl[ci]? = some q) (ha : a ∈ L) (he : f a = .inr (ci, fs)) : PreV s H q.1 a (rd_P D cl tys (va_pl L f) (.ref a :: As)) As := by
  obtain ⟨q0, hq⟩ := fw_ix f ha
  rw [he] at hq
  exact rd_preV q0 hK hN hP hc hq
theorem fw_mreV {As : List Value} {ci : Nat} {q : vw_C} {fs : List Value} (hK : va_K D cl tys s) (hN : NK s) (hP : va_P D cl (va_pl L f) H) (hD : va_D A (va_pl L f)) (hc : cl[ci]? = some q) (ha : a ∈ L) (he : f a = .inr (ci, fs)) : PreV s H q.1 a (mu_P D cl tys (va_pl L f) H.size (.ref a :: As)) As := by
  obtain ⟨q0, hq⟩ := fw_ix f ha
  rw [he] at hq
  exact mu_preV q0 hK hN hP hD hc hq
theorem fw_get (hexec : p.tables.exec = Jvm.exec) (hb : c.code = cc) {own ref C : String} {T : u_T} {N ci index : Nat} {Ts : List Cond} (hts : ∀ w ∈ Ts, w.before args s = true) (hin : ∀ w ∈ u_ws C T N, w ∈ Ts) (hown : s.vm.findClass own = some m.cls) (hK : va_K D cl tys s) (hP : va_P D cl (va_pl L f) H) (ha : a ∈ L) {fs : List Value} (he : f a = .inr (ci, fs)) (hc : cl[ci]? = some (C, T, N)) (k : Nat) (hk : k < N) (hlink : (Cond.fieldLink own index ref (T k).2.1 (T k).2.2.1).before args s = true) (hsame : ∀ x, s.fieldFound? (T k).1 (T k).2.1 (T k).2.2.1 = some x → s.fieldFound? ref (T k).2.1 (T k).2.2.1 = some x) {v : Value} (hv : fs[k]? = some v) (hdg : decode cc pc = .ok (.getfield index, 3))
    (kk : W p l e R s m args below meth c H locs cells slots Q (F0 m (pc + 3) ls (v :: rest))) : W p l e R s m args below meth c H locs cells slots Q (F0 m pc ls (.ref a :: rest)) := by
  obtain ⟨q0, hq⟩ := fw_ix f ha
  rw [he] at hq
  exact va_get hexec hb hts hin hown hK hP q0 hq hc k hk hlink hsame hv hdg kk
theorem fw_getN (hexec : p.tables.exec = Jvm.exec) (hb : c.code = cc) {own ref C host : String} {T : u_T} {N ci index : Nat} {Ts : List Cond} (hts : ∀ w ∈ Ts, w.before args s = true) (hin : ∀ w ∈ u_ws C T N, w ∈ Ts) (hown : s.vm.findClass own = some m.cls) (hK : va_K D cl tys s) (hP : va_P D cl (va_pl L f) H) (ha : a ∈ L) {fs : List Value} (he : f a = .inr (ci, fs)) (hc : cl[ci]? = some (C, T, N)) (k : Nat) (hk : k < N) (hlink : (Cond.fieldLinkNest own index ref (T k).2.1 (T k).2.2.1 host).before args s = true) (hsame : ∀ x, s.fieldFound? (T k).1 (T k).2.1 (T k).2.2.1 = some x → s.fieldFound? ref (T k).2.1 (T k).2.2.1 = some x) {v : Value} (hv : fs[k]? = some v) (hdg : decode cc pc = .ok (.getfield index, 3))
    (kk : W p l e R s m args below meth c H locs cells slots Q (F0 m (pc + 3) ls (v :: rest))) : W p l e R s m args below meth c H locs cells slots Q (F0 m pc ls (.ref a :: rest)) := by
  obtain ⟨q0, hq⟩ := fw_ix f ha
  rw [he] at hq
  exact va_getN hexec hb hts hin hown hK hP q0 hq hc k hk hlink hsame hv hdg kk
theorem fw_put (hexec : p.tables.exec = Jvm.exec) (hb : c.code = cc) {own ref C : String} {T : u_T} {N ci index : Nat} {Ts : List Cond} (hts : ∀ w ∈ Ts, w.before args s = true) (hin : ∀ w ∈ u_ws C T N, w ∈ Ts) (ty0 : Nat → FieldType) (hty : ∀ k, k < N → parseFieldDescriptor (T k).2.2.1 = some (ty0 k)) (hnm : ∀ a, a < N → ∀ b, b < N → a ≠ b → (T a).2.1 ≠ (T b).2.1) (hown : s.vm.findClass own = some m.cls) (hK : va_K D cl tys s) (hP : va_P D cl (va_pl L f) H) (hD : va_D A (va_pl L f)) (hS0 : va_S A H0 H locs) (ha : a ∈ L) {fs : List Value} (he : f a = .inr (ci, fs)) (hc : cl[ci]? = some (C, T, N)) (k : Nat) (hk : k < N) (hlink : (Cond.fieldLink own index ref (T k).2.1 (T k).2.2.1).before args s = true) (hsame : ∀ x, s.fieldFound? (T k).1 (T k).2.1 (T k).2.2.1 = some x → s.fieldFound? ref (T k).2.1 (T k).2.2.1 = some x) (hfin : (T k).2.2.2 = false) {ty : FieldType} {v : Value} (hd : parseFieldDescriptor (T k).2.2.1 = some ty) (hn : narrow ty v = v) (hfit : fits ty v = true) (hl : k < fs.length)
    (hdg : decode cc pc = .ok (.putfield index, 3)) (kk : ∀ (H1 : Heap) (locs1 : List Loc), va_P D cl (va_pl L (va_up f a (.inr (ci, fs.set k v)))) H1 → va_D A (va_pl L (va_up f a (.inr (ci, fs.set k v)))) → va_S A H0 H1 locs1 → W p l e R s m args below meth c H1 locs1 cells slots Q (F0 m (pc + 3) ls rest)) : W p l e R s m args below meth c H locs cells slots Q (F0 m pc ls (v :: .ref a :: rest)) := by
  obtain ⟨q0, hq⟩ := fw_ix f ha
  have hq' := hq
  rw [he] at hq'
  refine va_put hexec hb hts hin ty0 hty hnm hown hK hP hD hS0 q0 hq' hc k hk hlink hsame hfin hd hn hfit hl hdg (fun H1 locs1 h1 h2 h3 => ?_)
  rw [fw_set hD ha hq] at h1 h2
  exact kk H1 locs1 h1 h2 h3
theorem fw_putN (hexec : p.tables.exec = Jvm.exec) (hb : c.code = cc) {own ref C host : String} {T : u_T} {N ci index : Nat} {Ts : List Cond} (hts : ∀ w ∈ Ts, w.before args s = true) (hin : ∀ w ∈ u_ws C T N, w ∈ Ts) (ty0 : Nat → FieldType) (hty : ∀ k, k < N → parseFieldDescriptor (T k).2.2.1 = some (ty0 k)) (hnm : ∀ a, a < N → ∀ b, b < N → a ≠ b → (T a).2.1 ≠ (T b).2.1) (hown : s.vm.findClass own = some m.cls) (hK : va_K D cl tys s) (hP : va_P D cl (va_pl L f) H) (hD : va_D A (va_pl L f)) (hS0 : va_S A H0 H locs) (ha : a ∈ L) {fs : List Value} (he : f a = .inr (ci, fs)) (hc : cl[ci]? = some (C, T, N)) (k : Nat) (hk : k < N) (hlink : (Cond.fieldLinkNest own index ref (T k).2.1 (T k).2.2.1 host).before args s = true) (hsame : ∀ x, s.fieldFound? (T k).1 (T k).2.1 (T k).2.2.1 = some x → s.fieldFound? ref (T k).2.1 (T k).2.2.1 = some x) (hfin : (T k).2.2.2 = false) {ty : FieldType} {v : Value} (hd : parseFieldDescriptor (T k).2.2.1 = some ty) (hn : narrow ty v = v) (hfit : fits ty v = true) (hl : k < fs.length)
    (hdg : decode cc pc = .ok (.putfield index, 3)) (kk : ∀ (H1 : Heap) (locs1 : List Loc), va_P D cl (va_pl L (va_up f a (.inr (ci, fs.set k v)))) H1 → va_D A (va_pl L (va_up f a (.inr (ci, fs.set k v)))) → va_S A H0 H1 locs1 → W p l e R s m args below meth c H1 locs1 cells slots Q (F0 m (pc + 3) ls rest)) : W p l e R s m args below meth c H locs cells slots Q (F0 m pc ls (v :: .ref a :: rest)) := by
  obtain ⟨q0, hq⟩ := fw_ix f ha
  have hq' := hq
  rw [he] at hq'
  refine va_putN hexec hb hts hin ty0 hty hnm hown hK hP hD hS0 q0 hq' hc k hk hlink hsame hfin hd hn hfit hl hdg (fun H1 locs1 h1 h2 h3 => ?_)
  rw [fw_set hD ha hq] at h1 h2
  exact kk H1 locs1 h1 h2 h3
theorem fw_putF (hexec : p.tables.exec = Jvm.exec) (hb : c.code = cc) {own ref C : String} {T : u_T} {N ci index : Nat} {Ts : List Cond} (hts : ∀ w ∈ Ts, w.before args s = true) (hin : ∀ w ∈ u_ws C T N, w ∈ Ts) (ty0 : Nat → FieldType) (hty : ∀ k, k < N → parseFieldDescriptor (T k).2.2.1 = some (ty0 k)) (hnm : ∀ a, a < N → ∀ b, b < N → a ≠ b → (T a).2.1 ≠ (T b).2.1) (hown : s.vm.findClass own = some m.cls) (hK : va_K D cl tys s) (hP : va_P D cl (va_pl L f) H) (hD : va_D A (va_pl L f)) (hS0 : va_S A H0 H locs) (ha : a ∈ L) {fs : List Value} (he : f a = .inr (ci, fs)) (hc : cl[ci]? = some (C, T, N)) (k : Nat) (hk : k < N) (hlink : (Cond.fieldLink own index ref (T k).2.1 (T k).2.2.1).before args s = true) (hsame : ∀ x, s.fieldFound? (T k).1 (T k).2.1 (T k).2.2.1 = some x → s.fieldFound? ref (T k).2.1 (T k).2.2.1 = some x) (hfin : (T k).2.2.2 = true) (hin2 : meth.name = "<init>") (hdecl : (T k).1 = own) {ty : FieldType} {v : Value} (hd : parseFieldDescriptor (T k).2.2.1 = some ty) (hn : narrow ty v = v) (hfit : fits ty v = true) (hl : k < fs.length)
    (hdg : decode cc pc = .ok (.putfield index, 3)) (kk : ∀ (H1 : Heap) (locs1 : List Loc), va_P D cl (va_pl L (va_up f a (.inr (ci, fs.set k v)))) H1 → va_D A (va_pl L (va_up f a (.inr (ci, fs.set k v)))) → va_S A H0 H1 locs1 → W p l e R s m args below meth c H1 locs1 cells slots Q (F0 m (pc + 3) ls rest)) : W p l e R s m args below meth c H locs cells slots Q (F0 m pc ls (v :: .ref a :: rest)) := by
  obtain ⟨q0, hq⟩ := fw_ix f ha
  have hq' := hq
  rw [he] at hq'
  refine va_putF hexec hb hts hin ty0 hty hnm hown hK hP hD hS0 q0 hq' hc k hk hlink hsame hfin hin2 hdecl hd hn hfit hl hdg (fun H1 locs1 h1 h2 h3 => ?_)
  rw [fw_set hD ha hq] at h1 h2
  exact kk H1 locs1 h1 h2 h3
theorem fw_new {own C : String} {T : u_T} {N ci index : Nat} {Ts : List Cond} (hexec : p.tables.exec = Jvm.exec) (hb : c.code = cc) (hts : ∀ w ∈ Ts, w.before args s = true) (hin : ∀ w ∈ u_ws C T N, w ∈ Ts) (ty : Nat → FieldType) (hty : ∀ k, k < N → parseFieldDescriptor (T k).2.2.1 = some (ty k)) (hown : s.vm.findClass own = some m.cls) (hcl : (Cond.classLink own index C).before args s = true) (hinst : (Cond.instantiable C N).before args s = true) (hini : (Cond.initialized C).before args s = true)
    (hK : va_K D cl tys s) (hP : va_P D cl (va_pl L f) H) (hD : va_D A (va_pl L f)) (hS : va_S A H0 H locs) (hA : ∀ q, H0.size ≤ q → A q) (hc : cl[ci]? = some (C, T, N)) {fs : List Value} (hfs : ∀ j, j < N → defaultValue (ty j) = vp_V fs j) (hcells : cells + 1 ≤ R.cells) (hslots : slots + N ≤ R.slots) (hdg : decode cc pc = .ok (.new index, 3))
    (kk : ∀ (q : Nat) (H1 : Heap), q ∉ L → va_P D cl (va_pl (L ++ [q]) (va_up f q (.inr (ci, fs)))) H1 → va_D A (va_pl (L ++ [q]) (va_up f q (.inr (ci, fs)))) → va_S A H0 H1 locs →
      W p l e R s m args below meth c H1 locs (cells + 1) (slots + N) Q (F0 m (pc + 3) ls (.ref q :: rest))) : W p l e R s m args below meth c H locs cells slots Q (F0 m pc ls rest) := by
  refine va_new hexec hb hts hin ty hty hown hcl hinst hini hK hP hD hS hA hc hfs hcells hslots hdg (fun q H1 h1 h2 h3 => ?_)
  have hq : q ∉ L := va_pl_fresh2 (X := []) h2
  rw [va_pl_push hq] at h1 h2
  exact kk q H1 hq h1 h2 h3
theorem fw_newq (hexec : p.tables.exec = Jvm.exec) (hb : c.code = cc) {own C : String} {index : Nat} (hown : s.vm.findClass own = some m.cls) (hclink : (Cond.classLink own index C).before args s = true) (hover : va_AO C s) (hK : va_K D cl tys s) (hP : va_P D cl (va_pl L f) H) (hD : va_D A (va_pl L f)) (hS : va_S A H0 H locs) (hA : ∀ q, H0.size ≤ q → A q)
    {n : Int32} {N' : Nat} (hn : ¬ n < 0) (hN : n.toNatClampNeg = N') (hbytes : N' * 4 ≤ 536870912) (hcells : cells + 1 ≤ R.cells) (hslots : slots + N' ≤ R.slots) (hdg : decode cc pc = .ok (.anewarray index, 3))
    (kk : ∀ (q : Nat) (cA : ClassId) (H1 : Heap), q ∉ L → va_K D cl (tys ++ [(cA, .object C)]) s → va_P D cl (va_pl (L ++ [q]) (va_up f q (.inl (cA, N', .inr (.inr (.inr (.inr (fun _ => none)))))))) H1 → va_D A (va_pl (L ++ [q]) (va_up f q (.inl (cA, N', .inr (.inr (.inr (.inr (fun _ => none)))))))) → va_S A H0 H1 locs →
      W p l e R s m args below meth c H1 locs (cells + 1) (slots + N') Q (F0 m (pc + 3) ls (.ref q :: rest))) : W p l e R s m args below meth c H locs cells slots Q (F0 m pc ls (.int n :: rest)) := by
  refine va_newq hexec hb hown hclink hover hK hP hD hS hA hn hN hbytes hcells hslots hdg (fun q cA H1 h0 h1 h2 h3 => ?_)
  have hq : q ∉ L := va_pl_fresh2 (X := []) h2
  rw [va_pl_push hq] at h1 h2
  exact kk q cA H1 hq h0 h1 h2 h3
theorem fw_ald (hexec : p.tables.exec = Jvm.exec) (hb : c.code = cc) (hK : va_K D cl tys s) (hP : va_P D cl (va_pl L f) H) (ha : a ∈ L) (t0 : Nat) {cA : ClassId} {C : String} {n : Nat} {g : Nat → Option Nat} (he : f a = .inl (cA, n, .inr (.inr (.inr (.inr g))))) (ht : tys[t0]? = some (cA, .object C)) {i : Int32} (hin : vp_in i n) (hdg : decode cc pc = .ok (.aaload, 1))
    (kk : W p l e R s m args below meth c H locs cells slots Q (F0 m (pc + 1) ls (va_rf (g i.toNatClampNeg) :: rest))) : W p l e R s m args below meth c H locs cells slots Q (F0 m pc ls (.int i :: .ref a :: rest)) := by
  obtain ⟨q0, hq⟩ := fw_ix f ha
  rw [he] at hq
  exact va_aldq hexec hb hK hP q0 t0 hq ht hin hdg kk
theorem fw_alen (hexec : p.tables.exec = Jvm.exec) (hb : c.code = cc) (hK : va_K D cl tys s) (hP : va_P D cl (va_pl L f) H) (ha : a ∈ L) (t0 : Nat) {cA : ClassId} {x : vp_A} (he : f a = .inl (cA, x)) {ty : FieldType} (ht : tys[t0]? = some (cA, ty)) {v : Int32} (hv : Int32.ofNat x.1 = v) (hdg : decode cc pc = .ok (.arraylength, 1))
    (kk : W p l e R s m args below meth c H locs cells slots Q (F0 m (pc + 1) ls (.int v :: rest))) : W p l e R s m args below meth c H locs cells slots Q (F0 m pc ls (.ref a :: rest)) := by
  obtain ⟨q0, hq⟩ := fw_ix f ha
  rw [he] at hq
  exact va_alen hexec hb hK hP q0 t0 hq ht hv hdg kk
theorem fw_ast (hexec : p.tables.exec = Jvm.exec) (hb : c.code = cc) (hK : va_K D cl tys s) (hP : va_P D cl (va_pl L f) H) (hD : va_D A (va_pl L f)) (hS : va_S A H0 H locs) (ha : a ∈ L) (t0 : Nat) {ci : Nat} {cA : ClassId} {r : vw_C} {n v : Nat} {vs : List Value} {g : Nat → Option Nat} (he : f a = .inl (cA, n, .inr (.inr (.inr (.inr g))))) (ht : tys[t0]? = some (cA, .object r.1)) (hv : v ∈ L) (hve : f v = .inr (ci, vs)) (hc : cl[ci]? = some r) {i : Int32} (hin : vp_in i n) (hdg : decode cc pc = .ok (.aastore, 1))
    (kk : ∀ (H1 : Heap) (locs1 : List Loc), va_P D cl (va_pl L (va_up f a (.inl (cA, n, .inr (.inr (.inr (.inr (va_up g i.toNatClampNeg (some v))))))))) H1 → va_D A (va_pl L (va_up f a (.inl (cA, n, .inr (.inr (.inr (.inr (va_up g i.toNatClampNeg (some v))))))))) → va_S A H0 H1 locs1 → W p l e R s m args below meth c H1 locs1 cells slots Q (F0 m (pc + 1) ls rest)) : W p l e R s m args below meth c H locs cells slots Q (F0 m pc ls (.ref v :: .int i :: .ref a :: rest)) := by
  obtain ⟨q0, hq⟩ := fw_ix f ha
  obtain ⟨qk, hqk⟩ := fw_ix f hv
  have hq' := hq
  rw [he] at hq'
  rw [hve] at hqk
  refine va_astq hexec hb hK hP hD hS q0 t0 qk ci hq' ht hqk hc hin hdg (fun H1 locs1 h1 h2 h3 => ?_)
  rw [fw_set hD ha hq] at h1 h2
  exact kk H1 locs1 h1 h2 h3
theorem fw_astN (hexec : p.tables.exec = Jvm.exec) (hb : c.code = cc) (hK : va_K D cl tys s) (hP : va_P D cl (va_pl L f) H) (hD : va_D A (va_pl L f)) (hS : va_S A H0 H locs) (ha : a ∈ L) (t0 : Nat) {cA : ClassId} {C : String} {n : Nat} {g : Nat → Option Nat} (he : f a = .inl (cA, n, .inr (.inr (.inr (.inr g))))) (ht : tys[t0]? = some (cA, .object C)) {i : Int32} (hin : vp_in i n) (hdg : decode cc pc = .ok (.aastore, 1))
    (kk : ∀ (H1 : Heap) (locs1 : List Loc), va_P D cl (va_pl L (va_up f a (.inl (cA, n, .inr (.inr (.inr (.inr (va_up g i.toNatClampNeg none)))))))) H1 → va_D A (va_pl L (va_up f a (.inl (cA, n, .inr (.inr (.inr (.inr (va_up g i.toNatClampNeg none)))))))) → va_S A H0 H1 locs1 → W p l e R s m args below meth c H1 locs1 cells slots Q (F0 m (pc + 1) ls rest)) : W p l e R s m args below meth c H locs cells slots Q (F0 m pc ls (.null :: .int i :: .ref a :: rest)) := by
  obtain ⟨q0, hq⟩ := fw_ix f ha
  have hq' := hq
  rw [he] at hq'
  refine va_astqN hexec hb hK hP hD hS q0 t0 hq' ht hin hdg (fun H1 locs1 h1 h2 h3 => ?_)
  rw [fw_set hD ha hq] at h1 h2
  exact kk H1 locs1 h1 h2 h3
end FWG
theorem fw_same {L : List Nat} {f g : Nat → va_E} (h : ∀ z, f z = g z) : (L, f) = (L, g) := by rw [show f = g from funext h]
end
section
/-! further rows: booleans, comparisons of longs in one row, indices that are naturals -/
def bI (b : Bool) : Int32 := match b with
  | true => 1
  | false => 0
theorem bI_nar (b : Bool) : narrow .boolean (.int (bI b)) = .int (bI b) := by cases b <;> rfl
theorem bI_fit (b : Bool) : fits .boolean (.int (bI b)) = true := by cases b <;> rfl
theorem rf_fit (r : Option Nat) (C : String) : fits (.object C) (va_rf r) = true := by cases r <;> rfl
theorem rf_nar (r : Option Nat) (C : String) : narrow (.object C) (va_rf r) = va_rf r := by cases r <;> rfl
def fw_ci : va_E → Nat
  | .inl _ => 0
  | .inr o => o.1 + 1
theorem fw_ne {f : Nat → va_E} {a b : Nat} {x y : va_E} (ha : f a = x) (hb : f b = y) (h : fw_ci x ≠ fw_ci y) : a ≠ b := fun q => h (by rw [← ha, ← hb, q])
def iw (v lo hi : Int64) : Bool := !decide (v < lo) && !decide (hi < v)
section RWA
variable {p : Program} {l : Launch} {e : Env} {R : Room} {s : State} {m : MethodId} {args : Array Value} {below : List Frame} {meth : Method} {c : Code} {H : Heap} {locs : List Loc} {cells slots : Nat} {Q : State → Prop}
variable {cc : ByteArray} {pc : Nat} {ls : Array Slot} {rest : List Value}
theorem lv_topI {x y : Int32} (h : x = y) (k : W p l e R s m args below meth c H locs cells slots Q (F0 m pc ls (.int y :: rest))) : W p l e R s m args below meth c H locs cells slots Q (F0 m pc ls (.int x :: rest)) := h ▸ k
theorem lv_topL {x y : Int64} (h : x = y) (k : W p l e R s m args below meth c H locs cells slots Q (F0 m pc ls (.long y :: rest))) : W p l e R s m args below meth c H locs cells slots Q (F0 m pc ls (.long x :: rest)) := h ▸ k
theorem lb_if_eq (hexec : p.tables.exec = Jvm.exec) (hb : c.code = cc) {x : Bool} {off : Int} {tgt : Nat} (hdg : decode cc pc = .ok (.ifCond .eq off, 3)) (ht : (pc : Int) + off = (tgt : Int))
    (kt : x = false → W p l e R s m args below meth c H locs cells slots Q (F0 m tgt ls rest)) (kf : x = true → W p l e R s m args below meth c H locs cells slots Q (F0 m (pc + 3) ls rest)) : W p l e R s m args below meth c H locs cells slots Q (F0 m pc ls (.int (bI x) :: rest)) := by
  refine lv_if_eq hexec hb hdg ht (fun h => kt ?_) (fun h => kf ?_)
  · cases x with
    | false => rfl
    | true => exact absurd h (by decide)
  · cases x with
    | false => exact absurd rfl h
    | true => rfl
theorem lb_if_ne (hexec : p.tables.exec = Jvm.exec) (hb : c.code = cc) {x : Bool} {off : Int} {tgt : Nat} (hdg : decode cc pc = .ok (.ifCond .ne off, 3)) (ht : (pc : Int) + off = (tgt : Int))
    (kt : x = true → W p l e R s m args below meth c H locs cells slots Q (F0 m tgt ls rest)) (kf : x = false → W p l e R s m args below meth c H locs cells slots Q (F0 m (pc + 3) ls rest)) : W p l e R s m args below meth c H locs cells slots Q (F0 m pc ls (.int (bI x) :: rest)) := by
  refine lv_if_ne hexec hb hdg ht (fun h => kt ?_) (fun h => kf ?_)
  · cases x with
    | false => exact absurd rfl h
    | true => rfl
  · cases x with
    | false => rfl
    | true => exact absurd h (by decide)
theorem lc_lt (hexec : p.tables.exec = Jvm.exec) (hb : c.code = cc) {x y : Int64} {off : Int} {tgt : Nat} (d1 : decode cc pc = .ok (.lcmp, 1)) (d2 : decode cc (pc + 1) = .ok (.ifCond .lt off, 3)) (ht : ((pc + 1 : Nat) : Int) + off = (tgt : Int))
    (kt : x < y → W p l e R s m args below meth c H locs cells slots Q (F0 m tgt ls rest)) (kf : ¬ x < y → W p l e R s m args below meth c H locs cells slots Q (F0 m (pc + 1 + 3) ls rest)) : W p l e R s m args below meth c H locs cells slots Q (F0 m pc ls (.long y :: .long x :: rest)) :=
  W.lcmp hexec hb d1 (lv_if_lt hexec hb d2 ht (fun h => kt ((lg_cmp_lt x y).mp h)) (fun h => kf (fun q => h ((lg_cmp_lt x y).mpr q))))
theorem lc_ge (hexec : p.tables.exec = Jvm.exec) (hb : c.code = cc) {x y : Int64} {off : Int} {tgt : Nat} (d1 : decode cc pc = .ok (.lcmp, 1)) (d2 : decode cc (pc + 1) = .ok (.ifCond .ge off, 3)) (ht : ((pc + 1 : Nat) : Int) + off = (tgt : Int))
    (kt : y ≤ x → W p l e R s m args below meth c H locs cells slots Q (F0 m tgt ls rest)) (kf : ¬ y ≤ x → W p l e R s m args below meth c H locs cells slots Q (F0 m (pc + 1 + 3) ls rest)) : W p l e R s m args below meth c H locs cells slots Q (F0 m pc ls (.long y :: .long x :: rest)) :=
  W.lcmp hexec hb d1 (lv_if_ge hexec hb d2 ht (fun h => kt ((lg_cmp_ge x y).mp h)) (fun h => kf (fun q => h ((lg_cmp_ge x y).mpr q))))
theorem lc_gt (hexec : p.tables.exec = Jvm.exec) (hb : c.code = cc) {x y : Int64} {off : Int} {tgt : Nat} (d1 : decode cc pc = .ok (.lcmp, 1)) (d2 : decode cc (pc + 1) = .ok (.ifCond .gt off, 3)) (ht : ((pc + 1 : Nat) : Int) + off = (tgt : Int))
    (kt : y < x → W p l e R s m args below meth c H locs cells slots Q (F0 m tgt ls rest)) (kf : ¬ y < x → W p l e R s m args below meth c H locs cells slots Q (F0 m (pc + 1 + 3) ls rest)) : W p l e R s m args below meth c H locs cells slots Q (F0 m pc ls (.long y :: .long x :: rest)) :=
  W.lcmp hexec hb d1 (lv_if_gt hexec hb d2 ht (fun h => kt ((lg_cmp_gt x y).mp h)) (fun h => kf (fun q => h ((lg_cmp_gt x y).mpr q))))
theorem lc_le (hexec : p.tables.exec = Jvm.exec) (hb : c.code = cc) {x y : Int64} {off : Int} {tgt : Nat} (d1 : decode cc pc = .ok (.lcmp, 1)) (d2 : decode cc (pc + 1) = .ok (.ifCond .le off, 3)) (ht : ((pc + 1 : Nat) : Int) + off = (tgt : Int))
    (kt : x ≤ y → W p l e R s m args below meth c H locs cells slots Q (F0 m tgt ls rest)) (kf : ¬ x ≤ y → W p l e R s m args below meth c H locs cells slots Q (F0 m (pc + 1 + 3) ls rest)) : W p l e R s m args below meth c H locs cells slots Q (F0 m pc ls (.long y :: .long x :: rest)) :=
  W.lcmp hexec hb d1 (lv_if_le hexec hb d2 ht (fun h => kt ((lg_cmp_le x y).mp h)) (fun h => kf (fun q => h ((lg_cmp_le x y).mpr q))))
theorem lc_eq (hexec : p.tables.exec = Jvm.exec) (hb : c.code = cc) {x y : Int64} {off : Int} {tgt : Nat} (d1 : decode cc pc = .ok (.lcmp, 1)) (d2 : decode cc (pc + 1) = .ok (.ifCond .eq off, 3)) (ht : ((pc + 1 : Nat) : Int) + off = (tgt : Int))
    (kt : x = y → W p l e R s m args below meth c H locs cells slots Q (F0 m tgt ls rest)) (kf : ¬ x = y → W p l e R s m args below meth c H locs cells slots Q (F0 m (pc + 1 + 3) ls rest)) : W p l e R s m args below meth c H locs cells slots Q (F0 m pc ls (.long y :: .long x :: rest)) :=
  W.lcmp hexec hb d1 (lv_if_eq hexec hb d2 ht (fun h => kt ((lg_cmp_eq x y).mp h)) (fun h => kf (fun q => h ((lg_cmp_eq x y).mpr q))))
theorem lc_ne (hexec : p.tables.exec = Jvm.exec) (hb : c.code = cc) {x y : Int64} {off : Int} {tgt : Nat} (d1 : decode cc pc = .ok (.lcmp, 1)) (d2 : decode cc (pc + 1) = .ok (.ifCond .ne off, 3)) (ht : ((pc + 1 : Nat) : Int) + off = (tgt : Int))
    (kt : ¬ x = y → W p l e R s m args below meth c H locs cells slots Q (F0 m tgt ls rest)) (kf : x = y → W p l e R s m args below meth c H locs cells slots Q (F0 m (pc + 1 + 3) ls rest)) : W p l e R s m args below meth c H locs cells slots Q (F0 m pc ls (.long y :: .long x :: rest)) :=
  W.lcmp hexec hb d1 (lv_if_ne hexec hb d2 ht (fun h => kt (fun q => h ((lg_cmp_eq x y).mpr q))) (fun h => kf ((lg_cmp_eq x y).mp h)))
variable {D : va_G} {cl : List vw_C} {A : Nat → Prop} {a : Nat} {tys : List (ClassId × FieldType)} {ws : va_W} {H0 : Heap}
theorem ra_iald (hexec : p.tables.exec = Jvm.exec) (hb : c.code = cc) (hK : va_K D cl tys s) (hP : va_P D cl ws H) (q0 t0 : Nat) {cA : ClassId} {n j : Nat} {f : Nat → Int32} (ha : ws[q0]? = some (a, .inl (cA, n, .inl f))) (ht : tys[t0]? = some (cA, .int)) (hj : j < n) (hn : n < 2 ^ 31) (hdg : decode cc pc = .ok (.iaload, 1))
    (kk : W p l e R s m args below meth c H locs cells slots Q (F0 m (pc + 1) ls (.int (f j) :: rest))) : W p l e R s m args below meth c H locs cells slots Q (F0 m pc ls (.int (nI j) :: .ref a :: rest)) :=
  va_iald hexec hb hK hP q0 t0 ha ht (vp_in_nI hj hn) hdg (by rw [nI_clamp (Nat.lt_trans hj hn)]; exact kk)
theorem ra_zald (hexec : p.tables.exec = Jvm.exec) (hb : c.code = cc) (hK : va_K D cl tys s) (hP : va_P D cl ws H) (q0 t0 : Nat) {cA : ClassId} {n j : Nat} {f : Nat → Int32} (ha : ws[q0]? = some (a, .inl (cA, n, .inl f))) (ht : tys[t0]? = some (cA, .boolean)) (hj : j < n) (hn : n < 2 ^ 31) (hdg : decode cc pc = .ok (.baload, 1))
    (kk : W p l e R s m args below meth c H locs cells slots Q (F0 m (pc + 1) ls (.int (f j) :: rest))) : W p l e R s m args below meth c H locs cells slots Q (F0 m pc ls (.int (nI j) :: .ref a :: rest)) :=
  va_zald hexec hb hK hP q0 t0 ha ht (vp_in_nI hj hn) hdg (by rw [nI_clamp (Nat.lt_trans hj hn)]; exact kk)
theorem ra_lald (hexec : p.tables.exec = Jvm.exec) (hb : c.code = cc) (hK : va_K D cl tys s) (hP : va_P D cl ws H) (q0 t0 : Nat) {cA : ClassId} {n j : Nat} {f : Nat → Int64} (ha : ws[q0]? = some (a, .inl (cA, n, .inr (.inl f)))) (ht : tys[t0]? = some (cA, .long)) (hj : j < n) (hn : n < 2 ^ 31) (hdg : decode cc pc = .ok (.laload, 1))
    (kk : W p l e R s m args below meth c H locs cells slots Q (F0 m (pc + 1) ls (.long (f j) :: rest))) : W p l e R s m args below meth c H locs cells slots Q (F0 m pc ls (.int (nI j) :: .ref a :: rest)) :=
  va_lald hexec hb hK hP q0 t0 ha ht (vp_in_nI hj hn) hdg (by rw [nI_clamp (Nat.lt_trans hj hn)]; exact kk)
theorem ra_iast (hexec : p.tables.exec = Jvm.exec) (hb : c.code = cc) (hK : va_K D cl tys s) (hP : va_P D cl ws H) (hD : va_D A ws) (hS : va_S A H0 H locs) (q0 t0 : Nat) {cA : ClassId} {n j : Nat} {f : Nat → Int32} (ha : ws[q0]? = some (a, .inl (cA, n, .inl f))) (ht : tys[t0]? = some (cA, .int)) {x : Int32} (hj : j < n) (hn : n < 2 ^ 31) (hdg : decode cc pc = .ok (.iastore, 1))
    (kk : ∀ (H1 : Heap) (locs1 : List Loc), va_P D cl (ws.set q0 (a, .inl (cA, n, .inl (va_up f j x)))) H1 → va_D A (ws.set q0 (a, .inl (cA, n, .inl (va_up f j x)))) → va_S A H0 H1 locs1 → W p l e R s m args below meth c H1 locs1 cells slots Q (F0 m (pc + 1) ls rest)) : W p l e R s m args below meth c H locs cells slots Q (F0 m pc ls (.int x :: .int (nI j) :: .ref a :: rest)) :=
  va_iast hexec hb hK hP hD hS q0 t0 ha ht (vp_in_nI hj hn) hdg (by rw [nI_clamp (Nat.lt_trans hj hn)]; exact kk)
theorem ra_zast (hexec : p.tables.exec = Jvm.exec) (hb : c.code = cc) (hK : va_K D cl tys s) (hP : va_P D cl ws H) (hD : va_D A ws) (hS : va_S A H0 H locs) (q0 t0 : Nat) {cA : ClassId} {n j : Nat} {f : Nat → Int32} (ha : ws[q0]? = some (a, .inl (cA, n, .inl f))) (ht : tys[t0]? = some (cA, .boolean)) {b : Bool} (hj : j < n) (hn : n < 2 ^ 31) (hdg : decode cc pc = .ok (.bastore, 1))
    (kk : ∀ (H1 : Heap) (locs1 : List Loc), va_P D cl (ws.set q0 (a, .inl (cA, n, .inl (va_up f j (bI b))))) H1 → va_D A (ws.set q0 (a, .inl (cA, n, .inl (va_up f j (bI b))))) → va_S A H0 H1 locs1 → W p l e R s m args below meth c H1 locs1 cells slots Q (F0 m (pc + 1) ls rest)) : W p l e R s m args below meth c H locs cells slots Q (F0 m pc ls (.int (bI b) :: .int (nI j) :: .ref a :: rest)) :=
  va_zast hexec hb hK hP hD hS q0 t0 ha ht (vp_in_nI hj hn) hdg (by rw [nI_clamp (Nat.lt_trans hj hn), show vp_nar .boolean (bI b) = bI b by cases b <;> rfl]; exact kk)
theorem ra_last (hexec : p.tables.exec = Jvm.exec) (hb : c.code = cc) (hK : va_K D cl tys s) (hP : va_P D cl ws H) (hD : va_D A ws) (hS : va_S A H0 H locs) (q0 t0 : Nat) {cA : ClassId} {n j : Nat} {f : Nat → Int64} (ha : ws[q0]? = some (a, .inl (cA, n, .inr (.inl f)))) (ht : tys[t0]? = some (cA, .long)) {x : Int64} (hj : j < n) (hn : n < 2 ^ 31) (hdg : decode cc pc = .ok (.lastore, 1))
    (kk : ∀ (H1 : Heap) (locs1 : List Loc), va_P D cl (ws.set q0 (a, .inl (cA, n, .inr (.inl (va_up f j x))))) H1 → va_D A (ws.set q0 (a, .inl (cA, n, .inr (.inl (va_up f j x))))) → va_S A H0 H1 locs1 → W p l e R s m args below meth c H1 locs1 cells slots Q (F0 m (pc + 1) ls rest)) : W p l e R s m args below meth c H locs cells slots Q (F0 m pc ls (.long x :: .int (nI j) :: .ref a :: rest)) :=
  va_last hexec hb hK hP hD hS q0 t0 ha ht (vp_in_nI hj hn) hdg (by rw [nI_clamp (Nat.lt_trans hj hn)]; exact kk)
end RWA
section RWB
variable {p : Program} {l : Launch} {e : Env} {R : Room} {s : State} {m : MethodId} {args : Array Value} {below : List Frame} {meth : Method} {c : Code} {H : Heap} {locs : List Loc} {cells slots : Nat} {Q : State → Prop}
variable {cc : ByteArray} {pc : Nat} {ls : Array Slot} {rest : List Value} {D : va_G} {cl : List vw_C} {A : Nat → Prop} {a : Nat} {tys : List (ClassId × FieldType)} {ws : va_W} {H0 : Heap}
theorem up_bI (g : Nat → Bool) (j : Nat) (b : Bool) : va_up (fun i => bI (g i)) j (bI b) = fun i => bI (va_up g j b i) := by
  funext i
  unfold va_up
  split <;> rfl
theorem up_nI (g : Nat → Nat) (j b : Nat) : va_up (fun i => nI (g i)) j (nI b) = fun i => nI (va_up g j b i) := by
  funext i
  unfold va_up
  split <;> rfl
theorem rb_zald (hexec : p.tables.exec = Jvm.exec) (hb : c.code = cc) (hK : va_K D cl tys s) (hP : va_P D cl ws H) (q0 t0 : Nat) {cA : ClassId} {n j : Nat} {g : Nat → Bool} (ha : ws[q0]? = some (a, .inl (cA, n, .inl (fun i => bI (g i))))) (ht : tys[t0]? = some (cA, .boolean)) (hj : j < n) (hn : n < 2 ^ 31) (hdg : decode cc pc = .ok (.baload, 1))
    (kk : W p l e R s m args below meth c H locs cells slots Q (F0 m (pc + 1) ls (.int (bI (g j)) :: rest))) : W p l e R s m args below meth c H locs cells slots Q (F0 m pc ls (.int (nI j) :: .ref a :: rest)) :=
  ra_zald hexec hb hK hP q0 t0 ha ht hj hn hdg kk
theorem rb_zast (hexec : p.tables.exec = Jvm.exec) (hb : c.code = cc) (hK : va_K D cl tys s) (hP : va_P D cl ws H) (hD : va_D A ws) (hS : va_S A H0 H locs) (q0 t0 : Nat) {cA : ClassId} {n j : Nat} {g : Nat → Bool} (ha : ws[q0]? = some (a, .inl (cA, n, .inl (fun i => bI (g i))))) (ht : tys[t0]? = some (cA, .boolean)) {b : Bool} (hj : j < n) (hn : n < 2 ^ 31) (hdg : decode cc pc = .ok (.bastore, 1))
    (kk : ∀ (H1 : Heap) (locs1 : List Loc), va_P D cl (ws.set q0 (a, .inl (cA, n, .inl (fun i => bI (va_up g j b i))))) H1 → va_D A (ws.set q0 (a, .inl (cA, n, .inl (fun i => bI (va_up g j b i))))) → va_S A H0 H1 locs1 → W p l e R s m args below meth c H1 locs1 cells slots Q (F0 m (pc + 1) ls rest)) : W p l e R s m args below meth c H locs cells slots Q (F0 m pc ls (.int (bI b) :: .int (nI j) :: .ref a :: rest)) :=
  ra_zast hexec hb hK hP hD hS q0 t0 ha ht hj hn hdg (by rw [up_bI]; exact kk)
theorem rn_iald (hexec : p.tables.exec = Jvm.exec) (hb : c.code = cc) (hK : va_K D cl tys s) (hP : va_P D cl ws H) (q0 t0 : Nat) {cA : ClassId} {n j : Nat} {g : Nat → Nat} (ha : ws[q0]? = some (a, .inl (cA, n, .inl (fun i => nI (g i))))) (ht : tys[t0]? = some (cA, .int)) (hj : j < n) (hn : n < 2 ^ 31) (hdg : decode cc pc = .ok (.iaload, 1))
    (kk : W p l e R s m args below meth c H locs cells slots Q (F0 m (pc + 1) ls (.int (nI (g j)) :: rest))) : W p l e R s m args below meth c H locs cells slots Q (F0 m pc ls (.int (nI j) :: .ref a :: rest)) :=
  ra_iald hexec hb hK hP q0 t0 ha ht hj hn hdg kk
theorem rn_iast (hexec : p.tables.exec = Jvm.exec) (hb : c.code = cc) (hK : va_K D cl tys s) (hP : va_P D cl ws H) (hD : va_D A ws) (hS : va_S A H0 H locs) (q0 t0 : Nat) {cA : ClassId} {n j : Nat} {g : Nat → Nat} (ha : ws[q0]? = some (a, .inl (cA, n, .inl (fun i => nI (g i))))) (ht : tys[t0]? = some (cA, .int)) {b : Nat} (hj : j < n) (hn : n < 2 ^ 31) (hdg : decode cc pc = .ok (.iastore, 1))
    (kk : ∀ (H1 : Heap) (locs1 : List Loc), va_P D cl (ws.set q0 (a, .inl (cA, n, .inl (fun i => nI (va_up g j b i))))) H1 → va_D A (ws.set q0 (a, .inl (cA, n, .inl (fun i => nI (va_up g j b i))))) → va_S A H0 H1 locs1 → W p l e R s m args below meth c H1 locs1 cells slots Q (F0 m (pc + 1) ls rest)) : W p l e R s m args below meth c H locs cells slots Q (F0 m pc ls (.int (nI b) :: .int (nI j) :: .ref a :: rest)) :=
  ra_iast hexec hb hK hP hD hS q0 t0 ha ht hj hn hdg (by rw [up_nI]; exact kk)
end RWB
/-! named cells: kinds k, places i < n k, addresses ad k i, what lies there e k i -/
def up2 {α : Type} (F : Nat → Nat → α) (k i : Nat) (v : α) : Nat → Nat → α := fun k' i' => if k' = k ∧ i' = i then v else F k' i'
theorem up2_self {α : Type} (F : Nat → Nat → α) (k i : Nat) (v : α) : up2 F k i v k i = v := by simp [up2]
theorem up2_k {α : Type} (F : Nat → Nat → α) {k k' : Nat} (i i' : Nat) (v : α) (h : k' ≠ k) : up2 F k i v k' i' = F k' i' := by simp [up2, h]
theorem up2_i {α : Type} (F : Nat → Nat → α) (k k' : Nat) {i i' : Nat} (v : α) (h : i' ≠ i) : up2 F k i v k' i' = F k' i' := by simp [up2, h]
def CP (n : Nat → Nat) (ad : Nat → Nat → Nat) (e : Nat → Nat → va_E) (L : List Nat) (f : Nat → va_E) : Prop := (∀ k i, i < n k → ad k i ∈ L ∧ f (ad k i) = e k i) ∧ ∀ k i k' i', i < n k → i' < n k' → ad k i = ad k' i' → k = k' ∧ i = i'
theorem CP.put {n : Nat → Nat} {ad : Nat → Nat → Nat} {e : Nat → Nat → va_E} {L : List Nat} {f : Nat → va_E} (h : CP n ad e L f) (k i : Nat) {a : Nat} (v : va_E) (hi : i < n k) (ha : a = ad k i) : CP n ad (up2 e k i v) L (va_up f a v) := by
  subst ha
  refine ⟨fun k' i' h' => ⟨(h.1 k' i' h').1, ?_⟩, h.2⟩
  by_cases hh : k' = k ∧ i' = i
  · obtain ⟨rfl, rfl⟩ := hh
    rw [va_up_self, up2_self]
  · rw [va_up_ne _ _ (fun q => hh (h.2 _ _ _ _ h' hi q))]
    simp only [up2, hh, if_false]
    exact (h.1 k' i' h').2
theorem CP.add {n : Nat → Nat} {ad : Nat → Nat → Nat} {e : Nat → Nat → va_E} {L : List Nat} {f : Nat → va_E} (h : CP n ad e L f) (k : Nat) {q : Nat} (v : va_E) (hq : q ∉ L) : CP (va_up n k (n k + 1)) (up2 ad k (n k) q) (up2 e k (n k) v) (L ++ [q]) (va_up f q v) := by
  have old : ∀ k' i', i' < va_up n k (n k + 1) k' → ¬ (k' = k ∧ i' = n k) → i' < n k' := by
    intro k' i' h1 h2
    by_cases hk : k' = k
    · subst hk
      rw [va_up_self] at h1
      have : i' ≠ n k' := fun q => h2 ⟨rfl, q⟩
      omega
    · rw [va_up_ne _ _ hk] at h1
      exact h1
  refine ⟨fun k' i' h' => ?_, fun k1 i1 k2 i2 h1 h2 he => ?_⟩
  · by_cases hh : k' = k ∧ i' = n k
    · obtain ⟨rfl, rfl⟩ := hh
      rw [up2_self, up2_self, va_up_self]
      exact ⟨List.mem_append_right _ (List.mem_singleton.mpr rfl), rfl⟩
    · have hl := h.1 k' i' (old k' i' h' hh)
      simp only [up2, hh, if_false]
      have hne : ad k' i' ≠ q := fun z => hq (z ▸ hl.1)
      rw [va_up_ne _ _ hne]
      exact ⟨List.mem_append_left _ hl.1, hl.2⟩
  · by_cases g1 : k1 = k ∧ i1 = n k <;> by_cases g2 : k2 = k ∧ i2 = n k
    · exact ⟨g1.1.trans g2.1.symm, g1.2.trans g2.2.symm⟩
    · have hl := (h.1 k2 i2 (old k2 i2 h2 g2)).1
      simp only [up2, g1, g2, and_self, if_true, if_false] at he
      exact absurd hl (he ▸ hq)
    · have hl := (h.1 k1 i1 (old k1 i1 h1 g1)).1
      simp only [up2, g1, g2, and_self, if_true, if_false] at he
      exact absurd hl (he ▸ hq)
    · simp only [up2, g1, g2, if_false] at he
      exact h.2 k1 i1 k2 i2 (old k1 i1 h1 g1) (old k2 i2 h2 g2) he
theorem CP.to {n n' : Nat → Nat} {ad ad' : Nat → Nat → Nat} {e e' : Nat → Nat → va_E} {L : List Nat} {f : Nat → va_E} (h : CP n ad e L f) (hn : ∀ k, n' k = n k) (ha : ∀ k i, i < n k → ad' k i = ad k i) (he : ∀ k i, i < n k → e' k i = e k i) : CP n' ad' e' L f := by
  refine ⟨fun k i hi => ?_, fun k i k' i' hi hi' q => ?_⟩
  · rw [hn] at hi
    rw [ha k i hi, he k i hi]
    exact h.1 k i hi
  · rw [hn] at hi hi'
    rw [ha k i hi, ha k' i' hi'] at q
    exact h.2 k i k' i' hi hi' q
end
section
/-! sums, counts, searches -/
def sumL (g : Nat → Int64) : Nat → Int64
  | 0 => 0
  | n + 1 => sumL g n + g n
theorem sumL_congr {g g' : Nat → Int64} {n : Nat} (h : ∀ i, i < n → g i = g' i) : sumL g n = sumL g' n := by
  induction n with
  | zero => rfl
  | succ n ih =>
    simp only [sumL]
    rw [ih (fun i hi => h i (by omega)), h n (by omega)]
theorem sumL_one {g g' : Nat → Int64} {n i : Nat} (hi : i < n) (h : ∀ k, k < n → k ≠ i → g' k = g k) : sumL g' n = sumL g n + (g' i - g i) := by
  induction n with
  | zero => omega
  | succ n ih =>
    simp only [sumL]
    by_cases hn : i = n
    · subst hn
      rw [sumL_congr (g := g') (g' := g) (fun k hk => h k (by omega) (by omega))]
      grind
    · rw [ih (by omega) (fun k hk hne => h k (by omega) hne), h n (by omega) (fun q => hn q.symm)]
      grind
def sumI (g : Nat → Int32) : Nat → Int32
  | 0 => 0
  | n + 1 => sumI g n + g n
theorem sumI_congr {g g' : Nat → Int32} {n : Nat} (h : ∀ i, i < n → g i = g' i) : sumI g n = sumI g' n := by
  induction n with
  | zero => rfl
  | succ n ih =>
    simp only [sumI]
    rw [ih (fun i hi => h i (by omega)), h n (by omega)]
theorem sumI_one {g g' : Nat → Int32} {n i : Nat} (hi : i < n) (h : ∀ k, k < n → k ≠ i → g' k = g k) : sumI g' n = sumI g n + (g' i - g i) := by
  induction n with
  | zero => omega
  | succ n ih =>
    simp only [sumI]
    by_cases hn : i = n
    · subst hn
      rw [sumI_congr (g := g') (g' := g) (fun k hk => h k (by omega) (by omega))]
      grind
    · rw [ih (by omega) (fun k hk hne => h k (by omega) hne), h n (by omega) (fun q => hn q.symm)]
      grind
/-- the first place from k on, d of them, where P holds -/
def fst_ (P : Nat → Bool) : Nat → Nat → Option Nat
  | 0, _ => none
  | d + 1, k => if P k = true then some k else fst_ P d (k + 1)
/-- the last place below n where P holds -/
def lst_ (P : Nat → Bool) : Nat → Option Nat
  | 0 => none
  | n + 1 => if P n = true then some n else lst_ P n
def oI (o : Option Nat) : Int32 := match o with
  | none => -1
  | some k => nI k
/-- a number that is in 0 .. n - 1, in the words of the machine -/
theorem ix_of {f : Int32} {n : Nat} (hn : n < 2 ^ 30) (h : iw f.toInt64 0 (nI n - 1).toInt64 = true) : ∃ j, j < n ∧ f = nI j := by
  simp only [iw, Bool.and_eq_true, Bool.not_eq_true', decide_eq_false_iff_not, Int64.lt_iff_toInt_lt, Int32.toInt_toInt64] at h
  have h1 : (nI n - 1).toInt = (n : Int) - 1 := pk_sub_toInt (a := n) (b := 1) hn (by decide)
  rw [h1] at h
  have h0 : (0 : Int64).toInt = 0 := rfl
  rw [h0] at h
  obtain ⟨j, hj, rfl⟩ := nI_of (x := f) (by rw [Int32.lt_iff_toInt_lt]; exact h.1)
  rw [nI_toInt hj] at h
  exact ⟨j, by omega, rfl⟩
theorem ix_no {f : Int32} {n : Nat} (hn : n < 2 ^ 30) (h : iw f.toInt64 0 (nI n - 1).toInt64 = false) {j : Nat} (hj : j < n) : f ≠ nI j := by
  rintro rfl
  have h1 : (nI n - 1).toInt = (n : Int) - 1 := pk_sub_toInt (a := n) (b := 1) hn (by decide)
  have h2 : (nI j).toInt = (j : Int) := nI_toInt (by omega)
  have h0 : (0 : Int64).toInt = 0 := rfl
  have : iw (nI j).toInt64 0 (nI n - 1).toInt64 = true := by
    simp only [iw, Bool.and_eq_true, Bool.not_eq_true', decide_eq_false_iff_not, Int64.lt_iff_toInt_lt, Int32.toInt_toInt64, h1, h2, h0]
    omega
  rw [this] at h
  cases h
theorem ix_yes {n j : Nat} (hn : n < 2 ^ 30) (hj : j < n) : iw (nI j).toInt64 0 (nI n - 1).toInt64 = true := by
  cases h : iw (nI j).toInt64 0 (nI n - 1).toInt64 with
  | true => rfl
  | false => exact absurd rfl (ix_no hn h hj)
end
section
/-! the persons who approved: bits of two longs -/
def bitO (p : Int32) : Int64 := (1 : Int64) <<< ((p &&& 63).toInt64 &&& 63)
def hbit (lo hi : Int64) (w : Nat) : Bool := if w < 64 then lo.toBitVec.getLsbD w else hi.toBitVec.getLsbD (w - 64)
theorem bitO_tp : ∀ w, w < 100 → (bitO (nI w)).toBitVec = BitVec.twoPow 64 (w % 64) := by decide +kernel
theorem and_bit (x : Int64) {w : Nat} (hw : w < 100) : (x &&& bitO (nI w)) = 0 ↔ x.toBitVec.getLsbD (w % 64) = false := by
  rw [← Int64.toBitVec_inj, Int64.toBitVec_and, bitO_tp w hw, BitVec.and_twoPow]
  cases h : x.toBitVec.getLsbD (w % 64) with
  | false => simp
  | true =>
    simp only [if_true, Bool.true_eq_false, iff_false]
    intro q
    have := congrArg (fun b : BitVec 64 => b.getLsbD (w % 64)) q
    simp [BitVec.getLsbD_twoPow] at this
    omega
theorem or_bit (x : Int64) {w v : Nat} (hw : w < 100) (hv : v < 64) : (x ||| bitO (nI w)).toBitVec.getLsbD v = (x.toBitVec.getLsbD v || decide (v = w % 64)) := by
  rw [Int64.toBitVec_or, bitO_tp w hw, BitVec.getLsbD_or, BitVec.getLsbD_twoPow]
  have hm : w % 64 < 64 := Nat.mod_lt _ (by decide)
  simp only [hm, decide_true, Bool.true_and]
  congr 1
  exact decide_eq_decide.mpr ⟨fun h => h.symm, fun h => h.symm⟩
theorem nI_64 : ∀ w, w < 100 → (nI w < 64 ↔ w < 64) := by decide +kernel
theorem hbit_lo {lo hi : Int64} {w : Nat} (h : w < 64) : hbit lo hi w = lo.toBitVec.getLsbD (w % 64) := by
  unfold hbit
  rw [if_pos h, Nat.mod_eq_of_lt h]
theorem hbit_hi {lo hi : Int64} {w : Nat} (h : ¬ w < 64) (h2 : w < 100) : hbit lo hi w = hi.toBitVec.getLsbD (w % 64) := by
  unfold hbit
  rw [if_neg h, show w % 64 = w - 64 by omega]
theorem hbit_addlo {lo hi : Int64} {w v : Nat} (h : w < 64) (hv : v < 100) : hbit (lo ||| bitO (nI w)) hi v = (hbit lo hi v || decide (v = w)) := by
  unfold hbit
  by_cases h1 : v < 64
  · rw [if_pos h1, if_pos h1, or_bit lo (by omega) h1, Nat.mod_eq_of_lt h]
  · rw [if_neg h1, if_neg h1]
    have : ¬ v = w := by omega
    simp [this]
theorem hbit_addhi {lo hi : Int64} {w v : Nat} (h : ¬ w < 64) (h2 : w < 100) (hv : v < 100) : hbit lo (hi ||| bitO (nI w)) v = (hbit lo hi v || decide (v = w)) := by
  unfold hbit
  by_cases h1 : v < 64
  · rw [if_pos h1, if_pos h1]
    have : ¬ v = w := by omega
    simp [this]
  · rw [if_neg h1, if_neg h1, or_bit hi h2 (by omega)]
    have : (v - 64 = w % 64) ↔ (v = w) := by omega
    simp [this]
theorem hbit_0 (v : Nat) : hbit 0 0 v = false := by
  unfold hbit
  split <;> simp
end
section
/-! the state in the reference's words: th yr nf no nt bd nb fl, arrays of ints AI, of small naturals AN, of truth values AB, of longs AL, by the places of the reference's cells:
1 carry, 2 given, 3 spent, 4 fund, 5 cents, 6 standing, 7 state, 8 firstBy, 9 approved, 10 difference, 11 invoices, 12 month, 13 from, 14 to, 15 sum, 16 happened, 17 agreed, 18 rows, 19 day, 20 up, 21 down, 22 batchFund, 23 batchCents -/
abbrev MS : Type := Int32 × Int32 × Nat × Nat × Nat × Int32 × Nat × Int32 × (Nat → Nat → Int32) × (Nat → Nat → Nat) × (Nat → Nat → Bool) × (Nat → Nat → Int64)
def m_enc (AI : Nat → Nat → Int32) (AN : Nat → Nat → Nat) (no : Nat) (f : Int32) : Int64 := sumL (fun i => if nI (AN 4 i) = f ∧ AI 7 i = 1 then (AI 5 i).toInt64 else 0) no
def m_bat (AI : Nat → Nat → Int32) (AN : Nat → Nat → Nat) (nb : Nat) (f : Int32) : Int64 := sumL (fun r => if nI (AN 22 r) = f then (AI 23 r).toInt64 else 0) nb
def m_tot (AI : Nat → Nat → Int32) (nb : Nat) : Int64 := sumL (fun r => (AI 23 r).toInt64) nb
def m_cnt (AB : Nat → Nat → Bool) (i : Nat) : Int32 := sumI (fun k => if AB 17 (100 * i + k) = true then 1 else 0) 100
/-- the objects of the class -/
abbrev oFB (a b c d e : Nat) (na np nm yr tl fl : Int32) : va_E := .inr (0, [.ref a, .ref b, .ref c, .ref d, .ref e, .int na, .int np, .int nm, .int yr, .int tl, .int fl])
abbrev oAcc (n cy : Int32) (g en sp pd : Int64) : va_E := .inr (1, [.int n, .int cy, .long g, .long en, .long sp, .long pd])
abbrev oPur (a : Nat) (ct st : Int32) (q : Nat) (stt ic lm : Int32) (lx : Int64) : va_E := .inr (2, [.ref a, .int ct, .int st, .ref q, .int stt, .int ic, .int lm, .long lx])
abbrev oMov (a b : Nat) (ct : Int32) (q : Nat) (hp : Int32) : va_E := .inr (3, [.ref a, .ref b, .int ct, .ref q, .int hp])
abbrev oApp (lo hi : Int64) (n : Int32) : va_E := .inr (4, [.long lo, .long hi, .int n])
abbrev oRat (d u w : Int32) (ea : Option Nat) (rk : Int32) : va_E := .inr (5, [.int d, .int u, .int w, va_rf ea, .int rk])
abbrev oBat (rw : Nat) (n : Int32) (t : Int64) : va_E := .inr (6, [.ref rw, .int n, .long t])
abbrev oArr (cA : ClassId) (n : Nat) (g : Nat → Option Nat) : va_E := .inl (cA, n, .inr (.inr (.inr (.inr g))))
abbrev ctys (cs : Nat → ClassId) : List (ClassId × FieldType) := [(cs 0, .object "FundBook$Account"), (cs 1, .object "FundBook$Purchase"), (cs 2, .object "FundBook$Move"), (cs 3, .object "FundBook$Rate"), (cs 4, .object "FundBook$Account")]
/-- what lies in the class's cells, in the reference's words; bl: the bits of the approvals (0, 1 of orders, 2, 3 of transfers), rx c r: the place of a currency's row -/
def SR (n : Nat → Nat) (ad : Nat → Nat → Nat) (e : Nat → Nat → va_E) (cs : Nat → ClassId) (bl : Nat → Nat → Int64) (rx : Nat → Nat → Nat) (yr : Int32) (nf no nt : Nat) (bd : Int32) (nb : Nat) (fl : Int32) (AI : Nat → Nat → Int32) (AN : Nat → Nat → Nat) (AB : Nat → Nat → Bool) (AL : Nat → Nat → Int64) : Prop :=
  (n 0 = 7 ∧ n 1 = nf ∧ n 2 = no ∧ n 3 = no ∧ n 4 = nt ∧ n 5 = nt) ∧
  e 0 0 = oFB (ad 0 1) (ad 0 2) (ad 0 3) (ad 0 4) (ad 0 5) (nI nf) (nI no) (nI nt) yr bd fl ∧
  e 0 1 = oArr (cs 0) 30 (fun i => if i < nf then some (ad 1 i) else none) ∧
  e 0 2 = oArr (cs 1) 300 (fun i => if i < no then some (ad 2 i) else none) ∧
  e 0 3 = oArr (cs 2) 100 (fun i => if i < nt then some (ad 4 i) else none) ∧
  e 0 4 = oArr (cs 3) 10 (fun c => if AN 18 c = 0 then none else some (ad 6 (rx c (AN 18 c - 1)))) ∧
  e 0 5 = oBat (ad 0 6) (nI nb) (m_tot AI nb) ∧
  e 0 6 = oArr (cs 4) 20 (fun r => if r < nb then some (ad 1 (AN 22 r)) else none) ∧
  (∀ i, i < nf → e 1 i = oAcc (nI i) (AI 1 i) (AL 2 i) (m_enc AI AN no (nI i)) (AL 3 i) (m_bat AI AN nb (nI i))) ∧
  (∀ i, i < no → e 2 i = oPur (ad 1 (AN 4 i)) (AI 5 i) (bI (AB 6 i)) (ad 3 i) (AI 7 i) (AI 11 i) (AI 12 i) (AL 10 i)) ∧
  (∀ i, i < no → e 3 i = oApp (bl 0 i) (bl 1 i) (AI 9 i)) ∧
  (∀ i, i < nt → e 4 i = oMov (ad 1 (AN 13 i)) (ad 1 (AN 14 i)) (AI 15 i) (ad 5 i) (bI (AB 16 i))) ∧
  (∀ i, i < nt → e 5 i = oApp (bl 2 i) (bl 3 i) (m_cnt AB i)) ∧
  (∀ c r, c < 10 → r < AN 18 c → rx c r < n 6 ∧ e 6 (rx c r) = oRat (AI 19 (10 * c + r)) (AI 20 (10 * c + r)) (AI 21 (10 * c + r)) (if r = 0 then none else some (ad 6 (rx c (r - 1)))) (nI (r + 1)))
/-- what always holds of the reference's state -/
def InvM (nf no nt nb : Nat) (AI : Nat → Nat → Int32) (AN : Nat → Nat → Nat) : Prop :=
  nf ≤ 30 ∧ no ≤ 300 ∧ nt ≤ 100 ∧ nb ≤ 20 ∧
  (∀ i, i < no → AN 4 i < nf) ∧ (∀ i, i < nt → AN 13 i < nf ∧ AN 14 i < nf ∧ AN 13 i ≠ AN 14 i) ∧ (∀ r, r < nb → AN 22 r < nf) ∧ (∀ c, c < 10 → AN 18 c ≤ 10) ∧
  (∀ i, i < no → 1 ≤ (AI 5 i).toInt ∧ (AI 5 i).toInt ≤ 1000000000) ∧ (∀ c r, c < 10 → r < AN 18 c → 1 ≤ (AI 21 (10 * c + r)).toInt)
/-- the bits of the approvals, in the reference's words -/
def InvB (no nt : Nat) (AI : Nat → Nat → Int32) (AB : Nat → Nat → Bool) (bl : Nat → Nat → Int64) : Prop :=
  (∀ i, i < no → AI 7 i = 0 → (AI 9 i = 0 ∨ AI 9 i = 1) ∧ ∀ w, w < 100 → (hbit (bl 0 i) (bl 1 i) w = true ↔ (AI 9 i = 1 ∧ AI 8 i = nI w))) ∧
  (∀ i, i < nt → ∀ w, w < 100 → hbit (bl 2 i) (bl 3 i) w = AB 17 (100 * i + w))
/-- the class's fragment holds the state -/
def CR (cs : Nat → ClassId) (o : Nat) (u : MS) (L : List Nat) (f : Nat → va_E) : Prop := match u with
  | (_, yr, nf, no, nt, bd, nb, fl, AI, AN, AB, AL) => ∃ (n : Nat → Nat) (ad : Nat → Nat → Nat) (e : Nat → Nat → va_E) (bl : Nat → Nat → Int64) (rx : Nat → Nat → Nat), ad 0 0 = o ∧ CP n ad e L f ∧ SR n ad e cs bl rx yr nf no nt bd nb fl AI AN AB AL ∧ InvM nf no nt nb AI AN ∧ InvB no nt AI AB bl
end
section
/-! what the reference answers, and its state behind the call -/
def u2 {α : Type} (F : Nat → Nat → α) (k j : Nat) (v : α) : Nat → Nat → α := va_up F k (va_up (F k) j v)
theorem u2_at {α : Type} (F : Nat → Nat → α) (k j : Nat) (v : α) : u2 F k j v k = va_up (F k) j v := va_up_self _ _ _
theorem u2_ne {α : Type} (F : Nat → Nat → α) {k k' : Nat} (j : Nat) (v : α) (h : k' ≠ k) : u2 F k j v k' = F k' := va_up_ne _ _ h
def bnd (v : Int64) : Bool := iw v (-1000000000000000) 1000000000000000
def m_free (AI : Nat → Nat → Int32) (AN : Nat → Nat → Nat) (AL : Nat → Nat → Int64) (no : Nat) (j : Nat) : Int64 := AL 2 j - m_enc AI AN no (nI j) - AL 3 j
def m_fits (AI : Nat → Nat → Int32) (AN : Nat → Nat → Nat) (AL : Nat → Nat → Int64) (no : Nat) (j : Nat) (mg ms le : Int64) : Bool :=
  bnd (AL 2 j + mg) && bnd (AL 3 j + ms) && bnd (AL 2 j + mg - (m_enc AI AN no (nI j) - le) - (AL 3 j + ms))
abbrev ixn (f : Int32) : Nat := f.toNatClampNeg
def inN (f : Int32) (n : Nat) : Bool := iw f.toInt64 0 (nI n - 1).toInt64
def m_fund (u : MS) (c : Int32) : Int32 × MS := match u with
  | (_, yr, nf, no, nt, bd, nb, fl, AI, AN, AB, AL) =>
    if iw c.toInt64 0 2 = false then (-2, (0, yr, nf, no, nt, bd, nb, fl, AI, AN, AB, AL))
    else if nf = 30 then (-4, (0, yr, nf, no, nt, bd, nb, fl, AI, AN, AB, AL))
    else (nI nf, (0, yr, nf + 1, no, nt, bd, nb, fl, u2 AI 1 nf c, AN, AB, AL))
def m_give (u : MS) (f : Int32) (more : Int64) : Int32 × MS := match u with
  | (_, yr, nf, no, nt, bd, nb, fl, AI, AN, AB, AL) =>
    if inN f nf = false then (-1, (0, yr, nf, no, nt, bd, nb, fl, AI, AN, AB, AL))
    else if iw more 1 1000000000000 = false then (-2, (0, yr, nf, no, nt, bd, nb, fl, AI, AN, AB, AL))
    else if m_fits AI AN AL no (ixn f) more 0 0 = false then (-4, (0, yr, nf, no, nt, bd, nb, fl, AI, AN, AB, AL))
    else (1, (0, yr, nf, no, nt, bd, nb, fl, AI, AN, AB, u2 AL 2 (ixn f) (AL 2 (ixn f) + more)))
def m_order (u : MS) (f c : Int32) (st : Bool) : Int32 × MS := match u with
  | (_, yr, nf, no, nt, bd, nb, fl, AI, AN, AB, AL) =>
    if inN f nf = false then (-1, (0, yr, nf, no, nt, bd, nb, fl, AI, AN, AB, AL))
    else if iw c.toInt64 1 1000000000 = false then (-2, (0, yr, nf, no, nt, bd, nb, fl, AI, AN, AB, AL))
    else if no = 300 then (-4, (0, yr, nf, no, nt, bd, nb, fl, AI, AN, AB, AL))
    else if c.toInt64 ≤ m_free AI AN AL no (ixn f) then (nI no, (0, yr, nf, no + 1, nt, bd, nb, fl, u2 (u2 (u2 (u2 (u2 AI 5 no c) 7 no 1) 9 no 0) 11 no 0) 12 no (-1), u2 AN 4 no (ixn f), u2 AB 6 no st, u2 AL 10 no 0))
    else (-10 - nI no, (0, yr, nf, no + 1, nt, bd, nb, fl, u2 (u2 (u2 (u2 (u2 AI 5 no c) 7 no 0) 9 no 0) 11 no 0) 12 no (-1), u2 AN 4 no (ixn f), u2 AB 6 no st, u2 AL 10 no 0))
def m_approve (u : MS) (i who : Int32) : Int32 × MS := match u with
  | (_, yr, nf, no, nt, bd, nb, fl, AI, AN, AB, AL) =>
    if inN i no = false then (-1, (0, yr, nf, no, nt, bd, nb, fl, AI, AN, AB, AL))
    else if iw who.toInt64 0 99 = false then (-2, (0, yr, nf, no, nt, bd, nb, fl, AI, AN, AB, AL))
    else if ¬ AI 7 (ixn i) = 0 ∨ (AI 9 (ixn i) = 1 ∧ AI 8 (ixn i) = who) then (-3, (0, yr, nf, no, nt, bd, nb, fl, AI, AN, AB, AL))
    else if AI 9 (ixn i) + 1 = 2 then (AI 9 (ixn i) + 1, (0, yr, nf, no, nt, bd, nb, fl, u2 (u2 (u2 AI 8 (ixn i) (if AI 9 (ixn i) = 0 then who else AI 8 (ixn i))) 9 (ixn i) (AI 9 (ixn i) + 1)) 7 (ixn i) 1, AN, AB, AL))
    else (AI 9 (ixn i) + 1, (0, yr, nf, no, nt, bd, nb, fl, u2 (u2 AI 8 (ixn i) (if AI 9 (ixn i) = 0 then who else AI 8 (ixn i))) 9 (ixn i) (AI 9 (ixn i) + 1), AN, AB, AL))
def m_rowOn (AI : Nat → Nat → Int32) (AN : Nat → Nat → Nat) (cur : Nat) (on : Int32) : Option Nat := lst_ (fun r => decide (AI 19 (10 * cur + r) ≤ on)) (AN 18 cur)
def m_house (AI : Nat → Nat → Int32) (cur : Nat) (c : Int32) (o : Option Nat) : Int64 := match o with
  | none => c.toInt64
  | some r => c.toInt64 * (AI 20 (10 * cur + r)).toInt64 / (AI 21 (10 * cur + r)).toInt64
def m_invoice (u : MS) (i c cur on : Int32) : Int64 × MS := match u with
  | (_, yr, nf, no, nt, bd, nb, fl, AI, AN, AB, AL) =>
    if inN i no = false then (-1, (0, yr, nf, no, nt, bd, nb, fl, AI, AN, AB, AL))
    else if iw c.toInt64 1 1000000000 = false ∨ iw cur.toInt64 0 9 = false ∨ iw on.toInt64 0 100000 = false then (-2, (0, yr, nf, no, nt, bd, nb, fl, AI, AN, AB, AL))
    else if ¬ AI 7 (ixn i) = 1 ∨ (AB 6 (ixn i) = true ∧ on / 30 ≤ AI 12 (ixn i)) then (-3, (0, yr, nf, no, nt, bd, nb, fl, AI, AN, AB, AL))
    else if m_rowOn AI AN (ixn cur) on = none ∧ 0 < cur then (-6, (0, yr, nf, no, nt, bd, nb, fl, AI, AN, AB, AL))
    else if iw (m_house AI (ixn cur) c (m_rowOn AI AN (ixn cur) on)) ((AI 5 (ixn i)).toInt64 - (AI 5 (ixn i)).toInt64 * bd.toInt64 / 1000) ((AI 5 (ixn i)).toInt64 + (AI 5 (ixn i)).toInt64 * bd.toInt64 / 1000) = false then (-5, (0, yr, nf, no, nt, bd, nb, fl, AI, AN, AB, AL))
    else if m_fits AI AN AL no (AN 4 (ixn i)) 0 (m_house AI (ixn cur) c (m_rowOn AI AN (ixn cur) on)) (if AB 6 (ixn i) = true then 0 else (AI 5 (ixn i)).toInt64) = false then (-4, (0, yr, nf, no, nt, bd, nb, fl, AI, AN, AB, AL))
    else (m_house AI (ixn cur) c (m_rowOn AI AN (ixn cur) on), (0, yr, nf, no, nt, bd, nb, fl, if AB 6 (ixn i) = true then u2 (u2 AI 11 (ixn i) (AI 11 (ixn i) + 1)) 12 (ixn i) (on / 30) else u2 (u2 (u2 AI 11 (ixn i) (AI 11 (ixn i) + 1)) 12 (ixn i) (on / 30)) 7 (ixn i) 2, AN, AB, u2 (u2 AL 3 (AN 4 (ixn i)) (AL 3 (AN 4 (ixn i)) + m_house AI (ixn cur) c (m_rowOn AI AN (ixn cur) on))) 10 (ixn i) (m_house AI (ixn cur) c (m_rowOn AI AN (ixn cur) on) - (AI 5 (ixn i)).toInt64)))
def m_cancel (u : MS) (i : Int32) : Int32 × MS := match u with
  | (_, yr, nf, no, nt, bd, nb, fl, AI, AN, AB, AL) =>
    if inN i no = false then (-1, (0, yr, nf, no, nt, bd, nb, fl, AI, AN, AB, AL))
    else if 1 < AI 7 (ixn i) then (-3, (0, yr, nf, no, nt, bd, nb, fl, AI, AN, AB, AL))
    else (if AI 7 (ixn i) = 1 then AI 5 (ixn i) else 0, (0, yr, nf, no, nt, bd, nb, fl, u2 AI 7 (ixn i) 3, AN, AB, AL))
def m_band (u : MS) (b : Int32) : Int32 × MS := match u with
  | (_, yr, nf, no, nt, bd, nb, fl, AI, AN, AB, AL) =>
    if iw b.toInt64 0 1000 = false then (-2, (0, yr, nf, no, nt, bd, nb, fl, AI, AN, AB, AL))
    else (1, (0, yr, nf, no, nt, b, nb, fl, AI, AN, AB, AL))
def m_currency (u : MS) (c d up dn : Int32) : Int32 × MS := match u with
  | (_, yr, nf, no, nt, bd, nb, fl, AI, AN, AB, AL) =>
    if iw c.toInt64 0 9 = false then (-1, (0, yr, nf, no, nt, bd, nb, fl, AI, AN, AB, AL))
    else if iw d.toInt64 0 100000 = false ∨ iw up.toInt64 1 1000000 = false ∨ iw dn.toInt64 1 1000000 = false then (-2, (0, yr, nf, no, nt, bd, nb, fl, AI, AN, AB, AL))
    else if 0 < AN 18 (ixn c) ∧ d ≤ AI 19 (10 * ixn c + AN 18 (ixn c) - 1) then (-3, (0, yr, nf, no, nt, bd, nb, fl, AI, AN, AB, AL))
    else if AN 18 (ixn c) = 10 then (-4, (0, yr, nf, no, nt, bd, nb, fl, AI, AN, AB, AL))
    else (1, (0, yr, nf, no, nt, bd, nb, fl, u2 (u2 (u2 AI 19 (10 * ixn c + AN 18 (ixn c)) d) 20 (10 * ixn c + AN 18 (ixn c)) up) 21 (10 * ixn c + AN 18 (ixn c)) dn, u2 AN 18 (ixn c) (AN 18 (ixn c) + 1), AB, AL))
def m_transfer (u : MS) (f t c : Int32) : Int32 × MS := match u with
  | (_, yr, nf, no, nt, bd, nb, fl, AI, AN, AB, AL) =>
    if inN f nf = false ∨ inN t nf = false then (-1, (0, yr, nf, no, nt, bd, nb, fl, AI, AN, AB, AL))
    else if iw c.toInt64 1 1000000000 = false ∨ f = t then (-2, (0, yr, nf, no, nt, bd, nb, fl, AI, AN, AB, AL))
    else if nt = 100 then (-4, (0, yr, nf, no, nt, bd, nb, fl, AI, AN, AB, AL))
    else (nI nt, (0, yr, nf, no, nt + 1, bd, nb, fl, u2 AI 15 nt c, u2 (u2 AN 13 nt (ixn f)) 14 nt (ixn t), AB, AL))
def m_agree (u : MS) (i who : Int32) : Int32 × MS := match u with
  | (_, yr, nf, no, nt, bd, nb, fl, AI, AN, AB, AL) =>
    if inN i nt = false then (-1, (0, yr, nf, no, nt, bd, nb, fl, AI, AN, AB, AL))
    else if iw who.toInt64 0 99 = false then (-2, (0, yr, nf, no, nt, bd, nb, fl, AI, AN, AB, AL))
    else if AB 16 (ixn i) = true ∨ AB 17 (100 * ixn i + ixn who) = true then (-3, (0, yr, nf, no, nt, bd, nb, fl, AI, AN, AB, AL))
    else if 1 < 1 + m_cnt AB (ixn i) ∧ (AI 15 (ixn i)).toInt64 ≤ m_free AI AN AL no (AN 13 (ixn i)) then
      (if m_fits AI AN AL no (AN 13 (ixn i)) ((-AI 15 (ixn i)).toInt64) 0 0 = false ∨ m_fits AI AN AL no (AN 14 (ixn i)) ((AI 15 (ixn i)).toInt64) 0 0 = false then (-4, (0, yr, nf, no, nt, bd, nb, fl, AI, AN, AB, AL))
      else (2, (0, yr, nf, no, nt, bd, nb, fl, AI, AN, u2 (u2 AB 17 (100 * ixn i + ixn who) true) 16 (ixn i) true, u2 (u2 AL 2 (AN 13 (ixn i)) (AL 2 (AN 13 (ixn i)) - (AI 15 (ixn i)).toInt64)) 2 (AN 14 (ixn i)) (u2 AL 2 (AN 13 (ixn i)) (AL 2 (AN 13 (ixn i)) - (AI 15 (ixn i)).toInt64) 2 (AN 14 (ixn i)) + (AI 15 (ixn i)).toInt64))))
    else (1, (0, yr, nf, no, nt, bd, nb, fl, AI, AN, u2 AB 17 (100 * ixn i + ixn who) true, AL))
def m_row (u : MS) (f c : Int32) : Int32 × MS := match u with
  | (_, yr, nf, no, nt, bd, nb, fl, AI, AN, AB, AL) =>
    if inN f nf = false then (-1, (0, yr, nf, no, nt, bd, nb, fl, AI, AN, AB, AL))
    else if iw c.toInt64 (-1000000000) 1000000000 = false then (-2, (0, yr, nf, no, nt, bd, nb, fl, AI, AN, AB, AL))
    else if nb = 20 then (-4, (0, yr, nf, no, nt, bd, nb, fl, AI, AN, AB, AL))
    else (nI (nb + 1), (0, yr, nf, no, nt, bd, nb + 1, fl, u2 AI 23 nb c, u2 AN 22 nb (ixn f), AB, AL))
/-- GIVEN behind the first r rows of the batch -/
def m_posted (AI : Nat → Nat → Int32) (AN : Nat → Nat → Nat) (g : Nat → Int64) : Nat → Nat → Int64
  | 0 => g
  | r + 1 => va_up (m_posted AI AN g r) (AN 22 r) (m_posted AI AN g r (AN 22 r) + (AI 23 r).toInt64)
def m_short (AI : Nat → Nat → Int32) (AN : Nat → Nat → Nat) (AL : Nat → Nat → Int64) (no nb : Nat) (r : Nat) : Bool := decide (m_free AI AN AL no (AN 22 r) + m_bat AI AN nb (nI (AN 22 r)) < 0)
/-- the row whose fund fails, if there is one -/
def m_bad (AI : Nat → Nat → Int32) (AN : Nat → Nat → Nat) (AL : Nat → Nat → Int64) (no nb : Nat) : Option Nat :=
  match fst_ (m_short AI AN AL no nb) nb 0 with
  | some r => some r
  | none => if m_tot AI nb = 0 then none else some (nb - 1)
def m_post (u : MS) : Int32 × MS := match u with
  | (_, yr, nf, no, nt, bd, nb, fl, AI, AN, AB, AL) => match m_bad AI AN AL no nb with
    | some r => (0, (1, yr, nf, no, nt, bd, 0, nI (AN 22 r), AI, AN, AB, AL))
    | none => (nI nb, (0, yr, nf, no, nt, bd, 0, fl, AI, AN, AB, va_up AL 2 (m_posted AI AN (AL 2) nb)))
def m_failing (u : MS) : Int32 × MS := match u with
  | (_, yr, nf, no, nt, bd, nb, fl, AI, AN, AB, AL) => (fl, (0, yr, nf, no, nt, bd, nb, fl, AI, AN, AB, AL))
def m_carried (cy : Int32) (left : Int64) : Int64 := if left < 0 ∨ cy = 0 then 0 else if cy = 1 then left else left / 2
def m_close (u : MS) : Int32 × MS := match u with
  | (_, yr, nf, no, nt, bd, nb, fl, AI, AN, AB, AL) =>
    if yr = 9999 then (-3, (0, yr, nf, no, nt, bd, nb, fl, AI, AN, AB, AL))
    else (yr + 1, (0, yr + 1, nf, no, nt, bd, nb, fl, AI, AN, AB, va_up (va_up AL 2 (fun j => if j < nf then m_carried (AI 1 j) (m_free AI AN AL no j) + m_enc AI AN no (nI j) else AL 2 j)) 3 (fun j => if j < nf then 0 else AL 3 j)))
def m_about (u : MS) (f w : Int32) : Int64 × MS := match u with
  | (_, yr, nf, no, nt, bd, nb, fl, AI, AN, AB, AL) => (if inN f nf = false then -1000000000000000001 else if w = 0 then AL 2 (ixn f) else if w = 1 then m_enc AI AN no f else if w = 2 then AL 3 (ixn f) else if w = 3 then m_free AI AN AL no (ixn f) else -1000000000000000001, (0, yr, nf, no, nt, bd, nb, fl, AI, AN, AB, AL))
def m_told (u : MS) (i w : Int32) : Int64 × MS := match u with
  | (_, yr, nf, no, nt, bd, nb, fl, AI, AN, AB, AL) => (if inN i no = false then -1000000000000000001 else if w = 0 then (nI (AN 4 (ixn i))).toInt64 else if w = 1 then (AI 5 (ixn i)).toInt64 else if w = 2 then (AI 7 (ixn i)).toInt64 else if w = 3 then (AI 9 (ixn i)).toInt64 else if w = 4 then AL 10 (ixn i) else if w = 5 then (AI 11 (ixn i)).toInt64 else -1000000000000000001, (0, yr, nf, no, nt, bd, nb, fl, AI, AN, AB, AL))
def m_sum (u : MS) (w : Int32) : Int64 × MS := match u with
  | (_, yr, nf, no, nt, bd, nb, fl, AI, AN, AB, AL) => (if w = 0 then sumL (AL 2) nf else if w = 1 then yr.toInt64 else if w = 2 then (nI no).toInt64 else if w = 3 then (nI nt).toInt64 else -1, (0, yr, nf, no, nt, bd, nb, fl, AI, AN, AB, AL))
theorem inN_of {f : Int32} {n : Nat} (hn : n < 2 ^ 30) (h : inN f n = true) : ∃ j, j < n ∧ f = nI j := ix_of hn h
theorem inN_no {f : Int32} {n : Nat} (hn : n < 2 ^ 30) (h : inN f n = false) {j : Nat} (hj : j < n) : f ≠ nI j := ix_no hn h hj
theorem inN_yes {n j : Nat} (hn : n < 2 ^ 30) (hj : j < n) : inN (nI j) n = true := ix_yes hn hj
theorem inN_false {f : Int32} {n : Nat} (hn : n < 2 ^ 30) (h : ∀ j, j < n → f ≠ nI j) : inN f n = false := by
  cases q : inN f n with
  | false => rfl
  | true =>
    obtain ⟨j, hj, e⟩ := inN_of hn q
    exact absurd e (h j hj)
/-- a place of an array of N that holds n objects: which one, or null -/
theorem at_cases {x : Int32} {N n : Nat} {a : Nat → Nat} {r : Option Nat} (hn : n ≤ N) (hN : N < 2 ^ 30) (hr : r = if inN x N = true then (fun i => if i < n then some (a i) else none) x.toNatClampNeg else none) : (inN x n = false ∧ r = none) ∨ (∃ j, j < n ∧ x = nI j ∧ r = some (a j)) := by
  cases q : inN x N with
  | false =>
    refine Or.inl ⟨inN_false (by omega) (fun j hj => inN_no hN q (by omega)), ?_⟩
    rw [hr, q]
    rfl
  | true =>
    obtain ⟨j, hj, rfl⟩ := inN_of hN q
    have hc : (nI j).toNatClampNeg = j := nI_clamp (by omega)
    rw [q, if_pos rfl] at hr
    dsimp only at hr
    rw [hc] at hr
    by_cases hjn : j < n
    · rw [if_pos hjn] at hr
      exact Or.inr ⟨j, hjn, rfl, hr⟩
    · rw [if_neg hjn] at hr
      refine Or.inl ⟨inN_false (by omega) (fun i hi e => ?_), hr⟩
      have : j = i := (nI_eq (by omega) (by omega)).mp e
      omega
theorem inN_vp {f : Int32} {n : Nat} (hn : n < 2 ^ 30) (h : inN f n = true) : vp_in f n := by
  obtain ⟨j, hj, rfl⟩ := inN_of hn h
  exact vp_in_nI hj (by omega)
end
section
theorem k_0 : (Jvm.Cond.selects "FundBook" { cls := "FundBook", name := "accountAt", desc := "(I)LFundBook$Account;" } { cls := "FundBook", name := "accountAt", desc := "(I)LFundBook$Account;" }) ∈ wG := wG_in 0 (by decide +kernel) rfl
theorem k_1 : (Jvm.Cond.selects "FundBook" { cls := "FundBook", name := "purchaseAt", desc := "(I)LFundBook$Purchase;" } { cls := "FundBook", name := "purchaseAt", desc := "(I)LFundBook$Purchase;" }) ∈ wG := wG_in 1 (by decide +kernel) rfl
theorem k_2 : (Jvm.Cond.selects "FundBook" { cls := "FundBook", name := "isCurrency", desc := "(I)Z" } { cls := "FundBook", name := "isCurrency", desc := "(I)Z" }) ∈ wG := wG_in 2 (by decide +kernel) rfl
theorem k_3 : (Jvm.Cond.selects "FundBook" { cls := "FundBook", name := "rateOn", desc := "(II)LFundBook$Rate;" } { cls := "FundBook", name := "rateOn", desc := "(II)LFundBook$Rate;" }) ∈ wG := wG_in 3 (by decide +kernel) rfl
theorem k_4 : (Jvm.Cond.selects "FundBook" { cls := "FundBook", name := "moveAt", desc := "(I)LFundBook$Move;" } { cls := "FundBook", name := "moveAt", desc := "(I)LFundBook$Move;" }) ∈ wG := wG_in 4 (by decide +kernel) rfl
theorem k_5 : (Jvm.Cond.selects "FundBook" { cls := "FundBook", name := "givenToAll", desc := "()J" } { cls := "FundBook", name := "givenToAll", desc := "()J" }) ∈ wG := wG_in 5 (by decide +kernel) rfl
theorem k_6 : (Jvm.Cond.selects "java/lang/Throwable" { cls := "java/lang/Throwable", name := "fillInStackTrace", desc := "(I)Ljava/lang/Throwable;" } { cls := "java/lang/Throwable", name := "fillInStackTrace", desc := "(I)Ljava/lang/Throwable;" }) ∈ wG := wG_in 6 (by decide +kernel) rfl
theorem k_7 : (Jvm.Cond.selects "FundBookModel" { cls := "FundBookModel", name := "isFund", desc := "(I)Z" } { cls := "FundBookModel", name := "isFund", desc := "(I)Z" }) ∈ wG := wG_in 7 (by decide +kernel) rfl
theorem k_8 : (Jvm.Cond.selects "FundBookModel" { cls := "FundBookModel", name := "fits", desc := "(IJJJ)Z" } { cls := "FundBookModel", name := "fits", desc := "(IJJJ)Z" }) ∈ wG := wG_in 8 (by decide +kernel) rfl
theorem k_9 : (Jvm.Cond.selects "FundBookModel" { cls := "FundBookModel", name := "encumbered", desc := "(I)J" } { cls := "FundBookModel", name := "encumbered", desc := "(I)J" }) ∈ wG := wG_in 9 (by decide +kernel) rfl
theorem k_10 : (Jvm.Cond.selects "FundBookModel" { cls := "FundBookModel", name := "free", desc := "(I)J" } { cls := "FundBookModel", name := "free", desc := "(I)J" }) ∈ wG := wG_in 10 (by decide +kernel) rfl
theorem k_11 : (Jvm.Cond.selects "FundBookModel" { cls := "FundBookModel", name := "rowOn", desc := "(II)I" } { cls := "FundBookModel", name := "rowOn", desc := "(II)I" }) ∈ wG := wG_in 11 (by decide +kernel) rfl
theorem k_12 : (Jvm.Cond.selects "FundBookModel" { cls := "FundBookModel", name := "batched", desc := "(I)J" } { cls := "FundBookModel", name := "batched", desc := "(I)J" }) ∈ wG := wG_in 12 (by decide +kernel) rfl
theorem k_13 : (Jvm.Cond.initialized "FundBookLaw") ∈ wG := wG_in 13 (by decide +kernel) rfl
theorem k_14 : (Jvm.Cond.initialized "FundBook") ∈ wG := wG_in 14 (by decide +kernel) rfl
theorem k_15 : (Jvm.Cond.initialized "FundBook$Batch") ∈ wG := wG_in 15 (by decide +kernel) rfl
theorem k_16 : (Jvm.Cond.initialized "java/lang/Math") ∈ wG := wG_in 16 (by decide +kernel) rfl
theorem k_17 : (Jvm.Cond.initialized "FundBookModel") ∈ wG := wG_in 17 (by decide +kernel) rfl
theorem k_18 : (Jvm.Cond.initialized "FundBook$Account") ∈ wG := wG_in 18 (by decide +kernel) rfl
theorem k_19 : (Jvm.Cond.initialized "FundBook$Purchase") ∈ wG := wG_in 19 (by decide +kernel) rfl
theorem k_20 : (Jvm.Cond.initialized "FundBook$Approvals") ∈ wG := wG_in 20 (by decide +kernel) rfl
theorem k_21 : (Jvm.Cond.initialized "FundBook$Rate") ∈ wG := wG_in 21 (by decide +kernel) rfl
theorem k_22 : (Jvm.Cond.initialized "FundBook$Move") ∈ wG := wG_in 22 (by decide +kernel) rfl
theorem k_23 : (Jvm.Cond.initialized "java/lang/Throwable") ∈ wG := wG_in 23 (by decide +kernel) rfl
theorem k_24 : (Jvm.Cond.initialized "java/lang/Exception") ∈ wG := wG_in 24 (by decide +kernel) rfl
theorem k_25 : (Jvm.Cond.initialized "java/lang/RuntimeException") ∈ wG := wG_in 25 (by decide +kernel) rfl
theorem k_26 : (Jvm.Cond.initialized "java/lang/IllegalStateException") ∈ wG := wG_in 26 (by decide +kernel) rfl
theorem k_27 : (Jvm.Cond.classLink "FundBookLaw" 8 "FundBook") ∈ wG := wG_in 27 (by decide +kernel) rfl
theorem k_28 : (Jvm.Cond.instantiable "FundBook" 11) ∈ wG := wG_in 28 (by decide +kernel) rfl
theorem k_29 : (Jvm.Cond.methodLink "FundBookLaw" 21 { cls := "FundBook", name := "<init>", desc := "(I)V" }) ∈ wG := wG_in 29 (by decide +kernel) rfl
theorem k_30 : (Jvm.Cond.instanceMethod { cls := "FundBook", name := "<init>", desc := "(I)V" }) ∈ wG := wG_in 30 (by decide +kernel) rfl
theorem k_31 : (Jvm.Cond.code { cls := "FundBook", name := "<init>", desc := "(I)V" } prog_1_method_1_code 2 none) ∈ wG := wG_in 31 (by decide +kernel) rfl
theorem k_32 : (Jvm.Cond.methodLink "FundBook" 1 { cls := "java/lang/Object", name := "<init>", desc := "()V" }) ∈ wG := wG_in 32 (by decide +kernel) rfl
theorem k_33 : (Jvm.Cond.instanceMethod { cls := "java/lang/Object", name := "<init>", desc := "()V" }) ∈ wG := wG_in 33 (by decide +kernel) rfl
theorem k_34 : (Jvm.Cond.code { cls := "java/lang/Object", name := "<init>", desc := "()V" } object_method_1_code 1 none) ∈ wG := wG_in 34 (by decide +kernel) rfl
theorem k_35 : (Jvm.Cond.classLink "FundBook" 9 "FundBook$Account") ∈ wG := wG_in 35 (by decide +kernel) rfl
theorem k_36 : (Jvm.Cond.arrayOver (.object "FundBook$Account")) ∈ lw_tbl := List.mem_of_getElem? (i := 36) (by decide +kernel)
theorem k_37 : (Jvm.Cond.classLink "FundBook" 15 "FundBook$Purchase") ∈ wG := wG_in 37 (by decide +kernel) rfl
theorem k_38 : (Jvm.Cond.arrayOver (.object "FundBook$Purchase")) ∈ lw_tbl := List.mem_of_getElem? (i := 38) (by decide +kernel)
theorem k_39 : (Jvm.Cond.classLink "FundBook" 21 "FundBook$Move") ∈ wG := wG_in 39 (by decide +kernel) rfl
theorem k_40 : (Jvm.Cond.arrayOver (.object "FundBook$Move")) ∈ lw_tbl := List.mem_of_getElem? (i := 40) (by decide +kernel)
theorem k_41 : (Jvm.Cond.classLink "FundBook" 27 "FundBook$Rate") ∈ wG := wG_in 41 (by decide +kernel) rfl
theorem k_42 : (Jvm.Cond.arrayOver (.object "FundBook$Rate")) ∈ lw_tbl := List.mem_of_getElem? (i := 42) (by decide +kernel)
theorem k_43 : (Jvm.Cond.classLink "FundBook" 33 "FundBook$Batch") ∈ wG := wG_in 43 (by decide +kernel) rfl
theorem k_44 : (Jvm.Cond.instantiable "FundBook$Batch" 3) ∈ wG := wG_in 44 (by decide +kernel) rfl
theorem k_45 : (Jvm.Cond.methodLinkNest "FundBook" 35 { cls := "FundBook$Batch", name := "<init>", desc := "()V" } "FundBook") ∈ wN := wN_in 45 (by decide +kernel) rfl
theorem k_46 : (Jvm.Cond.instanceMethod { cls := "FundBook$Batch", name := "<init>", desc := "()V" }) ∈ wG := wG_in 46 (by decide +kernel) rfl
theorem k_47 : (Jvm.Cond.code { cls := "FundBook$Batch", name := "<init>", desc := "()V" } prog_4_method_1_code 1 none) ∈ wG := wG_in 47 (by decide +kernel) rfl
theorem k_48 : (Jvm.Cond.methodLink "FundBook$Batch" 3 { cls := "java/lang/Object", name := "<init>", desc := "()V" }) ∈ wG := wG_in 48 (by decide +kernel) rfl
theorem k_49 : (Jvm.Cond.classLink "FundBook$Batch" 9 "FundBook$Account") ∈ wG := wG_in 49 (by decide +kernel) rfl
theorem k_50 : (Jvm.Cond.fieldLink "FundBook$Batch" 11 "FundBook$Batch" "rows" "[LFundBook$Account;") ∈ wG := wG_in 50 (by decide +kernel) rfl
theorem k_51 : (Jvm.Cond.fieldLink "FundBook$Batch" 17 "FundBook$Batch" "count" "I") ∈ wG := wG_in 51 (by decide +kernel) rfl
theorem k_52 : (Jvm.Cond.fieldLinkNest "FundBook" 221 "FundBook$Batch" "count" "I" "FundBook") ∈ wN := wN_in 52 (by decide +kernel) rfl
theorem k_53 : (Jvm.Cond.fieldLink "FundBook$Batch" 29 "FundBook$Batch" "total" "J") ∈ wG := wG_in 53 (by decide +kernel) rfl
theorem k_61 : (Jvm.Cond.methodLink "FundBook" 47 { cls := "java/lang/Math", name := "min", desc := "(II)I" }) ∈ wG := wG_in 61 (by decide +kernel) rfl
theorem k_62 : (Jvm.Cond.static { cls := "java/lang/Math", name := "min", desc := "(II)I" }) ∈ wG := wG_in 62 (by decide +kernel) rfl
theorem k_63 : (Jvm.Cond.code { cls := "java/lang/Math", name := "min", desc := "(II)I" } prog_12_method_69_code 2 (some .int)) ∈ wG := wG_in 63 (by decide +kernel) rfl
theorem k_64 : (Jvm.Cond.methodLink "FundBook" 53 { cls := "java/lang/Math", name := "max", desc := "(II)I" }) ∈ wG := wG_in 64 (by decide +kernel) rfl
theorem k_65 : (Jvm.Cond.static { cls := "java/lang/Math", name := "max", desc := "(II)I" }) ∈ wG := wG_in 65 (by decide +kernel) rfl
theorem k_66 : (Jvm.Cond.code { cls := "java/lang/Math", name := "max", desc := "(II)I" } prog_12_method_65_code 2 (some .int)) ∈ wG := wG_in 66 (by decide +kernel) rfl
theorem k_67 : (Jvm.Cond.fieldLink "FundBook" 11 "FundBook" "accounts" "[LFundBook$Account;") ∈ wG := wG_in 67 (by decide +kernel) rfl
theorem k_68 : (Jvm.Cond.fieldLink "FundBook" 17 "FundBook" "purchases" "[LFundBook$Purchase;") ∈ wG := wG_in 68 (by decide +kernel) rfl
theorem k_69 : (Jvm.Cond.fieldLink "FundBook" 23 "FundBook" "moves" "[LFundBook$Move;") ∈ wG := wG_in 69 (by decide +kernel) rfl
theorem k_70 : (Jvm.Cond.fieldLink "FundBook" 29 "FundBook" "latestRates" "[LFundBook$Rate;") ∈ wG := wG_in 70 (by decide +kernel) rfl
theorem k_71 : (Jvm.Cond.fieldLink "FundBook" 36 "FundBook" "batch" "LFundBook$Batch;") ∈ wG := wG_in 71 (by decide +kernel) rfl
theorem k_72 : (Jvm.Cond.fieldLink "FundBook" 65 "FundBook" "accountCount" "I") ∈ wG := wG_in 72 (by decide +kernel) rfl
theorem k_73 : (Jvm.Cond.fieldLink "FundBook" 86 "FundBook" "purchaseCount" "I") ∈ wG := wG_in 73 (by decide +kernel) rfl
theorem k_74 : (Jvm.Cond.fieldLink "FundBook" 188 "FundBook" "moveCount" "I") ∈ wG := wG_in 74 (by decide +kernel) rfl
theorem k_75 : (Jvm.Cond.fieldLink "FundBook" 56 "FundBook" "currentYear" "I") ∈ wG := wG_in 75 (by decide +kernel) rfl
theorem k_76 : (Jvm.Cond.fieldLink "FundBook" 40 "FundBook" "tolerance" "I") ∈ wG := wG_in 76 (by decide +kernel) rfl
theorem k_77 : (Jvm.Cond.fieldLink "FundBook" 44 "FundBook" "failingFund" "I") ∈ wG := wG_in 77 (by decide +kernel) rfl
theorem k_101 : (Jvm.Cond.methodLink "FundBookLaw" 27 { cls := "FundBook", name := "fund", desc := "(I)I" }) ∈ wG := wG_in 101 (by decide +kernel) rfl
theorem k_102 : (Jvm.Cond.instanceMethod { cls := "FundBook", name := "fund", desc := "(I)I" }) ∈ wG := wG_in 102 (by decide +kernel) rfl
theorem k_103 : (Jvm.Cond.selects "FundBook" { cls := "FundBook", name := "fund", desc := "(I)I" } { cls := "FundBook", name := "fund", desc := "(I)I" }) ∈ wG := wG_in 103 (by decide +kernel) rfl
theorem k_104 : (Jvm.Cond.code { cls := "FundBook", name := "fund", desc := "(I)I" } prog_1_method_2_code 3 (some .int)) ∈ wG := wG_in 104 (by decide +kernel) rfl
theorem k_105 : (Jvm.Cond.constantLong "FundBook" 59 2) ∈ wG := wG_in 105 (by decide +kernel) rfl
theorem k_106 : (Jvm.Cond.methodLink "FundBook" 61 { cls := "FundBook", name := "isWithin", desc := "(JJJ)Z" }) ∈ wG := wG_in 106 (by decide +kernel) rfl
theorem k_107 : (Jvm.Cond.static { cls := "FundBook", name := "isWithin", desc := "(JJJ)Z" }) ∈ wG := wG_in 107 (by decide +kernel) rfl
theorem k_108 : (Jvm.Cond.code { cls := "FundBook", name := "isWithin", desc := "(JJJ)Z" } prog_1_method_25_code 6 (some .boolean)) ∈ wG := wG_in 108 (by decide +kernel) rfl
theorem k_109 : (Jvm.Cond.instantiable "FundBook$Account" 6) ∈ wG := wG_in 109 (by decide +kernel) rfl
theorem k_110 : (Jvm.Cond.methodLink "FundBook" 68 { cls := "FundBook$Account", name := "<init>", desc := "(II)V" }) ∈ wG := wG_in 110 (by decide +kernel) rfl
theorem k_111 : (Jvm.Cond.instanceMethod { cls := "FundBook$Account", name := "<init>", desc := "(II)V" }) ∈ wG := wG_in 111 (by decide +kernel) rfl
theorem k_112 : (Jvm.Cond.code { cls := "FundBook$Account", name := "<init>", desc := "(II)V" } prog_2_method_1_code 3 none) ∈ wG := wG_in 112 (by decide +kernel) rfl
theorem k_113 : (Jvm.Cond.methodLink "FundBook$Account" 3 { cls := "java/lang/Object", name := "<init>", desc := "()V" }) ∈ wG := wG_in 113 (by decide +kernel) rfl
theorem k_114 : (Jvm.Cond.fieldLink "FundBook$Account" 9 "FundBook$Account" "number" "I") ∈ wG := wG_in 114 (by decide +kernel) rfl
theorem k_115 : (Jvm.Cond.fieldLinkNest "FundBook" 230 "FundBook$Account" "number" "I" "FundBook") ∈ wN := wN_in 115 (by decide +kernel) rfl
theorem k_116 : (Jvm.Cond.fieldLink "FundBook$Account" 15 "FundBook$Account" "carry" "I") ∈ wG := wG_in 116 (by decide +kernel) rfl
theorem k_117 : (Jvm.Cond.fieldLink "FundBook$Account" 18 "FundBook$Account" "given" "J") ∈ wG := wG_in 117 (by decide +kernel) rfl
theorem k_118 : (Jvm.Cond.fieldLinkNest "FundBook" 80 "FundBook$Account" "given" "J" "FundBook") ∈ wN := wN_in 118 (by decide +kernel) rfl
theorem k_119 : (Jvm.Cond.fieldLinkNest "FundBook$Move" 42 "FundBook$Account" "given" "J" "FundBook") ∈ wN := wN_in 119 (by decide +kernel) rfl
theorem k_120 : (Jvm.Cond.fieldLinkNest "FundBook$Batch" 36 "FundBook$Account" "given" "J" "FundBook") ∈ wN := wN_in 120 (by decide +kernel) rfl
theorem k_121 : (Jvm.Cond.fieldLink "FundBook$Account" 22 "FundBook$Account" "encumbered" "J") ∈ wG := wG_in 121 (by decide +kernel) rfl
theorem k_122 : (Jvm.Cond.fieldLinkNest "FundBook$Purchase" 36 "FundBook$Account" "encumbered" "J" "FundBook") ∈ wN := wN_in 122 (by decide +kernel) rfl
theorem k_123 : (Jvm.Cond.fieldLinkNest "FundBook" 172 "FundBook$Account" "encumbered" "J" "FundBook") ∈ wN := wN_in 123 (by decide +kernel) rfl
theorem k_124 : (Jvm.Cond.fieldLink "FundBook$Account" 25 "FundBook$Account" "spent" "J") ∈ wG := wG_in 124 (by decide +kernel) rfl
theorem k_125 : (Jvm.Cond.fieldLinkNest "FundBook$Purchase" 55 "FundBook$Account" "spent" "J" "FundBook") ∈ wN := wN_in 125 (by decide +kernel) rfl
theorem k_126 : (Jvm.Cond.fieldLinkNest "FundBook" 245 "FundBook$Account" "spent" "J" "FundBook") ∈ wN := wN_in 126 (by decide +kernel) rfl
theorem k_127 : (Jvm.Cond.fieldLinkNest "FundBook$Batch" 25 "FundBook$Account" "pending" "J" "FundBook") ∈ wN := wN_in 127 (by decide +kernel) rfl
theorem k_141 : (Jvm.Cond.methodLink "FundBookLaw" 34 { cls := "FundBook", name := "give", desc := "(IJ)I" }) ∈ wG := wG_in 141 (by decide +kernel) rfl
theorem k_142 : (Jvm.Cond.instanceMethod { cls := "FundBook", name := "give", desc := "(IJ)I" }) ∈ wG := wG_in 142 (by decide +kernel) rfl
theorem k_143 : (Jvm.Cond.selects "FundBook" { cls := "FundBook", name := "give", desc := "(IJ)I" } { cls := "FundBook", name := "give", desc := "(IJ)I" }) ∈ wG := wG_in 143 (by decide +kernel) rfl
theorem k_144 : (Jvm.Cond.code { cls := "FundBook", name := "give", desc := "(IJ)I" } prog_1_method_3_code 5 (some .int)) ∈ wG := wG_in 144 (by decide +kernel) rfl
theorem k_145 : (Jvm.Cond.methodLink "FundBook" 71 { cls := "FundBook", name := "accountAt", desc := "(I)LFundBook$Account;" }) ∈ wG := wG_in 145 (by decide +kernel) rfl
theorem k_147 : (Jvm.Cond.instanceMethod { cls := "FundBook", name := "accountAt", desc := "(I)LFundBook$Account;" }) ∈ wG := wG_in 147 (by decide +kernel) rfl
theorem k_148 : (Jvm.Cond.code { cls := "FundBook", name := "accountAt", desc := "(I)LFundBook$Account;" } prog_1_method_20_code 2 (some (.object "FundBook$Account"))) ∈ wG := wG_in 148 (by decide +kernel) rfl
theorem k_149 : (Jvm.Cond.constantLong "FundBook" 75 1000000000000) ∈ wG := wG_in 149 (by decide +kernel) rfl
theorem k_150 : (Jvm.Cond.methodLink "FundBook" 77 { cls := "FundBook$Account", name := "hasRoomFor", desc := "(JJJ)Z" }) ∈ wG := wG_in 150 (by decide +kernel) rfl
theorem k_151 : (Jvm.Cond.instanceMethod { cls := "FundBook$Account", name := "hasRoomFor", desc := "(JJJ)Z" }) ∈ wG := wG_in 151 (by decide +kernel) rfl
theorem k_152 : (Jvm.Cond.selects "FundBook$Account" { cls := "FundBook$Account", name := "hasRoomFor", desc := "(JJJ)Z" } { cls := "FundBook$Account", name := "hasRoomFor", desc := "(JJJ)Z" }) ∈ wG := wG_in 152 (by decide +kernel) rfl
theorem k_153 : (Jvm.Cond.code { cls := "FundBook$Account", name := "hasRoomFor", desc := "(JJJ)Z" } prog_2_method_3_code 7 (some .boolean)) ∈ wG := wG_in 153 (by decide +kernel) rfl
theorem k_154 : (Jvm.Cond.methodLinkNest "FundBook$Account" 28 { cls := "FundBook", name := "isAmount", desc := "(J)Z" } "FundBook") ∈ wN := wN_in 154 (by decide +kernel) rfl
theorem k_155 : (Jvm.Cond.static { cls := "FundBook", name := "isAmount", desc := "(J)Z" }) ∈ wG := wG_in 155 (by decide +kernel) rfl
theorem k_156 : (Jvm.Cond.code { cls := "FundBook", name := "isAmount", desc := "(J)Z" } prog_1_method_26_code 2 (some .boolean)) ∈ wG := wG_in 156 (by decide +kernel) rfl
theorem k_157 : (Jvm.Cond.constantLong "FundBook" 261 (-1000000000000000)) ∈ wG := wG_in 157 (by decide +kernel) rfl
theorem k_158 : (Jvm.Cond.constantLong "FundBook" 263 1000000000000000) ∈ wG := wG_in 158 (by decide +kernel) rfl
theorem k_159 : (Jvm.Cond.methodLink "FundBook$Account" 32 { cls := "FundBook$Account", name := "free", desc := "()J" }) ∈ wG := wG_in 159 (by decide +kernel) rfl
theorem k_160 : (Jvm.Cond.instanceMethod { cls := "FundBook$Account", name := "free", desc := "()J" }) ∈ wG := wG_in 160 (by decide +kernel) rfl
theorem k_161 : (Jvm.Cond.selects "FundBook$Account" { cls := "FundBook$Account", name := "free", desc := "()J" } { cls := "FundBook$Account", name := "free", desc := "()J" }) ∈ wG := wG_in 161 (by decide +kernel) rfl
theorem k_162 : (Jvm.Cond.code { cls := "FundBook$Account", name := "free", desc := "()J" } prog_2_method_2_code 1 (some .long)) ∈ wG := wG_in 162 (by decide +kernel) rfl
theorem k_163 : (Jvm.Cond.methodLink "FundBookLaw" 39 { cls := "FundBook", name := "order", desc := "(IIZ)I" }) ∈ wG := wG_in 163 (by decide +kernel) rfl
theorem k_164 : (Jvm.Cond.instanceMethod { cls := "FundBook", name := "order", desc := "(IIZ)I" }) ∈ wG := wG_in 164 (by decide +kernel) rfl
theorem k_165 : (Jvm.Cond.selects "FundBook" { cls := "FundBook", name := "order", desc := "(IIZ)I" } { cls := "FundBook", name := "order", desc := "(IIZ)I" }) ∈ wG := wG_in 165 (by decide +kernel) rfl
theorem k_166 : (Jvm.Cond.code { cls := "FundBook", name := "order", desc := "(IIZ)I" } prog_1_method_4_code 7 (some .int)) ∈ wG := wG_in 166 (by decide +kernel) rfl
theorem k_167 : (Jvm.Cond.constantLong "FundBook" 84 1000000000) ∈ wG := wG_in 167 (by decide +kernel) rfl
theorem k_168 : (Jvm.Cond.instantiable "FundBook$Purchase" 8) ∈ wG := wG_in 168 (by decide +kernel) rfl
theorem k_169 : (Jvm.Cond.methodLink "FundBook" 89 { cls := "FundBook$Purchase", name := "<init>", desc := "(LFundBook$Account;IZ)V" }) ∈ wG := wG_in 169 (by decide +kernel) rfl
theorem k_170 : (Jvm.Cond.instanceMethod { cls := "FundBook$Purchase", name := "<init>", desc := "(LFundBook$Account;IZ)V" }) ∈ wG := wG_in 170 (by decide +kernel) rfl
theorem k_171 : (Jvm.Cond.code { cls := "FundBook$Purchase", name := "<init>", desc := "(LFundBook$Account;IZ)V" } prog_6_method_1_code 4 none) ∈ wG := wG_in 171 (by decide +kernel) rfl
theorem k_172 : (Jvm.Cond.methodLink "FundBook$Purchase" 3 { cls := "java/lang/Object", name := "<init>", desc := "()V" }) ∈ wG := wG_in 172 (by decide +kernel) rfl
theorem k_173 : (Jvm.Cond.classLink "FundBook$Purchase" 9 "FundBook$Approvals") ∈ wG := wG_in 173 (by decide +kernel) rfl
theorem k_174 : (Jvm.Cond.instantiable "FundBook$Approvals" 3) ∈ wG := wG_in 174 (by decide +kernel) rfl
theorem k_175 : (Jvm.Cond.methodLinkNest "FundBook$Purchase" 11 { cls := "FundBook$Approvals", name := "<init>", desc := "()V" } "FundBook") ∈ wN := wN_in 175 (by decide +kernel) rfl
theorem k_176 : (Jvm.Cond.instanceMethod { cls := "FundBook$Approvals", name := "<init>", desc := "()V" }) ∈ wG := wG_in 176 (by decide +kernel) rfl
theorem k_177 : (Jvm.Cond.code { cls := "FundBook$Approvals", name := "<init>", desc := "()V" } prog_3_method_1_code 1 none) ∈ wG := wG_in 177 (by decide +kernel) rfl
theorem k_178 : (Jvm.Cond.methodLink "FundBook$Approvals" 1 { cls := "java/lang/Object", name := "<init>", desc := "()V" }) ∈ wG := wG_in 178 (by decide +kernel) rfl
theorem k_179 : (Jvm.Cond.fieldLink "FundBook$Approvals" 9 "FundBook$Approvals" "lowPersons" "J") ∈ wG := wG_in 179 (by decide +kernel) rfl
theorem k_180 : (Jvm.Cond.fieldLink "FundBook$Approvals" 13 "FundBook$Approvals" "highPersons" "J") ∈ wG := wG_in 180 (by decide +kernel) rfl
theorem k_181 : (Jvm.Cond.fieldLinkNest "FundBook$Move" 29 "FundBook$Approvals" "count" "I" "FundBook") ∈ wN := wN_in 181 (by decide +kernel) rfl
theorem k_182 : (Jvm.Cond.fieldLink "FundBook$Approvals" 20 "FundBook$Approvals" "count" "I") ∈ wG := wG_in 182 (by decide +kernel) rfl
theorem k_183 : (Jvm.Cond.fieldLinkNest "FundBook" 122 "FundBook$Approvals" "count" "I" "FundBook") ∈ wN := wN_in 183 (by decide +kernel) rfl
theorem k_191 : (Jvm.Cond.fieldLink "FundBook$Purchase" 25 "FundBook$Purchase" "account" "LFundBook$Account;") ∈ wG := wG_in 191 (by decide +kernel) rfl
theorem k_192 : (Jvm.Cond.fieldLinkNest "FundBook" 168 "FundBook$Purchase" "account" "LFundBook$Account;" "FundBook") ∈ wN := wN_in 192 (by decide +kernel) rfl
theorem k_193 : (Jvm.Cond.fieldLink "FundBook$Purchase" 29 "FundBook$Purchase" "cents" "I") ∈ wG := wG_in 193 (by decide +kernel) rfl
theorem k_194 : (Jvm.Cond.fieldLinkNest "FundBook" 165 "FundBook$Purchase" "cents" "I" "FundBook") ∈ wN := wN_in 194 (by decide +kernel) rfl
theorem k_195 : (Jvm.Cond.fieldLink "FundBook$Purchase" 32 "FundBook$Purchase" "standing" "Z") ∈ wG := wG_in 195 (by decide +kernel) rfl
theorem k_196 : (Jvm.Cond.fieldLink "FundBook$Purchase" 12 "FundBook$Purchase" "approvals" "LFundBook$Approvals;") ∈ wG := wG_in 196 (by decide +kernel) rfl
theorem k_197 : (Jvm.Cond.fieldLinkNest "FundBook" 108 "FundBook$Purchase" "approvals" "LFundBook$Approvals;" "FundBook") ∈ wN := wN_in 197 (by decide +kernel) rfl
theorem k_198 : (Jvm.Cond.fieldLink "FundBook$Purchase" 18 "FundBook$Purchase" "state" "I") ∈ wG := wG_in 198 (by decide +kernel) rfl
theorem k_199 : (Jvm.Cond.fieldLinkNest "FundBook" 105 "FundBook$Purchase" "state" "I" "FundBook") ∈ wN := wN_in 199 (by decide +kernel) rfl
theorem k_200 : (Jvm.Cond.fieldLink "FundBook$Purchase" 61 "FundBook$Purchase" "invoiceCount" "I") ∈ wG := wG_in 200 (by decide +kernel) rfl
theorem k_201 : (Jvm.Cond.fieldLinkNest "FundBook" 251 "FundBook$Purchase" "invoiceCount" "I" "FundBook") ∈ wN := wN_in 201 (by decide +kernel) rfl
theorem k_202 : (Jvm.Cond.fieldLink "FundBook$Purchase" 22 "FundBook$Purchase" "latestMonth" "I") ∈ wG := wG_in 202 (by decide +kernel) rfl
theorem k_203 : (Jvm.Cond.fieldLink "FundBook$Purchase" 58 "FundBook$Purchase" "latestExcess" "J") ∈ wG := wG_in 203 (by decide +kernel) rfl
theorem k_204 : (Jvm.Cond.fieldLinkNest "FundBook" 248 "FundBook$Purchase" "latestExcess" "J" "FundBook") ∈ wN := wN_in 204 (by decide +kernel) rfl
theorem k_222 : (Jvm.Cond.methodLink "FundBook" 92 { cls := "FundBook$Account", name := "free", desc := "()J" }) ∈ wG := wG_in 222 (by decide +kernel) rfl
theorem k_223 : (Jvm.Cond.methodLink "FundBook" 96 { cls := "FundBook$Purchase", name := "place", desc := "()V" }) ∈ wG := wG_in 223 (by decide +kernel) rfl
theorem k_224 : (Jvm.Cond.instanceMethod { cls := "FundBook$Purchase", name := "place", desc := "()V" }) ∈ wG := wG_in 224 (by decide +kernel) rfl
theorem k_225 : (Jvm.Cond.selects "FundBook$Purchase" { cls := "FundBook$Purchase", name := "place", desc := "()V" } { cls := "FundBook$Purchase", name := "place", desc := "()V" }) ∈ wG := wG_in 225 (by decide +kernel) rfl
theorem k_226 : (Jvm.Cond.code { cls := "FundBook$Purchase", name := "place", desc := "()V" } prog_6_method_2_code 1 none) ∈ wG := wG_in 226 (by decide +kernel) rfl
theorem k_227 : (Jvm.Cond.methodLink "FundBookLaw" 44 { cls := "FundBook", name := "approve", desc := "(II)I" }) ∈ wG := wG_in 227 (by decide +kernel) rfl
theorem k_228 : (Jvm.Cond.instanceMethod { cls := "FundBook", name := "approve", desc := "(II)I" }) ∈ wG := wG_in 228 (by decide +kernel) rfl
theorem k_229 : (Jvm.Cond.selects "FundBook" { cls := "FundBook", name := "approve", desc := "(II)I" } { cls := "FundBook", name := "approve", desc := "(II)I" }) ∈ wG := wG_in 229 (by decide +kernel) rfl
theorem k_230 : (Jvm.Cond.code { cls := "FundBook", name := "approve", desc := "(II)I" } prog_1_method_5_code 4 (some .int)) ∈ wG := wG_in 230 (by decide +kernel) rfl
theorem k_231 : (Jvm.Cond.methodLink "FundBook" 99 { cls := "FundBook", name := "purchaseAt", desc := "(I)LFundBook$Purchase;" }) ∈ wG := wG_in 231 (by decide +kernel) rfl
theorem k_233 : (Jvm.Cond.instanceMethod { cls := "FundBook", name := "purchaseAt", desc := "(I)LFundBook$Purchase;" }) ∈ wG := wG_in 233 (by decide +kernel) rfl
theorem k_234 : (Jvm.Cond.code { cls := "FundBook", name := "purchaseAt", desc := "(I)LFundBook$Purchase;" } prog_1_method_21_code 2 (some (.object "FundBook$Purchase"))) ∈ wG := wG_in 234 (by decide +kernel) rfl
theorem k_235 : (Jvm.Cond.constantLong "FundBook" 103 99) ∈ wG := wG_in 235 (by decide +kernel) rfl
theorem k_236 : (Jvm.Cond.methodLink "FundBook" 112 { cls := "FundBook$Approvals", name := "include", desc := "(I)Z" }) ∈ wG := wG_in 236 (by decide +kernel) rfl
theorem k_237 : (Jvm.Cond.instanceMethod { cls := "FundBook$Approvals", name := "include", desc := "(I)Z" }) ∈ wG := wG_in 237 (by decide +kernel) rfl
theorem k_238 : (Jvm.Cond.selects "FundBook$Approvals" { cls := "FundBook$Approvals", name := "include", desc := "(I)Z" } { cls := "FundBook$Approvals", name := "include", desc := "(I)Z" }) ∈ wG := wG_in 238 (by decide +kernel) rfl
theorem k_239 : (Jvm.Cond.code { cls := "FundBook$Approvals", name := "include", desc := "(I)Z" } prog_3_method_2_code 4 (some .boolean)) ∈ wG := wG_in 239 (by decide +kernel) rfl
theorem k_240 : (Jvm.Cond.methodLink "FundBook$Approvals" 16 { cls := "FundBook$Approvals", name := "bitOf", desc := "(I)J" }) ∈ wG := wG_in 240 (by decide +kernel) rfl
theorem k_241 : (Jvm.Cond.static { cls := "FundBook$Approvals", name := "bitOf", desc := "(I)J" }) ∈ wG := wG_in 241 (by decide +kernel) rfl
theorem k_242 : (Jvm.Cond.code { cls := "FundBook$Approvals", name := "bitOf", desc := "(I)J" } prog_3_method_4_code 1 (some .long)) ∈ wG := wG_in 242 (by decide +kernel) rfl
theorem k_243 : (Jvm.Cond.methodLink "FundBook" 118 { cls := "FundBook$Approvals", name := "add", desc := "(I)V" }) ∈ wG := wG_in 243 (by decide +kernel) rfl
theorem k_244 : (Jvm.Cond.instanceMethod { cls := "FundBook$Approvals", name := "add", desc := "(I)V" }) ∈ wG := wG_in 244 (by decide +kernel) rfl
theorem k_245 : (Jvm.Cond.selects "FundBook$Approvals" { cls := "FundBook$Approvals", name := "add", desc := "(I)V" } { cls := "FundBook$Approvals", name := "add", desc := "(I)V" }) ∈ wG := wG_in 245 (by decide +kernel) rfl
theorem k_246 : (Jvm.Cond.code { cls := "FundBook$Approvals", name := "add", desc := "(I)V" } prog_3_method_3_code 2 none) ∈ wG := wG_in 246 (by decide +kernel) rfl
theorem k_247 : (Jvm.Cond.methodLink "FundBookLaw" 49 { cls := "FundBook", name := "invoice", desc := "(IIII)J" }) ∈ wG := wG_in 247 (by decide +kernel) rfl
theorem k_248 : (Jvm.Cond.instanceMethod { cls := "FundBook", name := "invoice", desc := "(IIII)J" }) ∈ wG := wG_in 248 (by decide +kernel) rfl
theorem k_249 : (Jvm.Cond.selects "FundBook" { cls := "FundBook", name := "invoice", desc := "(IIII)J" } { cls := "FundBook", name := "invoice", desc := "(IIII)J" }) ∈ wG := wG_in 249 (by decide +kernel) rfl
theorem k_250 : (Jvm.Cond.code { cls := "FundBook", name := "invoice", desc := "(IIII)J" } prog_1_method_6_code 10 (some .long)) ∈ wG := wG_in 250 (by decide +kernel) rfl
theorem k_251 : (Jvm.Cond.constantLong "FundBook" 125 (-1)) ∈ wG := wG_in 251 (by decide +kernel) rfl
theorem k_252 : (Jvm.Cond.methodLink "FundBook" 127 { cls := "FundBook", name := "isCurrency", desc := "(I)Z" }) ∈ wG := wG_in 252 (by decide +kernel) rfl
theorem k_254 : (Jvm.Cond.instanceMethod { cls := "FundBook", name := "isCurrency", desc := "(I)Z" }) ∈ wG := wG_in 254 (by decide +kernel) rfl
theorem k_255 : (Jvm.Cond.code { cls := "FundBook", name := "isCurrency", desc := "(I)Z" } prog_1_method_23_code 2 (some .boolean)) ∈ wG := wG_in 255 (by decide +kernel) rfl
theorem k_256 : (Jvm.Cond.constantLong "FundBook" 130 100000) ∈ wG := wG_in 256 (by decide +kernel) rfl
theorem k_257 : (Jvm.Cond.constantLong "FundBook" 132 (-2)) ∈ wG := wG_in 257 (by decide +kernel) rfl
theorem k_258 : (Jvm.Cond.methodLink "FundBook" 134 { cls := "FundBook$Purchase", name := "awaitsInvoiceIn", desc := "(I)Z" }) ∈ wG := wG_in 258 (by decide +kernel) rfl
theorem k_259 : (Jvm.Cond.instanceMethod { cls := "FundBook$Purchase", name := "awaitsInvoiceIn", desc := "(I)Z" }) ∈ wG := wG_in 259 (by decide +kernel) rfl
theorem k_260 : (Jvm.Cond.selects "FundBook$Purchase" { cls := "FundBook$Purchase", name := "awaitsInvoiceIn", desc := "(I)Z" } { cls := "FundBook$Purchase", name := "awaitsInvoiceIn", desc := "(I)Z" }) ∈ wG := wG_in 260 (by decide +kernel) rfl
theorem k_261 : (Jvm.Cond.code { cls := "FundBook$Purchase", name := "awaitsInvoiceIn", desc := "(I)Z" } prog_6_method_3_code 2 (some .boolean)) ∈ wG := wG_in 261 (by decide +kernel) rfl
theorem k_262 : (Jvm.Cond.constantLong "FundBook" 137 (-3)) ∈ wG := wG_in 262 (by decide +kernel) rfl
theorem k_263 : (Jvm.Cond.methodLink "FundBook" 139 { cls := "FundBook", name := "rateOn", desc := "(II)LFundBook$Rate;" }) ∈ wG := wG_in 263 (by decide +kernel) rfl
theorem k_265 : (Jvm.Cond.instanceMethod { cls := "FundBook", name := "rateOn", desc := "(II)LFundBook$Rate;" }) ∈ wG := wG_in 265 (by decide +kernel) rfl
theorem k_266 : (Jvm.Cond.code { cls := "FundBook", name := "rateOn", desc := "(II)LFundBook$Rate;" } prog_1_method_24_code 4 (some (.object "FundBook$Rate"))) ∈ wG := wG_in 266 (by decide +kernel) rfl
theorem k_267 : (Jvm.Cond.constantLong "FundBook" 143 (-6)) ∈ wG := wG_in 267 (by decide +kernel) rfl
theorem k_268 : (Jvm.Cond.methodLink "FundBook" 145 { cls := "FundBook$Rate", name := "inHouse", desc := "(I)J" }) ∈ wG := wG_in 268 (by decide +kernel) rfl
theorem k_269 : (Jvm.Cond.instanceMethod { cls := "FundBook$Rate", name := "inHouse", desc := "(I)J" }) ∈ wG := wG_in 269 (by decide +kernel) rfl
theorem k_270 : (Jvm.Cond.selects "FundBook$Rate" { cls := "FundBook$Rate", name := "inHouse", desc := "(I)J" } { cls := "FundBook$Rate", name := "inHouse", desc := "(I)J" }) ∈ wG := wG_in 270 (by decide +kernel) rfl
theorem k_271 : (Jvm.Cond.code { cls := "FundBook$Rate", name := "inHouse", desc := "(I)J" } prog_7_method_2_code 2 (some .long)) ∈ wG := wG_in 271 (by decide +kernel) rfl
theorem k_272 : (Jvm.Cond.methodLink "FundBook" 149 { cls := "FundBook$Purchase", name := "isInBand", desc := "(JI)Z" }) ∈ wG := wG_in 272 (by decide +kernel) rfl
theorem k_273 : (Jvm.Cond.instanceMethod { cls := "FundBook$Purchase", name := "isInBand", desc := "(JI)Z" }) ∈ wG := wG_in 273 (by decide +kernel) rfl
theorem k_274 : (Jvm.Cond.selects "FundBook$Purchase" { cls := "FundBook$Purchase", name := "isInBand", desc := "(JI)Z" } { cls := "FundBook$Purchase", name := "isInBand", desc := "(JI)Z" }) ∈ wG := wG_in 274 (by decide +kernel) rfl
theorem k_275 : (Jvm.Cond.code { cls := "FundBook$Purchase", name := "isInBand", desc := "(JI)Z" } prog_6_method_4_code 6 (some .boolean)) ∈ wG := wG_in 275 (by decide +kernel) rfl
theorem k_276 : (Jvm.Cond.constantLong "FundBook$Purchase" 42 1000) ∈ wG := wG_in 276 (by decide +kernel) rfl
theorem k_277 : (Jvm.Cond.methodLinkNest "FundBook$Purchase" 44 { cls := "FundBook", name := "isWithin", desc := "(JJJ)Z" } "FundBook") ∈ wN := wN_in 277 (by decide +kernel) rfl
theorem k_278 : (Jvm.Cond.constantLong "FundBook" 153 (-5)) ∈ wG := wG_in 278 (by decide +kernel) rfl
theorem k_279 : (Jvm.Cond.methodLink "FundBook" 155 { cls := "FundBook$Purchase", name := "hasRoomToPay", desc := "(J)Z" }) ∈ wG := wG_in 279 (by decide +kernel) rfl
theorem k_280 : (Jvm.Cond.instanceMethod { cls := "FundBook$Purchase", name := "hasRoomToPay", desc := "(J)Z" }) ∈ wG := wG_in 280 (by decide +kernel) rfl
theorem k_281 : (Jvm.Cond.selects "FundBook$Purchase" { cls := "FundBook$Purchase", name := "hasRoomToPay", desc := "(J)Z" } { cls := "FundBook$Purchase", name := "hasRoomToPay", desc := "(J)Z" }) ∈ wG := wG_in 281 (by decide +kernel) rfl
theorem k_282 : (Jvm.Cond.code { cls := "FundBook$Purchase", name := "hasRoomToPay", desc := "(J)Z" } prog_6_method_6_code 3 (some .boolean)) ∈ wG := wG_in 282 (by decide +kernel) rfl
theorem k_283 : (Jvm.Cond.methodLink "FundBook$Purchase" 48 { cls := "FundBook$Purchase", name := "releasedByInvoice", desc := "()I" }) ∈ wG := wG_in 283 (by decide +kernel) rfl
theorem k_284 : (Jvm.Cond.instanceMethod { cls := "FundBook$Purchase", name := "releasedByInvoice", desc := "()I" }) ∈ wG := wG_in 284 (by decide +kernel) rfl
theorem k_285 : (Jvm.Cond.selects "FundBook$Purchase" { cls := "FundBook$Purchase", name := "releasedByInvoice", desc := "()I" } { cls := "FundBook$Purchase", name := "releasedByInvoice", desc := "()I" }) ∈ wG := wG_in 285 (by decide +kernel) rfl
theorem k_286 : (Jvm.Cond.code { cls := "FundBook$Purchase", name := "releasedByInvoice", desc := "()I" } prog_6_method_5_code 1 (some .int)) ∈ wG := wG_in 286 (by decide +kernel) rfl
theorem k_287 : (Jvm.Cond.methodLink "FundBook$Purchase" 52 { cls := "FundBook$Account", name := "hasRoomFor", desc := "(JJJ)Z" }) ∈ wG := wG_in 287 (by decide +kernel) rfl
theorem k_288 : (Jvm.Cond.constantLong "FundBook" 159 (-4)) ∈ wG := wG_in 288 (by decide +kernel) rfl
theorem k_289 : (Jvm.Cond.methodLink "FundBook" 161 { cls := "FundBook$Purchase", name := "pay", desc := "(JI)V" }) ∈ wG := wG_in 289 (by decide +kernel) rfl
theorem k_290 : (Jvm.Cond.instanceMethod { cls := "FundBook$Purchase", name := "pay", desc := "(JI)V" }) ∈ wG := wG_in 290 (by decide +kernel) rfl
theorem k_291 : (Jvm.Cond.selects "FundBook$Purchase" { cls := "FundBook$Purchase", name := "pay", desc := "(JI)V" } { cls := "FundBook$Purchase", name := "pay", desc := "(JI)V" }) ∈ wG := wG_in 291 (by decide +kernel) rfl
theorem k_292 : (Jvm.Cond.code { cls := "FundBook$Purchase", name := "pay", desc := "(JI)V" } prog_6_method_7_code 4 none) ∈ wG := wG_in 292 (by decide +kernel) rfl
theorem k_293 : (Jvm.Cond.methodLink "FundBookLaw" 54 { cls := "FundBook", name := "cancel", desc := "(I)I" }) ∈ wG := wG_in 293 (by decide +kernel) rfl
theorem k_294 : (Jvm.Cond.instanceMethod { cls := "FundBook", name := "cancel", desc := "(I)I" }) ∈ wG := wG_in 294 (by decide +kernel) rfl
theorem k_295 : (Jvm.Cond.selects "FundBook" { cls := "FundBook", name := "cancel", desc := "(I)I" } { cls := "FundBook", name := "cancel", desc := "(I)I" }) ∈ wG := wG_in 295 (by decide +kernel) rfl
theorem k_296 : (Jvm.Cond.code { cls := "FundBook", name := "cancel", desc := "(I)I" } prog_1_method_7_code 4 (some .int)) ∈ wG := wG_in 296 (by decide +kernel) rfl
theorem k_297 : (Jvm.Cond.methodLink "FundBookLaw" 58 { cls := "FundBook", name := "band", desc := "(I)I" }) ∈ wG := wG_in 297 (by decide +kernel) rfl
theorem k_298 : (Jvm.Cond.instanceMethod { cls := "FundBook", name := "band", desc := "(I)I" }) ∈ wG := wG_in 298 (by decide +kernel) rfl
theorem k_299 : (Jvm.Cond.selects "FundBook" { cls := "FundBook", name := "band", desc := "(I)I" } { cls := "FundBook", name := "band", desc := "(I)I" }) ∈ wG := wG_in 299 (by decide +kernel) rfl
theorem k_300 : (Jvm.Cond.code { cls := "FundBook", name := "band", desc := "(I)I" } prog_1_method_8_code 2 (some .int)) ∈ wG := wG_in 300 (by decide +kernel) rfl
theorem k_301 : (Jvm.Cond.constantLong "FundBook" 175 1000) ∈ wG := wG_in 301 (by decide +kernel) rfl
theorem k_302 : (Jvm.Cond.methodLink "FundBookLaw" 62 { cls := "FundBook", name := "currency", desc := "(IIII)I" }) ∈ wG := wG_in 302 (by decide +kernel) rfl
theorem k_303 : (Jvm.Cond.instanceMethod { cls := "FundBook", name := "currency", desc := "(IIII)I" }) ∈ wG := wG_in 303 (by decide +kernel) rfl
theorem k_304 : (Jvm.Cond.selects "FundBook" { cls := "FundBook", name := "currency", desc := "(IIII)I" } { cls := "FundBook", name := "currency", desc := "(IIII)I" }) ∈ wG := wG_in 304 (by decide +kernel) rfl
theorem k_305 : (Jvm.Cond.code { cls := "FundBook", name := "currency", desc := "(IIII)I" } prog_1_method_9_code 6 (some .int)) ∈ wG := wG_in 305 (by decide +kernel) rfl
theorem k_306 : (Jvm.Cond.constantLong "FundBook" 177 1000000) ∈ wG := wG_in 306 (by decide +kernel) rfl
theorem k_307 : (Jvm.Cond.instantiable "FundBook$Rate" 5) ∈ wG := wG_in 307 (by decide +kernel) rfl
theorem k_308 : (Jvm.Cond.methodLink "FundBook" 185 { cls := "FundBook$Rate", name := "<init>", desc := "(IIILFundBook$Rate;)V" }) ∈ wG := wG_in 308 (by decide +kernel) rfl
theorem k_309 : (Jvm.Cond.instanceMethod { cls := "FundBook$Rate", name := "<init>", desc := "(IIILFundBook$Rate;)V" }) ∈ wG := wG_in 309 (by decide +kernel) rfl
theorem k_310 : (Jvm.Cond.code { cls := "FundBook$Rate", name := "<init>", desc := "(IIILFundBook$Rate;)V" } prog_7_method_1_code 5 none) ∈ wG := wG_in 310 (by decide +kernel) rfl
theorem k_311 : (Jvm.Cond.methodLink "FundBook$Rate" 1 { cls := "java/lang/Object", name := "<init>", desc := "()V" }) ∈ wG := wG_in 311 (by decide +kernel) rfl
theorem k_312 : (Jvm.Cond.methodLink "FundBook$Rate" 16 { cls := "java/lang/Math", name := "max", desc := "(II)I" }) ∈ wG := wG_in 312 (by decide +kernel) rfl
theorem k_313 : (Jvm.Cond.fieldLink "FundBook$Rate" 7 "FundBook$Rate" "day" "I") ∈ wG := wG_in 313 (by decide +kernel) rfl
theorem k_314 : (Jvm.Cond.fieldLinkNest "FundBook" 179 "FundBook$Rate" "day" "I" "FundBook") ∈ wN := wN_in 314 (by decide +kernel) rfl
theorem k_315 : (Jvm.Cond.fieldLink "FundBook$Rate" 13 "FundBook$Rate" "up" "I") ∈ wG := wG_in 315 (by decide +kernel) rfl
theorem k_316 : (Jvm.Cond.fieldLink "FundBook$Rate" 22 "FundBook$Rate" "down" "I") ∈ wG := wG_in 316 (by decide +kernel) rfl
theorem k_317 : (Jvm.Cond.fieldLink "FundBook$Rate" 25 "FundBook$Rate" "earlier" "LFundBook$Rate;") ∈ wG := wG_in 317 (by decide +kernel) rfl
theorem k_318 : (Jvm.Cond.fieldLinkNest "FundBook" 257 "FundBook$Rate" "earlier" "LFundBook$Rate;" "FundBook") ∈ wN := wN_in 318 (by decide +kernel) rfl
theorem k_319 : (Jvm.Cond.fieldLink "FundBook$Rate" 29 "FundBook$Rate" "rank" "I") ∈ wG := wG_in 319 (by decide +kernel) rfl
theorem k_320 : (Jvm.Cond.fieldLinkNest "FundBook" 182 "FundBook$Rate" "rank" "I" "FundBook") ∈ wN := wN_in 320 (by decide +kernel) rfl
theorem k_332 : (Jvm.Cond.methodLink "FundBookLaw" 67 { cls := "FundBook", name := "transfer", desc := "(III)I" }) ∈ wG := wG_in 332 (by decide +kernel) rfl
theorem k_333 : (Jvm.Cond.instanceMethod { cls := "FundBook", name := "transfer", desc := "(III)I" }) ∈ wG := wG_in 333 (by decide +kernel) rfl
theorem k_334 : (Jvm.Cond.selects "FundBook" { cls := "FundBook", name := "transfer", desc := "(III)I" } { cls := "FundBook", name := "transfer", desc := "(III)I" }) ∈ wG := wG_in 334 (by decide +kernel) rfl
theorem k_335 : (Jvm.Cond.code { cls := "FundBook", name := "transfer", desc := "(III)I" } prog_1_method_10_code 7 (some .int)) ∈ wG := wG_in 335 (by decide +kernel) rfl
theorem k_336 : (Jvm.Cond.instantiable "FundBook$Move" 5) ∈ wG := wG_in 336 (by decide +kernel) rfl
theorem k_337 : (Jvm.Cond.methodLink "FundBook" 191 { cls := "FundBook$Move", name := "<init>", desc := "(LFundBook$Account;LFundBook$Account;I)V" }) ∈ wG := wG_in 337 (by decide +kernel) rfl
theorem k_338 : (Jvm.Cond.instanceMethod { cls := "FundBook$Move", name := "<init>", desc := "(LFundBook$Account;LFundBook$Account;I)V" }) ∈ wG := wG_in 338 (by decide +kernel) rfl
theorem k_339 : (Jvm.Cond.code { cls := "FundBook$Move", name := "<init>", desc := "(LFundBook$Account;LFundBook$Account;I)V" } prog_5_method_1_code 4 none) ∈ wG := wG_in 339 (by decide +kernel) rfl
theorem k_340 : (Jvm.Cond.methodLink "FundBook$Move" 3 { cls := "java/lang/Object", name := "<init>", desc := "()V" }) ∈ wG := wG_in 340 (by decide +kernel) rfl
theorem k_341 : (Jvm.Cond.classLink "FundBook$Move" 9 "FundBook$Approvals") ∈ wG := wG_in 341 (by decide +kernel) rfl
theorem k_342 : (Jvm.Cond.methodLinkNest "FundBook$Move" 11 { cls := "FundBook$Approvals", name := "<init>", desc := "()V" } "FundBook") ∈ wN := wN_in 342 (by decide +kernel) rfl
theorem k_343 : (Jvm.Cond.fieldLink "FundBook$Move" 18 "FundBook$Move" "source" "LFundBook$Account;") ∈ wG := wG_in 343 (by decide +kernel) rfl
theorem k_344 : (Jvm.Cond.fieldLink "FundBook$Move" 22 "FundBook$Move" "target" "LFundBook$Account;") ∈ wG := wG_in 344 (by decide +kernel) rfl
theorem k_345 : (Jvm.Cond.fieldLink "FundBook$Move" 25 "FundBook$Move" "cents" "I") ∈ wG := wG_in 345 (by decide +kernel) rfl
theorem k_346 : (Jvm.Cond.fieldLink "FundBook$Move" 12 "FundBook$Move" "approvals" "LFundBook$Approvals;") ∈ wG := wG_in 346 (by decide +kernel) rfl
theorem k_347 : (Jvm.Cond.fieldLinkNest "FundBook" 202 "FundBook$Move" "approvals" "LFundBook$Approvals;" "FundBook") ∈ wN := wN_in 347 (by decide +kernel) rfl
theorem k_348 : (Jvm.Cond.fieldLink "FundBook$Move" 46 "FundBook$Move" "happened" "Z") ∈ wG := wG_in 348 (by decide +kernel) rfl
theorem k_349 : (Jvm.Cond.fieldLinkNest "FundBook" 198 "FundBook$Move" "happened" "Z" "FundBook") ∈ wN := wN_in 349 (by decide +kernel) rfl
theorem k_361 : (Jvm.Cond.methodLink "FundBookLaw" 72 { cls := "FundBook", name := "agree", desc := "(II)I" }) ∈ wG := wG_in 361 (by decide +kernel) rfl
theorem k_362 : (Jvm.Cond.instanceMethod { cls := "FundBook", name := "agree", desc := "(II)I" }) ∈ wG := wG_in 362 (by decide +kernel) rfl
theorem k_363 : (Jvm.Cond.selects "FundBook" { cls := "FundBook", name := "agree", desc := "(II)I" } { cls := "FundBook", name := "agree", desc := "(II)I" }) ∈ wG := wG_in 363 (by decide +kernel) rfl
theorem k_364 : (Jvm.Cond.code { cls := "FundBook", name := "agree", desc := "(II)I" } prog_1_method_11_code 5 (some .int)) ∈ wG := wG_in 364 (by decide +kernel) rfl
theorem k_365 : (Jvm.Cond.methodLink "FundBook" 194 { cls := "FundBook", name := "moveAt", desc := "(I)LFundBook$Move;" }) ∈ wG := wG_in 365 (by decide +kernel) rfl
theorem k_367 : (Jvm.Cond.instanceMethod { cls := "FundBook", name := "moveAt", desc := "(I)LFundBook$Move;" }) ∈ wG := wG_in 367 (by decide +kernel) rfl
theorem k_368 : (Jvm.Cond.code { cls := "FundBook", name := "moveAt", desc := "(I)LFundBook$Move;" } prog_1_method_22_code 2 (some (.object "FundBook$Move"))) ∈ wG := wG_in 368 (by decide +kernel) rfl
theorem k_369 : (Jvm.Cond.methodLink "FundBook" 203 { cls := "FundBook$Move", name := "happensWithOneMore", desc := "()Z" }) ∈ wG := wG_in 369 (by decide +kernel) rfl
theorem k_370 : (Jvm.Cond.instanceMethod { cls := "FundBook$Move", name := "happensWithOneMore", desc := "()Z" }) ∈ wG := wG_in 370 (by decide +kernel) rfl
theorem k_371 : (Jvm.Cond.selects "FundBook$Move" { cls := "FundBook$Move", name := "happensWithOneMore", desc := "()Z" } { cls := "FundBook$Move", name := "happensWithOneMore", desc := "()Z" }) ∈ wG := wG_in 371 (by decide +kernel) rfl
theorem k_372 : (Jvm.Cond.code { cls := "FundBook$Move", name := "happensWithOneMore", desc := "()Z" } prog_5_method_2_code 1 (some .boolean)) ∈ wG := wG_in 372 (by decide +kernel) rfl
theorem k_373 : (Jvm.Cond.methodLink "FundBook$Move" 32 { cls := "FundBook$Account", name := "free", desc := "()J" }) ∈ wG := wG_in 373 (by decide +kernel) rfl
theorem k_374 : (Jvm.Cond.methodLink "FundBook" 207 { cls := "FundBook$Move", name := "hasRoom", desc := "()Z" }) ∈ wG := wG_in 374 (by decide +kernel) rfl
theorem k_375 : (Jvm.Cond.instanceMethod { cls := "FundBook$Move", name := "hasRoom", desc := "()Z" }) ∈ wG := wG_in 375 (by decide +kernel) rfl
theorem k_376 : (Jvm.Cond.selects "FundBook$Move" { cls := "FundBook$Move", name := "hasRoom", desc := "()Z" } { cls := "FundBook$Move", name := "hasRoom", desc := "()Z" }) ∈ wG := wG_in 376 (by decide +kernel) rfl
theorem k_377 : (Jvm.Cond.code { cls := "FundBook$Move", name := "hasRoom", desc := "()Z" } prog_5_method_3_code 1 (some .boolean)) ∈ wG := wG_in 377 (by decide +kernel) rfl
theorem k_378 : (Jvm.Cond.methodLink "FundBook$Move" 38 { cls := "FundBook$Account", name := "hasRoomFor", desc := "(JJJ)Z" }) ∈ wG := wG_in 378 (by decide +kernel) rfl
theorem k_379 : (Jvm.Cond.methodLink "FundBook" 210 { cls := "FundBook$Move", name := "carryOut", desc := "()V" }) ∈ wG := wG_in 379 (by decide +kernel) rfl
theorem k_380 : (Jvm.Cond.instanceMethod { cls := "FundBook$Move", name := "carryOut", desc := "()V" }) ∈ wG := wG_in 380 (by decide +kernel) rfl
theorem k_381 : (Jvm.Cond.selects "FundBook$Move" { cls := "FundBook$Move", name := "carryOut", desc := "()V" } { cls := "FundBook$Move", name := "carryOut", desc := "()V" }) ∈ wG := wG_in 381 (by decide +kernel) rfl
theorem k_382 : (Jvm.Cond.code { cls := "FundBook$Move", name := "carryOut", desc := "()V" } prog_5_method_4_code 1 none) ∈ wG := wG_in 382 (by decide +kernel) rfl
theorem k_383 : (Jvm.Cond.methodLink "FundBookLaw" 76 { cls := "FundBook", name := "row", desc := "(II)I" }) ∈ wG := wG_in 383 (by decide +kernel) rfl
theorem k_384 : (Jvm.Cond.instanceMethod { cls := "FundBook", name := "row", desc := "(II)I" }) ∈ wG := wG_in 384 (by decide +kernel) rfl
theorem k_385 : (Jvm.Cond.selects "FundBook" { cls := "FundBook", name := "row", desc := "(II)I" } { cls := "FundBook", name := "row", desc := "(II)I" }) ∈ wG := wG_in 385 (by decide +kernel) rfl
theorem k_386 : (Jvm.Cond.code { cls := "FundBook", name := "row", desc := "(II)I" } prog_1_method_12_code 4 (some .int)) ∈ wG := wG_in 386 (by decide +kernel) rfl
theorem k_387 : (Jvm.Cond.constantLong "FundBook" 213 (-1000000000)) ∈ wG := wG_in 387 (by decide +kernel) rfl
theorem k_388 : (Jvm.Cond.methodLink "FundBook" 215 { cls := "FundBook$Batch", name := "isFull", desc := "()Z" }) ∈ wG := wG_in 388 (by decide +kernel) rfl
theorem k_389 : (Jvm.Cond.instanceMethod { cls := "FundBook$Batch", name := "isFull", desc := "()Z" }) ∈ wG := wG_in 389 (by decide +kernel) rfl
theorem k_390 : (Jvm.Cond.selects "FundBook$Batch" { cls := "FundBook$Batch", name := "isFull", desc := "()Z" } { cls := "FundBook$Batch", name := "isFull", desc := "()Z" }) ∈ wG := wG_in 390 (by decide +kernel) rfl
theorem k_391 : (Jvm.Cond.code { cls := "FundBook$Batch", name := "isFull", desc := "()Z" } prog_4_method_2_code 1 (some .boolean)) ∈ wG := wG_in 391 (by decide +kernel) rfl
theorem k_392 : (Jvm.Cond.methodLink "FundBook" 218 { cls := "FundBook$Batch", name := "add", desc := "(LFundBook$Account;I)V" }) ∈ wG := wG_in 392 (by decide +kernel) rfl
theorem k_393 : (Jvm.Cond.instanceMethod { cls := "FundBook$Batch", name := "add", desc := "(LFundBook$Account;I)V" }) ∈ wG := wG_in 393 (by decide +kernel) rfl
theorem k_394 : (Jvm.Cond.selects "FundBook$Batch" { cls := "FundBook$Batch", name := "add", desc := "(LFundBook$Account;I)V" } { cls := "FundBook$Batch", name := "add", desc := "(LFundBook$Account;I)V" }) ∈ wG := wG_in 394 (by decide +kernel) rfl
theorem k_395 : (Jvm.Cond.code { cls := "FundBook$Batch", name := "add", desc := "(LFundBook$Account;I)V" } prog_4_method_3_code 3 none) ∈ wG := wG_in 395 (by decide +kernel) rfl
theorem k_396 : (Jvm.Cond.methodLink "FundBook$Batch" 21 { cls := "FundBook$Batch", name := "isFull", desc := "()Z" }) ∈ wG := wG_in 396 (by decide +kernel) rfl
theorem k_397 : (Jvm.Cond.methodLink "FundBookLaw" 87 { cls := "FundBook", name := "failing", desc := "()I" }) ∈ wG := wG_in 397 (by decide +kernel) rfl
theorem k_398 : (Jvm.Cond.instanceMethod { cls := "FundBook", name := "failing", desc := "()I" }) ∈ wG := wG_in 398 (by decide +kernel) rfl
theorem k_399 : (Jvm.Cond.selects "FundBook" { cls := "FundBook", name := "failing", desc := "()I" } { cls := "FundBook", name := "failing", desc := "()I" }) ∈ wG := wG_in 399 (by decide +kernel) rfl
theorem k_400 : (Jvm.Cond.code { cls := "FundBook", name := "failing", desc := "()I" } prog_1_method_14_code 1 (some .int)) ∈ wG := wG_in 400 (by decide +kernel) rfl
theorem k_401 : (Jvm.Cond.methodLink "FundBookLaw" 91 { cls := "FundBook", name := "close", desc := "()I" }) ∈ wG := wG_in 401 (by decide +kernel) rfl
theorem k_402 : (Jvm.Cond.instanceMethod { cls := "FundBook", name := "close", desc := "()I" }) ∈ wG := wG_in 402 (by decide +kernel) rfl
theorem k_403 : (Jvm.Cond.selects "FundBook" { cls := "FundBook", name := "close", desc := "()I" } { cls := "FundBook", name := "close", desc := "()I" }) ∈ wG := wG_in 403 (by decide +kernel) rfl
theorem k_404 : (Jvm.Cond.code { cls := "FundBook", name := "close", desc := "()I" } prog_1_method_15_code 5 (some .int)) ∈ wG := wG_in 404 (by decide +kernel) rfl
theorem k_405 : (Jvm.Cond.methodLink "FundBook" 240 { cls := "FundBook$Account", name := "beginYear", desc := "()V" }) ∈ wG := wG_in 405 (by decide +kernel) rfl
theorem k_406 : (Jvm.Cond.instanceMethod { cls := "FundBook$Account", name := "beginYear", desc := "()V" }) ∈ wG := wG_in 406 (by decide +kernel) rfl
theorem k_407 : (Jvm.Cond.selects "FundBook$Account" { cls := "FundBook$Account", name := "beginYear", desc := "()V" } { cls := "FundBook$Account", name := "beginYear", desc := "()V" }) ∈ wG := wG_in 407 (by decide +kernel) rfl
theorem k_408 : (Jvm.Cond.code { cls := "FundBook$Account", name := "beginYear", desc := "()V" } prog_2_method_5_code 1 none) ∈ wG := wG_in 408 (by decide +kernel) rfl
theorem k_409 : (Jvm.Cond.methodLink "FundBook$Account" 38 { cls := "FundBook$Account", name := "carried", desc := "()J" }) ∈ wG := wG_in 409 (by decide +kernel) rfl
theorem k_410 : (Jvm.Cond.instanceMethod { cls := "FundBook$Account", name := "carried", desc := "()J" }) ∈ wG := wG_in 410 (by decide +kernel) rfl
theorem k_411 : (Jvm.Cond.selects "FundBook$Account" { cls := "FundBook$Account", name := "carried", desc := "()J" } { cls := "FundBook$Account", name := "carried", desc := "()J" }) ∈ wG := wG_in 411 (by decide +kernel) rfl
theorem k_412 : (Jvm.Cond.code { cls := "FundBook$Account", name := "carried", desc := "()J" } prog_2_method_4_code 3 (some .long)) ∈ wG := wG_in 412 (by decide +kernel) rfl
theorem k_413 : (Jvm.Cond.constantLong "FundBook$Account" 36 2) ∈ wG := wG_in 413 (by decide +kernel) rfl
theorem k_414 : (Jvm.Cond.methodLink "FundBookLaw" 95 { cls := "FundBook", name := "about", desc := "(II)J" }) ∈ wG := wG_in 414 (by decide +kernel) rfl
theorem k_415 : (Jvm.Cond.instanceMethod { cls := "FundBook", name := "about", desc := "(II)J" }) ∈ wG := wG_in 415 (by decide +kernel) rfl
theorem k_416 : (Jvm.Cond.selects "FundBook" { cls := "FundBook", name := "about", desc := "(II)J" } { cls := "FundBook", name := "about", desc := "(II)J" }) ∈ wG := wG_in 416 (by decide +kernel) rfl
theorem k_417 : (Jvm.Cond.code { cls := "FundBook", name := "about", desc := "(II)J" } prog_1_method_16_code 4 (some .long)) ∈ wG := wG_in 417 (by decide +kernel) rfl
theorem k_418 : (Jvm.Cond.constantLong "FundBook" 243 (-1000000000000000001)) ∈ wG := wG_in 418 (by decide +kernel) rfl
theorem k_419 : (Jvm.Cond.methodLink "FundBookLaw" 100 { cls := "FundBook", name := "told", desc := "(II)J" }) ∈ wG := wG_in 419 (by decide +kernel) rfl
theorem k_420 : (Jvm.Cond.instanceMethod { cls := "FundBook", name := "told", desc := "(II)J" }) ∈ wG := wG_in 420 (by decide +kernel) rfl
theorem k_421 : (Jvm.Cond.selects "FundBook" { cls := "FundBook", name := "told", desc := "(II)J" } { cls := "FundBook", name := "told", desc := "(II)J" }) ∈ wG := wG_in 421 (by decide +kernel) rfl
theorem k_422 : (Jvm.Cond.code { cls := "FundBook", name := "told", desc := "(II)J" } prog_1_method_17_code 4 (some .long)) ∈ wG := wG_in 422 (by decide +kernel) rfl
theorem k_423 : (Jvm.Cond.methodLink "FundBookLaw" 104 { cls := "FundBook", name := "sum", desc := "(I)J" }) ∈ wG := wG_in 423 (by decide +kernel) rfl
theorem k_424 : (Jvm.Cond.instanceMethod { cls := "FundBook", name := "sum", desc := "(I)J" }) ∈ wG := wG_in 424 (by decide +kernel) rfl
theorem k_425 : (Jvm.Cond.selects "FundBook" { cls := "FundBook", name := "sum", desc := "(I)J" } { cls := "FundBook", name := "sum", desc := "(I)J" }) ∈ wG := wG_in 425 (by decide +kernel) rfl
theorem k_426 : (Jvm.Cond.code { cls := "FundBook", name := "sum", desc := "(I)J" } prog_1_method_18_code 2 (some .long)) ∈ wG := wG_in 426 (by decide +kernel) rfl
theorem k_427 : (Jvm.Cond.methodLink "FundBook" 254 { cls := "FundBook", name := "givenToAll", desc := "()J" }) ∈ wG := wG_in 427 (by decide +kernel) rfl
theorem k_429 : (Jvm.Cond.instanceMethod { cls := "FundBook", name := "givenToAll", desc := "()J" }) ∈ wG := wG_in 429 (by decide +kernel) rfl
theorem k_430 : (Jvm.Cond.code { cls := "FundBook", name := "givenToAll", desc := "()J" } prog_1_method_19_code 7 (some .long)) ∈ wG := wG_in 430 (by decide +kernel) rfl
theorem k_431 : (Jvm.Cond.methodLink "FundBookLaw" 15 { cls := "FundBookLaw", name := "cell", desc := "([II)I" }) ∈ wG := wG_in 431 (by decide +kernel) rfl
theorem k_432 : (Jvm.Cond.static { cls := "FundBookLaw", name := "cell", desc := "([II)I" }) ∈ wG := wG_in 432 (by decide +kernel) rfl
theorem k_433 : (Jvm.Cond.code { cls := "FundBookLaw", name := "cell", desc := "([II)I" } method_2_code 2 (some .int)) ∈ wG := wG_in 433 (by decide +kernel) rfl
theorem k_434 : (Jvm.Cond.methodLink "FundBookLaw" 80 { cls := "FundBookLaw", name := "post", desc := "(LFundBook;[J)I" }) ∈ wG := wG_in 434 (by decide +kernel) rfl
theorem k_435 : (Jvm.Cond.static { cls := "FundBookLaw", name := "post", desc := "(LFundBook;[J)I" }) ∈ wG := wG_in 435 (by decide +kernel) rfl
theorem k_437 : (Jvm.Cond.classLink "FundBookLaw" 13 "java/lang/IllegalStateException") ∈ wG := wG_in 437 (by decide +kernel) rfl
theorem k_438 : (Jvm.Cond.methodLink "FundBookLaw" 7 { cls := "FundBook", name := "post", desc := "()I" }) ∈ wG := wG_in 438 (by decide +kernel) rfl
theorem k_439 : (Jvm.Cond.instanceMethod { cls := "FundBook", name := "post", desc := "()I" }) ∈ wG := wG_in 439 (by decide +kernel) rfl
theorem k_440 : (Jvm.Cond.selects "FundBook" { cls := "FundBook", name := "post", desc := "()I" } { cls := "FundBook", name := "post", desc := "()I" }) ∈ wG := wG_in 440 (by decide +kernel) rfl
theorem k_441 : (Jvm.Cond.code { cls := "FundBook", name := "post", desc := "()I" } prog_1_method_13_code 3 (some .int)) ∈ wG := wG_in 441 (by decide +kernel) rfl
theorem k_442 : (Jvm.Cond.methodLink "FundBook" 222 { cls := "FundBook$Batch", name := "culprit", desc := "()LFundBook$Account;" }) ∈ wG := wG_in 442 (by decide +kernel) rfl
theorem k_443 : (Jvm.Cond.instanceMethod { cls := "FundBook$Batch", name := "culprit", desc := "()LFundBook$Account;" }) ∈ wG := wG_in 443 (by decide +kernel) rfl
theorem k_444 : (Jvm.Cond.selects "FundBook$Batch" { cls := "FundBook$Batch", name := "culprit", desc := "()LFundBook$Account;" } { cls := "FundBook$Batch", name := "culprit", desc := "()LFundBook$Account;" }) ∈ wG := wG_in 444 (by decide +kernel) rfl
theorem k_445 : (Jvm.Cond.code { cls := "FundBook$Batch", name := "culprit", desc := "()LFundBook$Account;" } prog_4_method_4_code 6 (some (.object "FundBook$Account"))) ∈ wG := wG_in 445 (by decide +kernel) rfl
theorem k_446 : (Jvm.Cond.methodLink "FundBook$Batch" 32 { cls := "FundBook$Account", name := "free", desc := "()J" }) ∈ wG := wG_in 446 (by decide +kernel) rfl
theorem k_447 : (Jvm.Cond.methodLink "FundBook" 226 { cls := "FundBook$Batch", name := "empty", desc := "(Z)V" }) ∈ wG := wG_in 447 (by decide +kernel) rfl
theorem k_448 : (Jvm.Cond.instanceMethod { cls := "FundBook$Batch", name := "empty", desc := "(Z)V" }) ∈ wG := wG_in 448 (by decide +kernel) rfl
theorem k_449 : (Jvm.Cond.selects "FundBook$Batch" { cls := "FundBook$Batch", name := "empty", desc := "(Z)V" } { cls := "FundBook$Batch", name := "empty", desc := "(Z)V" }) ∈ wG := wG_in 449 (by decide +kernel) rfl
theorem k_450 : (Jvm.Cond.code { cls := "FundBook$Batch", name := "empty", desc := "(Z)V" } prog_4_method_5_code 4 none) ∈ wG := wG_in 450 (by decide +kernel) rfl
theorem k_451 : (Jvm.Cond.classLink "FundBook" 233 "java/lang/IllegalStateException") ∈ wG := wG_in 451 (by decide +kernel) rfl
theorem k_452 : (Jvm.Cond.instantiable "java/lang/IllegalStateException" 6) ∈ wG := wG_in 452 (by decide +kernel) rfl
theorem k_460 : (Jvm.Cond.selects "java/lang/IllegalStateException" { cls := "java/lang/Throwable", name := "fillInStackTrace", desc := "(I)Ljava/lang/Throwable;" } { cls := "java/lang/Throwable", name := "fillInStackTrace", desc := "(I)Ljava/lang/Throwable;" }) ∈ wG := wG_in 460 (by decide +kernel) rfl
theorem k_461 : (Jvm.Cond.selects "java/lang/IllegalStateException" { cls := "java/lang/Throwable", name := "fillInStackTrace", desc := "()Ljava/lang/Throwable;" } { cls := "java/lang/Throwable", name := "fillInStackTrace", desc := "()Ljava/lang/Throwable;" }) ∈ wG := wG_in 461 (by decide +kernel) rfl
theorem k_472 : (Jvm.Cond.fieldLink "java/lang/Throwable" 198 "java/lang/Throwable" "backtrace" "Ljava/lang/Object;") ∈ wG := wG_in 472 (by decide +kernel) rfl
theorem k_474 : (Jvm.Cond.instanceMethod { cls := "java/lang/Throwable", name := "<init>", desc := "()V" }) ∈ wG := wG_in 474 (by decide +kernel) rfl
theorem k_475 : (Jvm.Cond.code { cls := "java/lang/Throwable", name := "<init>", desc := "()V" } prog_15_method_1_code 1 none) ∈ wG := wG_in 475 (by decide +kernel) rfl
theorem k_476 : (Jvm.Cond.methodLink "java/lang/Throwable" 1 { cls := "java/lang/Object", name := "<init>", desc := "()V" }) ∈ wG := wG_in 476 (by decide +kernel) rfl
theorem k_477 : (Jvm.Cond.fieldLink "java/lang/Throwable" 13 "java/lang/Throwable" "UNASSIGNED_STACK" "[Ljava/lang/StackTraceElement;") ∈ wG := wG_in 477 (by decide +kernel) rfl
theorem k_479 : (Jvm.Cond.fieldLink "java/lang/Throwable" 20 "java/lang/Throwable" "SUPPRESSED_SENTINEL" "Ljava/util/List;") ∈ wG := wG_in 479 (by decide +kernel) rfl
theorem k_481 : (Jvm.Cond.methodLink "java/lang/Throwable" 27 { cls := "java/lang/Throwable", name := "fillInStackTrace", desc := "()Ljava/lang/Throwable;" }) ∈ wG := wG_in 481 (by decide +kernel) rfl
theorem k_482 : (Jvm.Cond.instanceMethod { cls := "java/lang/Throwable", name := "fillInStackTrace", desc := "()Ljava/lang/Throwable;" }) ∈ wG := wG_in 482 (by decide +kernel) rfl
theorem k_485 : (Jvm.Cond.methodLink "java/lang/Throwable" 202 { cls := "java/lang/Throwable", name := "fillInStackTrace", desc := "(I)Ljava/lang/Throwable;" }) ∈ wG := wG_in 485 (by decide +kernel) rfl
theorem k_487 : (Jvm.Cond.instanceMethod { cls := "java/lang/Throwable", name := "fillInStackTrace", desc := "(I)Ljava/lang/Throwable;" }) ∈ wG := wG_in 487 (by decide +kernel) rfl
theorem k_488 : (Jvm.Cond.instantiable "java/lang/Throwable" 6) ∈ wG := wG_in 488 (by decide +kernel) rfl
theorem k_491 : (Jvm.Cond.methodLink "FundBook" 237 { cls := "java/lang/IllegalStateException", name := "<init>", desc := "(Ljava/lang/String;)V" }) ∈ wG := wG_in 491 (by decide +kernel) rfl
theorem k_492 : (Jvm.Cond.instanceMethod { cls := "java/lang/IllegalStateException", name := "<init>", desc := "(Ljava/lang/String;)V" }) ∈ wG := wG_in 492 (by decide +kernel) rfl
theorem k_493 : (Jvm.Cond.code { cls := "java/lang/IllegalStateException", name := "<init>", desc := "(Ljava/lang/String;)V" } prog_11_method_2_code 2 none) ∈ wG := wG_in 493 (by decide +kernel) rfl
theorem k_494 : (Jvm.Cond.methodLink "java/lang/IllegalStateException" 7 { cls := "java/lang/RuntimeException", name := "<init>", desc := "(Ljava/lang/String;)V" }) ∈ wG := wG_in 494 (by decide +kernel) rfl
theorem k_495 : (Jvm.Cond.instanceMethod { cls := "java/lang/RuntimeException", name := "<init>", desc := "(Ljava/lang/String;)V" }) ∈ wG := wG_in 495 (by decide +kernel) rfl
theorem k_496 : (Jvm.Cond.code { cls := "java/lang/RuntimeException", name := "<init>", desc := "(Ljava/lang/String;)V" } prog_13_method_2_code 2 none) ∈ wG := wG_in 496 (by decide +kernel) rfl
theorem k_497 : (Jvm.Cond.methodLink "java/lang/RuntimeException" 7 { cls := "java/lang/Exception", name := "<init>", desc := "(Ljava/lang/String;)V" }) ∈ wG := wG_in 497 (by decide +kernel) rfl
theorem k_498 : (Jvm.Cond.instanceMethod { cls := "java/lang/Exception", name := "<init>", desc := "(Ljava/lang/String;)V" }) ∈ wG := wG_in 498 (by decide +kernel) rfl
theorem k_499 : (Jvm.Cond.code { cls := "java/lang/Exception", name := "<init>", desc := "(Ljava/lang/String;)V" } prog_10_method_2_code 2 none) ∈ wG := wG_in 499 (by decide +kernel) rfl
theorem k_500 : (Jvm.Cond.methodLink "java/lang/Exception" 7 { cls := "java/lang/Throwable", name := "<init>", desc := "(Ljava/lang/String;)V" }) ∈ wG := wG_in 500 (by decide +kernel) rfl
theorem k_501 : (Jvm.Cond.instanceMethod { cls := "java/lang/Throwable", name := "<init>", desc := "(Ljava/lang/String;)V" }) ∈ wG := wG_in 501 (by decide +kernel) rfl
theorem k_502 : (Jvm.Cond.code { cls := "java/lang/Throwable", name := "<init>", desc := "(Ljava/lang/String;)V" } prog_15_method_2_code 2 none) ∈ wG := wG_in 502 (by decide +kernel) rfl
theorem k_504 : (Jvm.Cond.fieldLink "java/lang/Throwable" 31 "java/lang/Throwable" "detailMessage" "Ljava/lang/String;") ∈ wG := wG_in 504 (by decide +kernel) rfl
theorem k_505 : (Jvm.Cond.fieldLink "java/lang/Throwable" 7 "java/lang/Throwable" "cause" "Ljava/lang/Throwable;") ∈ wG := wG_in 505 (by decide +kernel) rfl
theorem k_506 : (Jvm.Cond.fieldLink "java/lang/Throwable" 17 "java/lang/Throwable" "stackTrace" "[Ljava/lang/StackTraceElement;") ∈ wG := wG_in 506 (by decide +kernel) rfl
theorem k_507 : (Jvm.Cond.fieldLink "java/lang/Throwable" 24 "java/lang/Throwable" "suppressedExceptions" "Ljava/util/List;") ∈ wG := wG_in 507 (by decide +kernel) rfl
theorem k_516 : (Jvm.Cond.arrayClass .byte) ∈ wG := wG_in 516 (by decide +kernel) rfl
theorem k_517 : (Jvm.Cond.classLink "FundBookLaw" 24 "FundBookModel") ∈ wG := wG_in 517 (by decide +kernel) rfl
theorem k_518 : (Jvm.Cond.instantiable "FundBookModel" 31) ∈ wG := wG_in 518 (by decide +kernel) rfl
theorem k_519 : (Jvm.Cond.methodLink "FundBookLaw" 26 { cls := "FundBookModel", name := "<init>", desc := "(I)V" }) ∈ wG := wG_in 519 (by decide +kernel) rfl
theorem k_520 : (Jvm.Cond.instanceMethod { cls := "FundBookModel", name := "<init>", desc := "(I)V" }) ∈ wG := wG_in 520 (by decide +kernel) rfl
theorem k_521 : (Jvm.Cond.code { cls := "FundBookModel", name := "<init>", desc := "(I)V" } prog_9_method_1_code 2 none) ∈ wG := wG_in 521 (by decide +kernel) rfl
theorem k_522 : (Jvm.Cond.methodLink "FundBookModel" 1 { cls := "java/lang/Object", name := "<init>", desc := "()V" }) ∈ wG := wG_in 522 (by decide +kernel) rfl
theorem k_523 : (Jvm.Cond.fieldLink "FundBookModel" 91 "FundBookModel" "thrown" "I") ∈ wG := wG_in 523 (by decide +kernel) rfl
theorem k_524 : (Jvm.Cond.fieldLink "FundBookModel" 88 "FundBookModel" "year" "I") ∈ wG := wG_in 524 (by decide +kernel) rfl
theorem k_525 : (Jvm.Cond.fieldLink "FundBookModel" 94 "FundBookModel" "funds" "I") ∈ wG := wG_in 525 (by decide +kernel) rfl
theorem k_526 : (Jvm.Cond.fieldLink "FundBookModel" 7 "FundBookModel" "carry" "[I") ∈ wG := wG_in 526 (by decide +kernel) rfl
theorem k_527 : (Jvm.Cond.fieldLink "FundBookModel" 13 "FundBookModel" "given" "[J") ∈ wG := wG_in 527 (by decide +kernel) rfl
theorem k_528 : (Jvm.Cond.fieldLink "FundBookModel" 17 "FundBookModel" "spent" "[J") ∈ wG := wG_in 528 (by decide +kernel) rfl
theorem k_529 : (Jvm.Cond.fieldLink "FundBookModel" 101 "FundBookModel" "orders" "I") ∈ wG := wG_in 529 (by decide +kernel) rfl
theorem k_530 : (Jvm.Cond.fieldLink "FundBookModel" 20 "FundBookModel" "fund" "[I") ∈ wG := wG_in 530 (by decide +kernel) rfl
theorem k_531 : (Jvm.Cond.fieldLink "FundBookModel" 23 "FundBookModel" "cents" "[I") ∈ wG := wG_in 531 (by decide +kernel) rfl
theorem k_532 : (Jvm.Cond.fieldLink "FundBookModel" 26 "FundBookModel" "standing" "[Z") ∈ wG := wG_in 532 (by decide +kernel) rfl
theorem k_533 : (Jvm.Cond.fieldLink "FundBookModel" 30 "FundBookModel" "state" "[I") ∈ wG := wG_in 533 (by decide +kernel) rfl
theorem k_534 : (Jvm.Cond.fieldLink "FundBookModel" 33 "FundBookModel" "firstBy" "[I") ∈ wG := wG_in 534 (by decide +kernel) rfl
theorem k_535 : (Jvm.Cond.fieldLink "FundBookModel" 36 "FundBookModel" "approved" "[I") ∈ wG := wG_in 535 (by decide +kernel) rfl
theorem k_536 : (Jvm.Cond.fieldLink "FundBookModel" 39 "FundBookModel" "difference" "[J") ∈ wG := wG_in 536 (by decide +kernel) rfl
theorem k_537 : (Jvm.Cond.fieldLink "FundBookModel" 42 "FundBookModel" "invoices" "[I") ∈ wG := wG_in 537 (by decide +kernel) rfl
theorem k_538 : (Jvm.Cond.fieldLink "FundBookModel" 45 "FundBookModel" "month" "[I") ∈ wG := wG_in 538 (by decide +kernel) rfl
theorem k_539 : (Jvm.Cond.fieldLink "FundBookModel" 159 "FundBookModel" "transfers" "I") ∈ wG := wG_in 539 (by decide +kernel) rfl
theorem k_540 : (Jvm.Cond.fieldLink "FundBookModel" 48 "FundBookModel" "from" "[I") ∈ wG := wG_in 540 (by decide +kernel) rfl
theorem k_541 : (Jvm.Cond.fieldLink "FundBookModel" 51 "FundBookModel" "to" "[I") ∈ wG := wG_in 541 (by decide +kernel) rfl
theorem k_542 : (Jvm.Cond.fieldLink "FundBookModel" 54 "FundBookModel" "sum" "[I") ∈ wG := wG_in 542 (by decide +kernel) rfl
theorem k_543 : (Jvm.Cond.fieldLink "FundBookModel" 57 "FundBookModel" "happened" "[Z") ∈ wG := wG_in 543 (by decide +kernel) rfl
theorem k_544 : (Jvm.Cond.fieldLink "FundBookModel" 60 "FundBookModel" "agreed" "[Z") ∈ wG := wG_in 544 (by decide +kernel) rfl
theorem k_545 : (Jvm.Cond.fieldLink "FundBookModel" 63 "FundBookModel" "band" "I") ∈ wG := wG_in 545 (by decide +kernel) rfl
theorem k_546 : (Jvm.Cond.fieldLink "FundBookModel" 67 "FundBookModel" "rows" "[I") ∈ wG := wG_in 546 (by decide +kernel) rfl
theorem k_547 : (Jvm.Cond.fieldLink "FundBookModel" 70 "FundBookModel" "day" "[I") ∈ wG := wG_in 547 (by decide +kernel) rfl
theorem k_548 : (Jvm.Cond.fieldLink "FundBookModel" 73 "FundBookModel" "up" "[I") ∈ wG := wG_in 548 (by decide +kernel) rfl
theorem k_549 : (Jvm.Cond.fieldLink "FundBookModel" 76 "FundBookModel" "down" "[I") ∈ wG := wG_in 549 (by decide +kernel) rfl
theorem k_550 : (Jvm.Cond.fieldLink "FundBookModel" 164 "FundBookModel" "batch" "I") ∈ wG := wG_in 550 (by decide +kernel) rfl
theorem k_551 : (Jvm.Cond.fieldLink "FundBookModel" 79 "FundBookModel" "batchFund" "[I") ∈ wG := wG_in 551 (by decide +kernel) rfl
theorem k_552 : (Jvm.Cond.fieldLink "FundBookModel" 82 "FundBookModel" "batchCents" "[I") ∈ wG := wG_in 552 (by decide +kernel) rfl
theorem k_553 : (Jvm.Cond.fieldLink "FundBookModel" 85 "FundBookModel" "failing" "I") ∈ wG := wG_in 553 (by decide +kernel) rfl
theorem k_617 : (Jvm.Cond.arrayClass .int) ∈ wG := wG_in 617 (by decide +kernel) rfl
theorem k_618 : (Jvm.Cond.arrayClass .long) ∈ wG := wG_in 618 (by decide +kernel) rfl
theorem k_619 : (Jvm.Cond.arrayClass .boolean) ∈ wG := wG_in 619 (by decide +kernel) rfl
theorem k_620 : (Jvm.Cond.methodLink "FundBookLaw" 84 { cls := "FundBookModel", name := "thrown", desc := "()I" }) ∈ wG := wG_in 620 (by decide +kernel) rfl
theorem k_621 : (Jvm.Cond.instanceMethod { cls := "FundBookModel", name := "thrown", desc := "()I" }) ∈ wG := wG_in 621 (by decide +kernel) rfl
theorem k_622 : (Jvm.Cond.selects "FundBookModel" { cls := "FundBookModel", name := "thrown", desc := "()I" } { cls := "FundBookModel", name := "thrown", desc := "()I" }) ∈ wG := wG_in 622 (by decide +kernel) rfl
theorem k_623 : (Jvm.Cond.code { cls := "FundBookModel", name := "thrown", desc := "()I" } prog_9_method_2_code 1 (some .int)) ∈ wG := wG_in 623 (by decide +kernel) rfl
theorem k_624 : (Jvm.Cond.methodLink "FundBookLaw" 31 { cls := "FundBookModel", name := "fund", desc := "(I)I" }) ∈ wG := wG_in 624 (by decide +kernel) rfl
theorem k_625 : (Jvm.Cond.instanceMethod { cls := "FundBookModel", name := "fund", desc := "(I)I" }) ∈ wG := wG_in 625 (by decide +kernel) rfl
theorem k_626 : (Jvm.Cond.selects "FundBookModel" { cls := "FundBookModel", name := "fund", desc := "(I)I" } { cls := "FundBookModel", name := "fund", desc := "(I)I" }) ∈ wG := wG_in 626 (by decide +kernel) rfl
theorem k_627 : (Jvm.Cond.code { cls := "FundBookModel", name := "fund", desc := "(I)I" } prog_9_method_9_code 2 (some .int)) ∈ wG := wG_in 627 (by decide +kernel) rfl
theorem k_628 : (Jvm.Cond.constantLong "FundBookModel" 116 2) ∈ wG := wG_in 628 (by decide +kernel) rfl
theorem k_629 : (Jvm.Cond.methodLink "FundBookModel" 97 { cls := "FundBookModel", name := "in", desc := "(JJJ)Z" }) ∈ wG := wG_in 629 (by decide +kernel) rfl
theorem k_630 : (Jvm.Cond.static { cls := "FundBookModel", name := "in", desc := "(JJJ)Z" }) ∈ wG := wG_in 630 (by decide +kernel) rfl
theorem k_631 : (Jvm.Cond.code { cls := "FundBookModel", name := "in", desc := "(JJJ)Z" } prog_9_method_3_code 6 (some .boolean)) ∈ wG := wG_in 631 (by decide +kernel) rfl
theorem k_632 : (Jvm.Cond.methodLink "FundBookLaw" 38 { cls := "FundBookModel", name := "give", desc := "(IJ)I" }) ∈ wG := wG_in 632 (by decide +kernel) rfl
theorem k_633 : (Jvm.Cond.instanceMethod { cls := "FundBookModel", name := "give", desc := "(IJ)I" }) ∈ wG := wG_in 633 (by decide +kernel) rfl
theorem k_634 : (Jvm.Cond.selects "FundBookModel" { cls := "FundBookModel", name := "give", desc := "(IJ)I" } { cls := "FundBookModel", name := "give", desc := "(IJ)I" }) ∈ wG := wG_in 634 (by decide +kernel) rfl
theorem k_635 : (Jvm.Cond.code { cls := "FundBookModel", name := "give", desc := "(IJ)I" } prog_9_method_10_code 4 (some .int)) ∈ wG := wG_in 635 (by decide +kernel) rfl
theorem k_636 : (Jvm.Cond.methodLink "FundBookModel" 118 { cls := "FundBookModel", name := "isFund", desc := "(I)Z" }) ∈ wG := wG_in 636 (by decide +kernel) rfl
theorem k_638 : (Jvm.Cond.instanceMethod { cls := "FundBookModel", name := "isFund", desc := "(I)Z" }) ∈ wG := wG_in 638 (by decide +kernel) rfl
theorem k_639 : (Jvm.Cond.code { cls := "FundBookModel", name := "isFund", desc := "(I)Z" } prog_9_method_4_code 2 (some .boolean)) ∈ wG := wG_in 639 (by decide +kernel) rfl
theorem k_640 : (Jvm.Cond.constantLong "FundBookModel" 122 1000000000000) ∈ wG := wG_in 640 (by decide +kernel) rfl
theorem k_641 : (Jvm.Cond.methodLink "FundBookModel" 124 { cls := "FundBookModel", name := "fits", desc := "(IJJJ)Z" }) ∈ wG := wG_in 641 (by decide +kernel) rfl
theorem k_643 : (Jvm.Cond.instanceMethod { cls := "FundBookModel", name := "fits", desc := "(IJJJ)Z" }) ∈ wG := wG_in 643 (by decide +kernel) rfl
theorem k_644 : (Jvm.Cond.code { cls := "FundBookModel", name := "fits", desc := "(IJJJ)Z" } prog_9_method_8_code 14 (some .boolean)) ∈ wG := wG_in 644 (by decide +kernel) rfl
theorem k_645 : (Jvm.Cond.methodLink "FundBookModel" 104 { cls := "FundBookModel", name := "encumbered", desc := "(I)J" }) ∈ wG := wG_in 645 (by decide +kernel) rfl
theorem k_647 : (Jvm.Cond.instanceMethod { cls := "FundBookModel", name := "encumbered", desc := "(I)J" }) ∈ wG := wG_in 647 (by decide +kernel) rfl
theorem k_648 : (Jvm.Cond.code { cls := "FundBookModel", name := "encumbered", desc := "(I)J" } prog_9_method_5_code 5 (some .long)) ∈ wG := wG_in 648 (by decide +kernel) rfl
theorem k_649 : (Jvm.Cond.methodLink "FundBookModel" 112 { cls := "FundBookModel", name := "isBound", desc := "(J)Z" }) ∈ wG := wG_in 649 (by decide +kernel) rfl
theorem k_650 : (Jvm.Cond.static { cls := "FundBookModel", name := "isBound", desc := "(J)Z" }) ∈ wG := wG_in 650 (by decide +kernel) rfl
theorem k_651 : (Jvm.Cond.code { cls := "FundBookModel", name := "isBound", desc := "(J)Z" } prog_9_method_7_code 2 (some .boolean)) ∈ wG := wG_in 651 (by decide +kernel) rfl
theorem k_652 : (Jvm.Cond.constantLong "FundBookModel" 108 (-1000000000000000)) ∈ wG := wG_in 652 (by decide +kernel) rfl
theorem k_653 : (Jvm.Cond.constantLong "FundBookModel" 110 1000000000000000) ∈ wG := wG_in 653 (by decide +kernel) rfl
theorem k_654 : (Jvm.Cond.methodLink "FundBookLaw" 43 { cls := "FundBookModel", name := "order", desc := "(IIZ)I" }) ∈ wG := wG_in 654 (by decide +kernel) rfl
theorem k_655 : (Jvm.Cond.instanceMethod { cls := "FundBookModel", name := "order", desc := "(IIZ)I" }) ∈ wG := wG_in 655 (by decide +kernel) rfl
theorem k_656 : (Jvm.Cond.selects "FundBookModel" { cls := "FundBookModel", name := "order", desc := "(IIZ)I" } { cls := "FundBookModel", name := "order", desc := "(IIZ)I" }) ∈ wG := wG_in 656 (by decide +kernel) rfl
theorem k_657 : (Jvm.Cond.code { cls := "FundBookModel", name := "order", desc := "(IIZ)I" } prog_9_method_11_code 5 (some .int)) ∈ wG := wG_in 657 (by decide +kernel) rfl
theorem k_658 : (Jvm.Cond.constantLong "FundBookModel" 128 1000000000) ∈ wG := wG_in 658 (by decide +kernel) rfl
theorem k_659 : (Jvm.Cond.methodLink "FundBookModel" 130 { cls := "FundBookModel", name := "free", desc := "(I)J" }) ∈ wG := wG_in 659 (by decide +kernel) rfl
theorem k_661 : (Jvm.Cond.instanceMethod { cls := "FundBookModel", name := "free", desc := "(I)J" }) ∈ wG := wG_in 661 (by decide +kernel) rfl
theorem k_662 : (Jvm.Cond.code { cls := "FundBookModel", name := "free", desc := "(I)J" } prog_9_method_6_code 2 (some .long)) ∈ wG := wG_in 662 (by decide +kernel) rfl
theorem k_663 : (Jvm.Cond.methodLink "FundBookLaw" 48 { cls := "FundBookModel", name := "approve", desc := "(II)I" }) ∈ wG := wG_in 663 (by decide +kernel) rfl
theorem k_664 : (Jvm.Cond.instanceMethod { cls := "FundBookModel", name := "approve", desc := "(II)I" }) ∈ wG := wG_in 664 (by decide +kernel) rfl
theorem k_665 : (Jvm.Cond.selects "FundBookModel" { cls := "FundBookModel", name := "approve", desc := "(II)I" } { cls := "FundBookModel", name := "approve", desc := "(II)I" }) ∈ wG := wG_in 665 (by decide +kernel) rfl
theorem k_666 : (Jvm.Cond.code { cls := "FundBookModel", name := "approve", desc := "(II)I" } prog_9_method_12_code 3 (some .int)) ∈ wG := wG_in 666 (by decide +kernel) rfl
theorem k_667 : (Jvm.Cond.constantLong "FundBookModel" 133 99) ∈ wG := wG_in 667 (by decide +kernel) rfl
theorem k_668 : (Jvm.Cond.methodLink "FundBookLaw" 53 { cls := "FundBookModel", name := "invoice", desc := "(IIII)J" }) ∈ wG := wG_in 668 (by decide +kernel) rfl
theorem k_669 : (Jvm.Cond.instanceMethod { cls := "FundBookModel", name := "invoice", desc := "(IIII)J" }) ∈ wG := wG_in 669 (by decide +kernel) rfl
theorem k_670 : (Jvm.Cond.selects "FundBookModel" { cls := "FundBookModel", name := "invoice", desc := "(IIII)J" } { cls := "FundBookModel", name := "invoice", desc := "(IIII)J" }) ∈ wG := wG_in 670 (by decide +kernel) rfl
theorem k_671 : (Jvm.Cond.code { cls := "FundBookModel", name := "invoice", desc := "(IIII)J" } prog_9_method_14_code 10 (some .long)) ∈ wG := wG_in 671 (by decide +kernel) rfl
theorem k_672 : (Jvm.Cond.constantLong "FundBookModel" 135 (-1)) ∈ wG := wG_in 672 (by decide +kernel) rfl
theorem k_673 : (Jvm.Cond.constantLong "FundBookModel" 137 9) ∈ wG := wG_in 673 (by decide +kernel) rfl
theorem k_674 : (Jvm.Cond.constantLong "FundBookModel" 139 100000) ∈ wG := wG_in 674 (by decide +kernel) rfl
theorem k_675 : (Jvm.Cond.constantLong "FundBookModel" 141 (-2)) ∈ wG := wG_in 675 (by decide +kernel) rfl
theorem k_676 : (Jvm.Cond.constantLong "FundBookModel" 143 (-3)) ∈ wG := wG_in 676 (by decide +kernel) rfl
theorem k_677 : (Jvm.Cond.methodLink "FundBookModel" 145 { cls := "FundBookModel", name := "rowOn", desc := "(II)I" }) ∈ wG := wG_in 677 (by decide +kernel) rfl
theorem k_679 : (Jvm.Cond.instanceMethod { cls := "FundBookModel", name := "rowOn", desc := "(II)I" }) ∈ wG := wG_in 679 (by decide +kernel) rfl
theorem k_680 : (Jvm.Cond.code { cls := "FundBookModel", name := "rowOn", desc := "(II)I" } prog_9_method_13_code 5 (some .int)) ∈ wG := wG_in 680 (by decide +kernel) rfl
theorem k_681 : (Jvm.Cond.constantLong "FundBookModel" 149 (-6)) ∈ wG := wG_in 681 (by decide +kernel) rfl
theorem k_682 : (Jvm.Cond.constantLong "FundBookModel" 151 1000) ∈ wG := wG_in 682 (by decide +kernel) rfl
theorem k_683 : (Jvm.Cond.constantLong "FundBookModel" 153 (-5)) ∈ wG := wG_in 683 (by decide +kernel) rfl
theorem k_684 : (Jvm.Cond.constantLong "FundBookModel" 155 (-4)) ∈ wG := wG_in 684 (by decide +kernel) rfl
theorem k_685 : (Jvm.Cond.methodLink "FundBookLaw" 57 { cls := "FundBookModel", name := "cancel", desc := "(I)I" }) ∈ wG := wG_in 685 (by decide +kernel) rfl
theorem k_686 : (Jvm.Cond.instanceMethod { cls := "FundBookModel", name := "cancel", desc := "(I)I" }) ∈ wG := wG_in 686 (by decide +kernel) rfl
theorem k_687 : (Jvm.Cond.selects "FundBookModel" { cls := "FundBookModel", name := "cancel", desc := "(I)I" } { cls := "FundBookModel", name := "cancel", desc := "(I)I" }) ∈ wG := wG_in 687 (by decide +kernel) rfl
theorem k_688 : (Jvm.Cond.code { cls := "FundBookModel", name := "cancel", desc := "(I)I" } prog_9_method_15_code 3 (some .int)) ∈ wG := wG_in 688 (by decide +kernel) rfl
theorem k_689 : (Jvm.Cond.methodLink "FundBookLaw" 61 { cls := "FundBookModel", name := "band", desc := "(I)I" }) ∈ wG := wG_in 689 (by decide +kernel) rfl
theorem k_690 : (Jvm.Cond.instanceMethod { cls := "FundBookModel", name := "band", desc := "(I)I" }) ∈ wG := wG_in 690 (by decide +kernel) rfl
theorem k_691 : (Jvm.Cond.selects "FundBookModel" { cls := "FundBookModel", name := "band", desc := "(I)I" } { cls := "FundBookModel", name := "band", desc := "(I)I" }) ∈ wG := wG_in 691 (by decide +kernel) rfl
theorem k_692 : (Jvm.Cond.code { cls := "FundBookModel", name := "band", desc := "(I)I" } prog_9_method_16_code 2 (some .int)) ∈ wG := wG_in 692 (by decide +kernel) rfl
theorem k_693 : (Jvm.Cond.methodLink "FundBookLaw" 66 { cls := "FundBookModel", name := "currency", desc := "(IIII)I" }) ∈ wG := wG_in 693 (by decide +kernel) rfl
theorem k_694 : (Jvm.Cond.instanceMethod { cls := "FundBookModel", name := "currency", desc := "(IIII)I" }) ∈ wG := wG_in 694 (by decide +kernel) rfl
theorem k_695 : (Jvm.Cond.selects "FundBookModel" { cls := "FundBookModel", name := "currency", desc := "(IIII)I" } { cls := "FundBookModel", name := "currency", desc := "(IIII)I" }) ∈ wG := wG_in 695 (by decide +kernel) rfl
theorem k_696 : (Jvm.Cond.code { cls := "FundBookModel", name := "currency", desc := "(IIII)I" } prog_9_method_17_code 6 (some .int)) ∈ wG := wG_in 696 (by decide +kernel) rfl
theorem k_697 : (Jvm.Cond.constantLong "FundBookModel" 157 1000000) ∈ wG := wG_in 697 (by decide +kernel) rfl
theorem k_698 : (Jvm.Cond.methodLink "FundBookLaw" 71 { cls := "FundBookModel", name := "transfer", desc := "(III)I" }) ∈ wG := wG_in 698 (by decide +kernel) rfl
theorem k_699 : (Jvm.Cond.instanceMethod { cls := "FundBookModel", name := "transfer", desc := "(III)I" }) ∈ wG := wG_in 699 (by decide +kernel) rfl
theorem k_700 : (Jvm.Cond.selects "FundBookModel" { cls := "FundBookModel", name := "transfer", desc := "(III)I" } { cls := "FundBookModel", name := "transfer", desc := "(III)I" }) ∈ wG := wG_in 700 (by decide +kernel) rfl
theorem k_701 : (Jvm.Cond.code { cls := "FundBookModel", name := "transfer", desc := "(III)I" } prog_9_method_18_code 4 (some .int)) ∈ wG := wG_in 701 (by decide +kernel) rfl
theorem k_702 : (Jvm.Cond.methodLink "FundBookLaw" 75 { cls := "FundBookModel", name := "agree", desc := "(II)I" }) ∈ wG := wG_in 702 (by decide +kernel) rfl
theorem k_703 : (Jvm.Cond.instanceMethod { cls := "FundBookModel", name := "agree", desc := "(II)I" }) ∈ wG := wG_in 703 (by decide +kernel) rfl
theorem k_704 : (Jvm.Cond.selects "FundBookModel" { cls := "FundBookModel", name := "agree", desc := "(II)I" } { cls := "FundBookModel", name := "agree", desc := "(II)I" }) ∈ wG := wG_in 704 (by decide +kernel) rfl
theorem k_705 : (Jvm.Cond.code { cls := "FundBookModel", name := "agree", desc := "(II)I" } prog_9_method_19_code 5 (some .int)) ∈ wG := wG_in 705 (by decide +kernel) rfl
theorem k_706 : (Jvm.Cond.methodLink "FundBookLaw" 79 { cls := "FundBookModel", name := "row", desc := "(II)I" }) ∈ wG := wG_in 706 (by decide +kernel) rfl
theorem k_707 : (Jvm.Cond.instanceMethod { cls := "FundBookModel", name := "row", desc := "(II)I" }) ∈ wG := wG_in 707 (by decide +kernel) rfl
theorem k_708 : (Jvm.Cond.selects "FundBookModel" { cls := "FundBookModel", name := "row", desc := "(II)I" } { cls := "FundBookModel", name := "row", desc := "(II)I" }) ∈ wG := wG_in 708 (by decide +kernel) rfl
theorem k_709 : (Jvm.Cond.code { cls := "FundBookModel", name := "row", desc := "(II)I" } prog_9_method_20_code 3 (some .int)) ∈ wG := wG_in 709 (by decide +kernel) rfl
theorem k_710 : (Jvm.Cond.constantLong "FundBookModel" 162 (-1000000000)) ∈ wG := wG_in 710 (by decide +kernel) rfl
theorem k_711 : (Jvm.Cond.methodLink "FundBookLaw" 83 { cls := "FundBookModel", name := "post", desc := "()I" }) ∈ wG := wG_in 711 (by decide +kernel) rfl
theorem k_712 : (Jvm.Cond.instanceMethod { cls := "FundBookModel", name := "post", desc := "()I" }) ∈ wG := wG_in 712 (by decide +kernel) rfl
theorem k_713 : (Jvm.Cond.selects "FundBookModel" { cls := "FundBookModel", name := "post", desc := "()I" } { cls := "FundBookModel", name := "post", desc := "()I" }) ∈ wG := wG_in 713 (by decide +kernel) rfl
theorem k_714 : (Jvm.Cond.code { cls := "FundBookModel", name := "post", desc := "()I" } prog_9_method_22_code 6 (some .int)) ∈ wG := wG_in 714 (by decide +kernel) rfl
theorem k_715 : (Jvm.Cond.methodLink "FundBookModel" 167 { cls := "FundBookModel", name := "batched", desc := "(I)J" }) ∈ wG := wG_in 715 (by decide +kernel) rfl
theorem k_717 : (Jvm.Cond.instanceMethod { cls := "FundBookModel", name := "batched", desc := "(I)J" }) ∈ wG := wG_in 717 (by decide +kernel) rfl
theorem k_718 : (Jvm.Cond.code { cls := "FundBookModel", name := "batched", desc := "(I)J" } prog_9_method_21_code 5 (some .long)) ∈ wG := wG_in 718 (by decide +kernel) rfl
theorem k_719 : (Jvm.Cond.methodLink "FundBookLaw" 90 { cls := "FundBookModel", name := "failing", desc := "()I" }) ∈ wG := wG_in 719 (by decide +kernel) rfl
theorem k_720 : (Jvm.Cond.instanceMethod { cls := "FundBookModel", name := "failing", desc := "()I" }) ∈ wG := wG_in 720 (by decide +kernel) rfl
theorem k_721 : (Jvm.Cond.selects "FundBookModel" { cls := "FundBookModel", name := "failing", desc := "()I" } { cls := "FundBookModel", name := "failing", desc := "()I" }) ∈ wG := wG_in 721 (by decide +kernel) rfl
theorem k_722 : (Jvm.Cond.code { cls := "FundBookModel", name := "failing", desc := "()I" } prog_9_method_23_code 1 (some .int)) ∈ wG := wG_in 722 (by decide +kernel) rfl
theorem k_723 : (Jvm.Cond.methodLink "FundBookLaw" 94 { cls := "FundBookModel", name := "close", desc := "()I" }) ∈ wG := wG_in 723 (by decide +kernel) rfl
theorem k_724 : (Jvm.Cond.instanceMethod { cls := "FundBookModel", name := "close", desc := "()I" }) ∈ wG := wG_in 724 (by decide +kernel) rfl
theorem k_725 : (Jvm.Cond.selects "FundBookModel" { cls := "FundBookModel", name := "close", desc := "()I" } { cls := "FundBookModel", name := "close", desc := "()I" }) ∈ wG := wG_in 725 (by decide +kernel) rfl
theorem k_726 : (Jvm.Cond.code { cls := "FundBookModel", name := "close", desc := "()I" } prog_9_method_24_code 6 (some .int)) ∈ wG := wG_in 726 (by decide +kernel) rfl
theorem k_727 : (Jvm.Cond.methodLink "FundBookLaw" 99 { cls := "FundBookModel", name := "about", desc := "(II)J" }) ∈ wG := wG_in 727 (by decide +kernel) rfl
theorem k_728 : (Jvm.Cond.instanceMethod { cls := "FundBookModel", name := "about", desc := "(II)J" }) ∈ wG := wG_in 728 (by decide +kernel) rfl
theorem k_729 : (Jvm.Cond.selects "FundBookModel" { cls := "FundBookModel", name := "about", desc := "(II)J" } { cls := "FundBookModel", name := "about", desc := "(II)J" }) ∈ wG := wG_in 729 (by decide +kernel) rfl
theorem k_730 : (Jvm.Cond.code { cls := "FundBookModel", name := "about", desc := "(II)J" } prog_9_method_25_code 3 (some .long)) ∈ wG := wG_in 730 (by decide +kernel) rfl
theorem k_731 : (Jvm.Cond.constantLong "FundBookModel" 170 (-1000000000000000001)) ∈ wG := wG_in 731 (by decide +kernel) rfl
theorem k_732 : (Jvm.Cond.methodLink "FundBookLaw" 103 { cls := "FundBookModel", name := "told", desc := "(II)J" }) ∈ wG := wG_in 732 (by decide +kernel) rfl
theorem k_733 : (Jvm.Cond.instanceMethod { cls := "FundBookModel", name := "told", desc := "(II)J" }) ∈ wG := wG_in 733 (by decide +kernel) rfl
theorem k_734 : (Jvm.Cond.selects "FundBookModel" { cls := "FundBookModel", name := "told", desc := "(II)J" } { cls := "FundBookModel", name := "told", desc := "(II)J" }) ∈ wG := wG_in 734 (by decide +kernel) rfl
theorem k_735 : (Jvm.Cond.code { cls := "FundBookModel", name := "told", desc := "(II)J" } prog_9_method_26_code 3 (some .long)) ∈ wG := wG_in 735 (by decide +kernel) rfl
theorem k_736 : (Jvm.Cond.methodLink "FundBookLaw" 108 { cls := "FundBookModel", name := "sum", desc := "(I)J" }) ∈ wG := wG_in 736 (by decide +kernel) rfl
theorem k_737 : (Jvm.Cond.instanceMethod { cls := "FundBookModel", name := "sum", desc := "(I)J" }) ∈ wG := wG_in 737 (by decide +kernel) rfl
theorem k_738 : (Jvm.Cond.selects "FundBookModel" { cls := "FundBookModel", name := "sum", desc := "(I)J" } { cls := "FundBookModel", name := "sum", desc := "(I)J" }) ∈ wG := wG_in 738 (by decide +kernel) rfl
theorem k_739 : (Jvm.Cond.code { cls := "FundBookModel", name := "sum", desc := "(I)J" } prog_9_method_27_code 5 (some .long)) ∈ wG := wG_in 739 (by decide +kernel) rfl
theorem k_740 : (Jvm.Cond.constantLong "FundBookLaw" 32 4294967295) ∈ wG := wG_in 740 (by decide +kernel) rfl
end
section
theorem d_FB_isWithin_0 : decode b_FB_isWithin 0 = .ok (.lload_n 0, 1) := by decide +kernel
theorem d_FB_isWithin_1 : decode b_FB_isWithin 1 = .ok (.lload_n 2, 1) := by decide +kernel
theorem d_FB_isWithin_2 : decode b_FB_isWithin 2 = .ok (.lcmp, 1) := by decide +kernel
theorem d_FB_isWithin_3 : decode b_FB_isWithin 3 = .ok (.ifCond .lt 14, 3) := by decide +kernel
theorem d_FB_isWithin_6 : decode b_FB_isWithin 6 = .ok (.lload_n 0, 1) := by decide +kernel
theorem d_FB_isWithin_7 : decode b_FB_isWithin 7 = .ok (.lload 4, 2) := by decide +kernel
theorem d_FB_isWithin_9 : decode b_FB_isWithin 9 = .ok (.lcmp, 1) := by decide +kernel
theorem d_FB_isWithin_10 : decode b_FB_isWithin 10 = .ok (.ifCond .gt 7, 3) := by decide +kernel
theorem d_FB_isWithin_13 : decode b_FB_isWithin 13 = .ok (.iconst 1, 1) := by decide +kernel
theorem d_FB_isWithin_14 : decode b_FB_isWithin 14 = .ok (.goto 4, 3) := by decide +kernel
theorem d_FB_isWithin_17 : decode b_FB_isWithin 17 = .ok (.iconst 0, 1) := by decide +kernel
theorem d_FB_isWithin_18 : decode b_FB_isWithin 18 = .ok (.ireturn, 1) := by decide +kernel
set_option maxHeartbeats 4000000 in
set_option maxRecDepth 100000 in
theorem c_FB_isWithin (l : Launch) (dC : Nat → ClassId) (dI : Nat → Nat → Nat) (tys : List (ClassId × FieldType)) (ws : va_W) (v : Int64) (lo : Int64) (hi : Int64) : Met l y_FB_isWithin w_FB_isWithin { frames := 0, cells := 0, slots := 0, locals := 0 } (rd_P (dC, dI) classes tys ws [.long v, .long lo, .long hi]) (vp_Si (fun r => r = bI (iw v lo hi))) 0 0 (fun _ => False) := by
  refine Met.ofW (cc := b_FB_isWithin) (maxL := 6) (ret := (some .boolean)) (by decide) rfl ?_
  intro p e s m args below meth c s₁ B hml hv
  obtain ⟨rfl, hP, hK, hN⟩ := hv
  have hx := B.exec
  have hb := B.bytes
  have hr := B.returns
  have hts := atoms_spec (ws := w_FB_isWithin) B.pre
  have hG := fun (w : Cond) (h : w ∈ wG) => hts w (List.mem_cons_of_mem _ h)
  have hown : s.vm.findClass R_FB = some m.cls := findClass_of_methodNamed B.named
  have hlocks := B.notSynchronized
  have hl := lv_entry ([.long v, .long lo, .long hi]) (n := 6) (Nat.le_of_ble_eq_true rfl)
  rw [lg_entry_eq]
  generalize (lg_sl ([.long v, .long lo, .long hi]) ++ List.replicate (6 - (lg_sl ([.long v, .long lo, .long hi])).length) Slot.unset).toArray = ls at hl ⊢
  have hl : lv_has ls 6 [(0, .long v), (2, .long lo), (4, .long hi)] := hl
  refine lv_lload_n hx hb d_FB_isWithin_0 rfl (lv_at hl 0 rfl) ?_
  refine lv_lload_n hx hb d_FB_isWithin_1 rfl (lv_at hl 1 rfl) ?_
  refine lc_lt (tgt := 17) hx hb d_FB_isWithin_2 d_FB_isWithin_3 (by decide) (fun c_1 => ?_) (fun c_1 => ?_)
  · refine lv_iconst (v := 0) hx hb d_FB_isWithin_17 (by decide) ?_
    exact W.zret (v := 0) (ty := .boolean) hx hb hr rfl (fun t ht hW => ⟨_, rfl, (by simp [iw, bI, c_1]), ht⟩) (fun q h => by cases h) d_FB_isWithin_18
  · refine lv_lload_n hx hb d_FB_isWithin_6 rfl (lv_at hl 0 rfl) ?_
    refine lv_lload hx hb d_FB_isWithin_7 (lv_at hl 2 rfl) ?_
    refine lc_gt (tgt := 17) hx hb d_FB_isWithin_9 d_FB_isWithin_10 (by decide) (fun c_2 => ?_) (fun c_2 => ?_)
    · refine lv_iconst (v := 0) hx hb d_FB_isWithin_17 (by decide) ?_
      exact W.zret (v := 0) (ty := .boolean) hx hb hr rfl (fun t ht hW => ⟨_, rfl, (by simp [iw, bI, c_1, c_2]), ht⟩) (fun q h => by cases h) d_FB_isWithin_18
    · refine lv_iconst (v := 1) hx hb d_FB_isWithin_13 (by decide) ?_
      refine lv_goto (tgt := 18) hx hb d_FB_isWithin_14 (by decide) ?_
      exact W.zret (v := 1) (ty := .boolean) hx hb hr rfl (fun t ht hW => ⟨_, rfl, (by simp [iw, bI, c_1, c_2]), ht⟩) (fun q h => by cases h) d_FB_isWithin_18

theorem d_FB_isAmount_0 : decode b_FB_isAmount 0 = .ok (.lload_n 0, 1) := by decide +kernel
theorem d_FB_isAmount_1 : decode b_FB_isAmount 1 = .ok (.ldc2_w 261, 3) := by decide +kernel
theorem d_FB_isAmount_4 : decode b_FB_isAmount 4 = .ok (.ldc2_w 263, 3) := by decide +kernel
theorem d_FB_isAmount_7 : decode b_FB_isAmount 7 = .ok (.invokestatic 61, 3) := by decide +kernel
theorem d_FB_isAmount_10 : decode b_FB_isAmount 10 = .ok (.ireturn, 1) := by decide +kernel
set_option maxHeartbeats 4000000 in
set_option maxRecDepth 100000 in
theorem c_FB_isAmount (l : Launch) (dC : Nat → ClassId) (dI : Nat → Nat → Nat) (tys : List (ClassId × FieldType)) (ws : va_W) (v : Int64) : Met l y_FB_isAmount w_FB_isAmount { frames := 1, cells := 0, slots := 0, locals := 25 } (rd_P (dC, dI) classes tys ws [.long v]) (vp_Si (fun r => r = bI (bnd v))) 0 0 (fun _ => False) := by
  refine Met.ofW (cc := b_FB_isAmount) (maxL := 2) (ret := (some .boolean)) (by decide) rfl ?_
  intro p e s m args below meth c s₁ B hml hv
  obtain ⟨rfl, hP, hK, hN⟩ := hv
  have hx := B.exec
  have hb := B.bytes
  have hr := B.returns
  have hts := atoms_spec (ws := w_FB_isAmount) B.pre
  have hG := fun (w : Cond) (h : w ∈ wG) => hts w (List.mem_cons_of_mem _ h)
  have hown : s.vm.findClass R_FB = some m.cls := findClass_of_methodNamed B.named
  have hlocks := B.notSynchronized
  have hl := lv_entry ([.long v]) (n := 2) (Nat.le_of_ble_eq_true rfl)
  rw [lg_entry_eq]
  generalize (lg_sl ([.long v]) ++ List.replicate (2 - (lg_sl ([.long v])).length) Slot.unset).toArray = ls at hl ⊢
  have hl : lv_has ls 2 [(0, .long v)] := hl
  refine lv_lload_n hx hb d_FB_isAmount_0 rfl (lv_at hl 0 rfl) ?_
  refine lv_ldc2 (own := R_FB) (v := (-1000000000000000)) hx hb hown (hG _ k_157) d_FB_isAmount_1 ?_
  refine lv_ldc2 (own := R_FB) (v := 1000000000000000) hx hb hown (hG _ k_158) d_FB_isAmount_4 ?_
  refine rd_calli (va_runS (As := [.long v, .long (-1000000000000000), .long 1000000000000000]) (rest := []) ⟨hx, hb, hml, hown, hts⟩ (c_FB_isWithin l dC dI tys ws v (-1000000000000000) 1000000000000000) (cwS 3 hts (gd_S k_106 k_107 k_14 k_108) rfl rfl rfl (by decide +kernel) ⟨Nat.le_of_ble_eq_true rfl, Nat.le_of_ble_eq_true rfl⟩) (rd_preS hK hN hP) rfl rfl hl.1 rfl (lv_room (Nat.le_of_ble_eq_true rfl)) d_FB_isAmount_7 ⟨Nat.zero_le _, Nat.zero_le _⟩) (fun r_1 hr_1 => ?_)
  subst hr_1
  exact W.zret (v := (bI (iw v (-1000000000000000) 1000000000000000))) (ty := .boolean) hx hb hr (bI_nar _) (fun t ht hW => ⟨_, rfl, rfl, ht⟩) (fun q h => by cases h) d_FB_isAmount_10

theorem d_Ac_free_0 : decode b_Ac_free 0 = .ok (.aload_n 0, 1) := by decide +kernel
theorem d_Ac_free_1 : decode b_Ac_free 1 = .ok (.getfield 18, 3) := by decide +kernel
theorem d_Ac_free_4 : decode b_Ac_free 4 = .ok (.aload_n 0, 1) := by decide +kernel
theorem d_Ac_free_5 : decode b_Ac_free 5 = .ok (.getfield 22, 3) := by decide +kernel
theorem d_Ac_free_8 : decode b_Ac_free 8 = .ok (.lsub, 1) := by decide +kernel
theorem d_Ac_free_9 : decode b_Ac_free 9 = .ok (.aload_n 0, 1) := by decide +kernel
theorem d_Ac_free_10 : decode b_Ac_free 10 = .ok (.getfield 25, 3) := by decide +kernel
theorem d_Ac_free_13 : decode b_Ac_free 13 = .ok (.lsub, 1) := by decide +kernel
theorem d_Ac_free_14 : decode b_Ac_free 14 = .ok (.lreturn, 1) := by decide +kernel
set_option maxHeartbeats 4000000 in
set_option maxRecDepth 100000 in
theorem c_Ac_free (l : Launch) (dC : Nat → ClassId) (dI : Nat → Nat → Nat) (tys : List (ClassId × FieldType)) (L : List Nat) (f : Nat → va_E) (a : Nat) (a_n a_cy : Int32) (a_g a_en a_sp a_pd : Int64) (hm_a : a ∈ L) (he_a : f a = .inr (1, [.int a_n, .int a_cy, .long a_g, .long a_en, .long a_sp, .long a_pd])) : Met l y_Ac_free w_Ac_free { frames := 0, cells := 0, slots := 0, locals := 0 } (rd_P (dC, dI) classes tys (va_pl L f) [.ref a]) (vp_Sl (fun r => r = a_g - a_en - a_sp)) 0 0 (fun _ => False) := by
  refine Met.ofW (cc := b_Ac_free) (maxL := 1) (ret := (some .long)) (by decide) rfl ?_
  intro p e s m args below meth c s₁ B hml hv
  obtain ⟨rfl, hP, hK, hN⟩ := hv
  have hx := B.exec
  have hb := B.bytes
  have hr := B.returns
  have hts := atoms_spec (ws := w_Ac_free) B.pre
  have hG := fun (w : Cond) (h : w ∈ wG) => hts w (List.mem_cons_of_mem _ h)
  have hown : s.vm.findClass R_Ac = some m.cls := findClass_of_methodNamed B.named
  have hlocks := B.notSynchronized
  have hl := lv_entry ([.ref a]) (n := 1) (Nat.le_of_ble_eq_true rfl)
  rw [lg_entry_eq]
  generalize (lg_sl ([.ref a]) ++ List.replicate (1 - (lg_sl ([.ref a])).length) Slot.unset).toArray = ls at hl ⊢
  have hl : lv_has ls 1 [(0, .ref a)] := hl
  refine lv_aload_n hx hb d_Ac_free_0 rfl (lv_at hl 0 rfl) ?_
  refine fw_get (D := (dC, dI)) (ci := 1) (v := .long a_g) (C := R_Ac) (T := F_Ac) (N := 6) hx hb hG iG_Ac hown hK hP hm_a he_a rfl 2 (by decide) (hG _ k_117) (fun _ h9 => h9) rfl d_Ac_free_1 ?_
  refine lv_aload_n hx hb d_Ac_free_4 rfl (lv_at hl 0 rfl) ?_
  refine fw_get (D := (dC, dI)) (ci := 1) (v := .long a_en) (C := R_Ac) (T := F_Ac) (N := 6) hx hb hG iG_Ac hown hK hP hm_a he_a rfl 3 (by decide) (hG _ k_121) (fun _ h9 => h9) rfl d_Ac_free_5 ?_
  refine lv_lsub hx hb d_Ac_free_8 ?_
  refine lv_aload_n hx hb d_Ac_free_9 rfl (lv_at hl 0 rfl) ?_
  refine fw_get (D := (dC, dI)) (ci := 1) (v := .long a_sp) (C := R_Ac) (T := F_Ac) (N := 6) hx hb hG iG_Ac hown hK hP hm_a he_a rfl 4 (by decide) (hG _ k_124) (fun _ h9 => h9) rfl d_Ac_free_10 ?_
  refine lv_lsub hx hb d_Ac_free_13 ?_
  exact W.lret (v := ((a_g - a_en) - a_sp)) hx hb hr (fun t ht hW => ⟨_, rfl, rfl, ht⟩) (fun q h => by cases h) d_Ac_free_14

theorem d_Ac_hasRoomFor_0 : decode b_Ac_hasRoomFor 0 = .ok (.aload_n 0, 1) := by decide +kernel
theorem d_Ac_hasRoomFor_1 : decode b_Ac_hasRoomFor 1 = .ok (.getfield 18, 3) := by decide +kernel
theorem d_Ac_hasRoomFor_4 : decode b_Ac_hasRoomFor 4 = .ok (.lload_n 1, 1) := by decide +kernel
theorem d_Ac_hasRoomFor_5 : decode b_Ac_hasRoomFor 5 = .ok (.ladd, 1) := by decide +kernel
theorem d_Ac_hasRoomFor_6 : decode b_Ac_hasRoomFor 6 = .ok (.invokestatic 28, 3) := by decide +kernel
theorem d_Ac_hasRoomFor_9 : decode b_Ac_hasRoomFor 9 = .ok (.ifCond .eq 49, 3) := by decide +kernel
theorem d_Ac_hasRoomFor_12 : decode b_Ac_hasRoomFor 12 = .ok (.aload_n 0, 1) := by decide +kernel
theorem d_Ac_hasRoomFor_13 : decode b_Ac_hasRoomFor 13 = .ok (.getfield 22, 3) := by decide +kernel
theorem d_Ac_hasRoomFor_16 : decode b_Ac_hasRoomFor 16 = .ok (.lload_n 3, 1) := by decide +kernel
theorem d_Ac_hasRoomFor_17 : decode b_Ac_hasRoomFor 17 = .ok (.ladd, 1) := by decide +kernel
theorem d_Ac_hasRoomFor_18 : decode b_Ac_hasRoomFor 18 = .ok (.invokestatic 28, 3) := by decide +kernel
theorem d_Ac_hasRoomFor_21 : decode b_Ac_hasRoomFor 21 = .ok (.ifCond .eq 37, 3) := by decide +kernel
theorem d_Ac_hasRoomFor_24 : decode b_Ac_hasRoomFor 24 = .ok (.aload_n 0, 1) := by decide +kernel
theorem d_Ac_hasRoomFor_25 : decode b_Ac_hasRoomFor 25 = .ok (.getfield 25, 3) := by decide +kernel
theorem d_Ac_hasRoomFor_28 : decode b_Ac_hasRoomFor 28 = .ok (.lload 5, 2) := by decide +kernel
theorem d_Ac_hasRoomFor_30 : decode b_Ac_hasRoomFor 30 = .ok (.ladd, 1) := by decide +kernel
theorem d_Ac_hasRoomFor_31 : decode b_Ac_hasRoomFor 31 = .ok (.invokestatic 28, 3) := by decide +kernel
theorem d_Ac_hasRoomFor_34 : decode b_Ac_hasRoomFor 34 = .ok (.ifCond .eq 24, 3) := by decide +kernel
theorem d_Ac_hasRoomFor_37 : decode b_Ac_hasRoomFor 37 = .ok (.aload_n 0, 1) := by decide +kernel
theorem d_Ac_hasRoomFor_38 : decode b_Ac_hasRoomFor 38 = .ok (.invokevirtual 32, 3) := by decide +kernel
theorem d_Ac_hasRoomFor_41 : decode b_Ac_hasRoomFor 41 = .ok (.lload_n 1, 1) := by decide +kernel
theorem d_Ac_hasRoomFor_42 : decode b_Ac_hasRoomFor 42 = .ok (.ladd, 1) := by decide +kernel
theorem d_Ac_hasRoomFor_43 : decode b_Ac_hasRoomFor 43 = .ok (.lload_n 3, 1) := by decide +kernel
theorem d_Ac_hasRoomFor_44 : decode b_Ac_hasRoomFor 44 = .ok (.lsub, 1) := by decide +kernel
theorem d_Ac_hasRoomFor_45 : decode b_Ac_hasRoomFor 45 = .ok (.lload 5, 2) := by decide +kernel
theorem d_Ac_hasRoomFor_47 : decode b_Ac_hasRoomFor 47 = .ok (.lsub, 1) := by decide +kernel
theorem d_Ac_hasRoomFor_48 : decode b_Ac_hasRoomFor 48 = .ok (.invokestatic 28, 3) := by decide +kernel
theorem d_Ac_hasRoomFor_51 : decode b_Ac_hasRoomFor 51 = .ok (.ifCond .eq 7, 3) := by decide +kernel
theorem d_Ac_hasRoomFor_54 : decode b_Ac_hasRoomFor 54 = .ok (.iconst 1, 1) := by decide +kernel
theorem d_Ac_hasRoomFor_55 : decode b_Ac_hasRoomFor 55 = .ok (.goto 4, 3) := by decide +kernel
theorem d_Ac_hasRoomFor_58 : decode b_Ac_hasRoomFor 58 = .ok (.iconst 0, 1) := by decide +kernel
theorem d_Ac_hasRoomFor_59 : decode b_Ac_hasRoomFor 59 = .ok (.ireturn, 1) := by decide +kernel
set_option maxHeartbeats 4000000 in
set_option maxRecDepth 100000 in
theorem c_Ac_hasRoomFor (l : Launch) (dC : Nat → ClassId) (dI : Nat → Nat → Nat) (tys : List (ClassId × FieldType)) (L : List Nat) (f : Nat → va_E) (a : Nat) (a_n a_cy : Int32) (a_g a_en a_sp a_pd : Int64) (mg : Int64) (me : Int64) (ms : Int64) (hm_a : a ∈ L) (he_a : f a = .inr (1, [.int a_n, .int a_cy, .long a_g, .long a_en, .long a_sp, .long a_pd])) : Met l y_Ac_hasRoomFor w_Ac_hasRoomFor { frames := 2, cells := 0, slots := 0, locals := 46 } (rd_P (dC, dI) classes tys (va_pl L f) [.ref a, .long mg, .long me, .long ms]) (vp_Si (fun r => r = bI (bnd (a_g + mg) && bnd (a_en + me) && bnd (a_sp + ms) && bnd (a_g - a_en - a_sp + mg - me - ms)))) 0 0 (fun _ => False) := by
  refine Met.ofW (cc := b_Ac_hasRoomFor) (maxL := 7) (ret := (some .boolean)) (by decide) rfl ?_
  intro p e s m args below meth c s₁ B hml hv
  obtain ⟨rfl, hP, hK, hN⟩ := hv
  have hx := B.exec
  have hb := B.bytes
  have hr := B.returns
  have hts := atoms_spec (ws := w_Ac_hasRoomFor) B.pre
  have hG := fun (w : Cond) (h : w ∈ wG) => hts w (List.mem_cons_of_mem _ h)
  have hown : s.vm.findClass R_Ac = some m.cls := findClass_of_methodNamed B.named
  have hlocks := B.notSynchronized
  have hl := lv_entry ([.ref a, .long mg, .long me, .long ms]) (n := 7) (Nat.le_of_ble_eq_true rfl)
  rw [lg_entry_eq]
  generalize (lg_sl ([.ref a, .long mg, .long me, .long ms]) ++ List.replicate (7 - (lg_sl ([.ref a, .long mg, .long me, .long ms])).length) Slot.unset).toArray = ls at hl ⊢
  have hl : lv_has ls 7 [(0, .ref a), (1, .long mg), (3, .long me), (5, .long ms)] := hl
  refine lv_aload_n hx hb d_Ac_hasRoomFor_0 rfl (lv_at hl 0 rfl) ?_
  refine fw_get (D := (dC, dI)) (ci := 1) (v := .long a_g) (C := R_Ac) (T := F_Ac) (N := 6) hx hb hG iG_Ac hown hK hP hm_a he_a rfl 2 (by decide) (hG _ k_117) (fun _ h9 => h9) rfl d_Ac_hasRoomFor_1 ?_
  refine lv_lload_n hx hb d_Ac_hasRoomFor_4 rfl (lv_at hl 1 rfl) ?_
  refine lv_ladd hx hb d_Ac_hasRoomFor_5 ?_
  refine rd_calli (va_runSN (As := [.long (a_g + mg)]) (rest := []) ⟨hx, hb, hml, hown, hts⟩ (c_FB_isAmount l dC dI tys (va_pl L f) (a_g + mg)) ⟨va_cnB 1 hts (gd_c k_156) rfl rfl rfl (hN _ k_154) (hG _ k_14) (by decide +kernel) ⟨Nat.le_of_ble_eq_true rfl, Nat.le_of_ble_eq_true rfl⟩, (hG _ k_155), trivial⟩ (rd_preS hK hN hP) rfl rfl hl.1 rfl (lv_room (Nat.le_of_ble_eq_true rfl)) d_Ac_hasRoomFor_6 ⟨Nat.zero_le _, Nat.zero_le _⟩) (fun r_1 hr_1 => ?_)
  subst hr_1
  refine lb_if_eq (tgt := 58) hx hb d_Ac_hasRoomFor_9 (by decide) (fun c_2 => ?_) (fun c_2 => ?_)
  · refine lv_iconst (v := 0) hx hb d_Ac_hasRoomFor_58 (by decide) ?_
    exact W.zret (v := 0) (ty := .boolean) hx hb hr rfl (fun t ht hW => ⟨_, rfl, (by simp [bI, c_2]), ht⟩) (fun q h => by cases h) d_Ac_hasRoomFor_59
  · refine lv_aload_n hx hb d_Ac_hasRoomFor_12 rfl (lv_at hl 0 rfl) ?_
    refine fw_get (D := (dC, dI)) (ci := 1) (v := .long a_en) (C := R_Ac) (T := F_Ac) (N := 6) hx hb hG iG_Ac hown hK hP hm_a he_a rfl 3 (by decide) (hG _ k_121) (fun _ h9 => h9) rfl d_Ac_hasRoomFor_13 ?_
    refine lv_lload_n hx hb d_Ac_hasRoomFor_16 rfl (lv_at hl 2 rfl) ?_
    refine lv_ladd hx hb d_Ac_hasRoomFor_17 ?_
    refine rd_calli (va_runSN (As := [.long (a_en + me)]) (rest := []) ⟨hx, hb, hml, hown, hts⟩ (c_FB_isAmount l dC dI tys (va_pl L f) (a_en + me)) ⟨va_cnB 1 hts (gd_c k_156) rfl rfl rfl (hN _ k_154) (hG _ k_14) (by decide +kernel) ⟨Nat.le_of_ble_eq_true rfl, Nat.le_of_ble_eq_true rfl⟩, (hG _ k_155), trivial⟩ (rd_preS hK hN hP) rfl rfl hl.1 rfl (lv_room (Nat.le_of_ble_eq_true rfl)) d_Ac_hasRoomFor_18 ⟨Nat.zero_le _, Nat.zero_le _⟩) (fun r_3 hr_3 => ?_)
    subst hr_3
    refine lb_if_eq (tgt := 58) hx hb d_Ac_hasRoomFor_21 (by decide) (fun c_4 => ?_) (fun c_4 => ?_)
    · refine lv_iconst (v := 0) hx hb d_Ac_hasRoomFor_58 (by decide) ?_
      exact W.zret (v := 0) (ty := .boolean) hx hb hr rfl (fun t ht hW => ⟨_, rfl, (by simp [bI, c_2, c_4]), ht⟩) (fun q h => by cases h) d_Ac_hasRoomFor_59
    · refine lv_aload_n hx hb d_Ac_hasRoomFor_24 rfl (lv_at hl 0 rfl) ?_
      refine fw_get (D := (dC, dI)) (ci := 1) (v := .long a_sp) (C := R_Ac) (T := F_Ac) (N := 6) hx hb hG iG_Ac hown hK hP hm_a he_a rfl 4 (by decide) (hG _ k_124) (fun _ h9 => h9) rfl d_Ac_hasRoomFor_25 ?_
      refine lv_lload hx hb d_Ac_hasRoomFor_28 (lv_at hl 3 rfl) ?_
      refine lv_ladd hx hb d_Ac_hasRoomFor_30 ?_
      refine rd_calli (va_runSN (As := [.long (a_sp + ms)]) (rest := []) ⟨hx, hb, hml, hown, hts⟩ (c_FB_isAmount l dC dI tys (va_pl L f) (a_sp + ms)) ⟨va_cnB 1 hts (gd_c k_156) rfl rfl rfl (hN _ k_154) (hG _ k_14) (by decide +kernel) ⟨Nat.le_of_ble_eq_true rfl, Nat.le_of_ble_eq_true rfl⟩, (hG _ k_155), trivial⟩ (rd_preS hK hN hP) rfl rfl hl.1 rfl (lv_room (Nat.le_of_ble_eq_true rfl)) d_Ac_hasRoomFor_31 ⟨Nat.zero_le _, Nat.zero_le _⟩) (fun r_5 hr_5 => ?_)
      subst hr_5
      refine lb_if_eq (tgt := 58) hx hb d_Ac_hasRoomFor_34 (by decide) (fun c_6 => ?_) (fun c_6 => ?_)
      · refine lv_iconst (v := 0) hx hb d_Ac_hasRoomFor_58 (by decide) ?_
        exact W.zret (v := 0) (ty := .boolean) hx hb hr rfl (fun t ht hW => ⟨_, rfl, (by simp [bI, c_2, c_4, c_6]), ht⟩) (fun q h => by cases h) d_Ac_hasRoomFor_59
      · refine lv_aload_n hx hb d_Ac_hasRoomFor_37 rfl (lv_at hl 0 rfl) ?_
        refine rd_calll (va_runV (As := []) (rest := []) ⟨hx, hb, hml, hown, hts⟩ (c_Ac_free l dC dI tys L f a a_n a_cy a_g a_en a_sp a_pd hm_a he_a) (cwV 0 hts (gd_V k_159 k_160 k_161 k_18 k_162) rfl rfl rfl (by decide +kernel) ⟨Nat.le_of_ble_eq_true rfl, Nat.le_of_ble_eq_true rfl⟩) (fw_preV hK hN hP rfl hm_a he_a) rfl rfl hl.1 rfl (lv_room (Nat.le_of_ble_eq_true rfl)) d_Ac_hasRoomFor_38 ⟨Nat.zero_le _, Nat.zero_le _⟩) (fun r_7 hr_7 => ?_)
        subst hr_7
        refine lv_lload_n hx hb d_Ac_hasRoomFor_41 rfl (lv_at hl 1 rfl) ?_
        refine lv_ladd hx hb d_Ac_hasRoomFor_42 ?_
        refine lv_lload_n hx hb d_Ac_hasRoomFor_43 rfl (lv_at hl 2 rfl) ?_
        refine lv_lsub hx hb d_Ac_hasRoomFor_44 ?_
        refine lv_lload hx hb d_Ac_hasRoomFor_45 (lv_at hl 3 rfl) ?_
        refine lv_lsub hx hb d_Ac_hasRoomFor_47 ?_
        refine rd_calli (va_runSN (As := [.long ((((a_g - a_en - a_sp) + mg) - me) - ms)]) (rest := []) ⟨hx, hb, hml, hown, hts⟩ (c_FB_isAmount l dC dI tys (va_pl L f) ((((a_g - a_en - a_sp) + mg) - me) - ms)) ⟨va_cnB 1 hts (gd_c k_156) rfl rfl rfl (hN _ k_154) (hG _ k_14) (by decide +kernel) ⟨Nat.le_of_ble_eq_true rfl, Nat.le_of_ble_eq_true rfl⟩, (hG _ k_155), trivial⟩ (rd_preS hK hN hP) rfl rfl hl.1 rfl (lv_room (Nat.le_of_ble_eq_true rfl)) d_Ac_hasRoomFor_48 ⟨Nat.zero_le _, Nat.zero_le _⟩) (fun r_8 hr_8 => ?_)
        subst hr_8
        refine lb_if_eq (tgt := 58) hx hb d_Ac_hasRoomFor_51 (by decide) (fun c_9 => ?_) (fun c_9 => ?_)
        · refine lv_iconst (v := 0) hx hb d_Ac_hasRoomFor_58 (by decide) ?_
          exact W.zret (v := 0) (ty := .boolean) hx hb hr rfl (fun t ht hW => ⟨_, rfl, (by simp [bI, c_2, c_4, c_6, c_9]), ht⟩) (fun q h => by cases h) d_Ac_hasRoomFor_59
        · refine lv_iconst (v := 1) hx hb d_Ac_hasRoomFor_54 (by decide) ?_
          refine lv_goto (tgt := 59) hx hb d_Ac_hasRoomFor_55 (by decide) ?_
          exact W.zret (v := 1) (ty := .boolean) hx hb hr rfl (fun t ht hW => ⟨_, rfl, (by simp [bI, c_2, c_4, c_6, c_9]), ht⟩) (fun q h => by cases h) d_Ac_hasRoomFor_59

theorem d_Ac_carried_0 : decode b_Ac_carried 0 = .ok (.aload_n 0, 1) := by decide +kernel
theorem d_Ac_carried_1 : decode b_Ac_carried 1 = .ok (.invokevirtual 32, 3) := by decide +kernel
theorem d_Ac_carried_4 : decode b_Ac_carried 4 = .ok (.lstore_n 1, 1) := by decide +kernel
theorem d_Ac_carried_5 : decode b_Ac_carried 5 = .ok (.lload_n 1, 1) := by decide +kernel
theorem d_Ac_carried_6 : decode b_Ac_carried 6 = .ok (.lconst 0, 1) := by decide +kernel
theorem d_Ac_carried_7 : decode b_Ac_carried 7 = .ok (.lcmp, 1) := by decide +kernel
theorem d_Ac_carried_8 : decode b_Ac_carried 8 = .ok (.ifCond .lt 10, 3) := by decide +kernel
theorem d_Ac_carried_11 : decode b_Ac_carried 11 = .ok (.aload_n 0, 1) := by decide +kernel
theorem d_Ac_carried_12 : decode b_Ac_carried 12 = .ok (.getfield 15, 3) := by decide +kernel
theorem d_Ac_carried_15 : decode b_Ac_carried 15 = .ok (.ifCond .ne 5, 3) := by decide +kernel
theorem d_Ac_carried_18 : decode b_Ac_carried 18 = .ok (.lconst 0, 1) := by decide +kernel
theorem d_Ac_carried_19 : decode b_Ac_carried 19 = .ok (.lreturn, 1) := by decide +kernel
theorem d_Ac_carried_20 : decode b_Ac_carried 20 = .ok (.aload_n 0, 1) := by decide +kernel
theorem d_Ac_carried_21 : decode b_Ac_carried 21 = .ok (.getfield 15, 3) := by decide +kernel
theorem d_Ac_carried_24 : decode b_Ac_carried 24 = .ok (.iconst 2, 1) := by decide +kernel
theorem d_Ac_carried_25 : decode b_Ac_carried 25 = .ok (.if_icmp .ne 11, 3) := by decide +kernel
theorem d_Ac_carried_28 : decode b_Ac_carried 28 = .ok (.lload_n 1, 1) := by decide +kernel
theorem d_Ac_carried_29 : decode b_Ac_carried 29 = .ok (.ldc2_w 36, 3) := by decide +kernel
theorem d_Ac_carried_32 : decode b_Ac_carried 32 = .ok (.ldiv, 1) := by decide +kernel
theorem d_Ac_carried_33 : decode b_Ac_carried 33 = .ok (.goto 4, 3) := by decide +kernel
theorem d_Ac_carried_36 : decode b_Ac_carried 36 = .ok (.lload_n 1, 1) := by decide +kernel
theorem d_Ac_carried_37 : decode b_Ac_carried 37 = .ok (.lreturn, 1) := by decide +kernel
set_option maxHeartbeats 4000000 in
set_option maxRecDepth 100000 in
theorem c_Ac_carried (l : Launch) (dC : Nat → ClassId) (dI : Nat → Nat → Nat) (tys : List (ClassId × FieldType)) (L : List Nat) (f : Nat → va_E) (a : Nat) (a_n a_cy : Int32) (a_g a_en a_sp a_pd : Int64) (hm_a : a ∈ L) (he_a : f a = .inr (1, [.int a_n, .int a_cy, .long a_g, .long a_en, .long a_sp, .long a_pd])) : Met l y_Ac_carried w_Ac_carried { frames := 1, cells := 0, slots := 0, locals := 20 } (rd_P (dC, dI) classes tys (va_pl L f) [.ref a]) (vp_Sl (fun r => r = if a_g - a_en - a_sp < 0 ∨ a_cy = 0 then 0 else if a_cy = 2 then (a_g - a_en - a_sp) / 2 else a_g - a_en - a_sp)) 0 0 (fun _ => False) := by
  refine Met.ofW (cc := b_Ac_carried) (maxL := 3) (ret := (some .long)) (by decide) rfl ?_
  intro p e s m args below meth c s₁ B hml hv
  obtain ⟨rfl, hP, hK, hN⟩ := hv
  have hx := B.exec
  have hb := B.bytes
  have hr := B.returns
  have hts := atoms_spec (ws := w_Ac_carried) B.pre
  have hG := fun (w : Cond) (h : w ∈ wG) => hts w (List.mem_cons_of_mem _ h)
  have hown : s.vm.findClass R_Ac = some m.cls := findClass_of_methodNamed B.named
  have hlocks := B.notSynchronized
  have hl := lv_entry ([.ref a]) (n := 3) (Nat.le_of_ble_eq_true rfl)
  rw [lg_entry_eq]
  generalize (lg_sl ([.ref a]) ++ List.replicate (3 - (lg_sl ([.ref a])).length) Slot.unset).toArray = ls at hl ⊢
  have hl : lv_has ls 3 [(0, .ref a)] := hl
  refine lv_aload_n hx hb d_Ac_carried_0 rfl (lv_at hl 0 rfl) ?_
  refine rd_calll (va_runV (As := []) (rest := []) ⟨hx, hb, hml, hown, hts⟩ (c_Ac_free l dC dI tys L f a a_n a_cy a_g a_en a_sp a_pd hm_a he_a) (cwV 0 hts (gd_V k_159 k_160 k_161 k_18 k_162) rfl rfl rfl (by decide +kernel) ⟨Nat.le_of_ble_eq_true rfl, Nat.le_of_ble_eq_true rfl⟩) (fw_preV hK hN hP rfl hm_a he_a) rfl rfl hl.1 rfl (lv_room (Nat.le_of_ble_eq_true rfl)) d_Ac_carried_1 ⟨Nat.zero_le _, Nat.zero_le _⟩) (fun r_1 hr_1 => ?_)
  subst hr_1
  refine lv_lstore_n (lv' := [(1, .long (a_g - a_en - a_sp)), (0, .ref a)]) hx hb d_Ac_carried_4 rfl hl (by decide) rfl (fun ls hl => ?_)
  refine lv_lload_n hx hb d_Ac_carried_5 rfl (lv_at hl 0 rfl) ?_
  refine lv_lconst (v := 0) hx hb d_Ac_carried_6 (by decide) ?_
  refine lc_lt (tgt := 18) hx hb d_Ac_carried_7 d_Ac_carried_8 (by decide) (fun c_2 => ?_) (fun c_2 => ?_)
  · refine lv_lconst (v := 0) hx hb d_Ac_carried_18 (by decide) ?_
    exact W.lret (v := 0) hx hb hr (fun t ht hW => ⟨_, rfl, (by simp [bI, c_2]), ht⟩) (fun q h => by cases h) d_Ac_carried_19
  · refine lv_aload_n hx hb d_Ac_carried_11 rfl (lv_at hl 1 rfl) ?_
    refine fw_get (D := (dC, dI)) (ci := 1) (v := .int a_cy) (C := R_Ac) (T := F_Ac) (N := 6) hx hb hG iG_Ac hown hK hP hm_a he_a rfl 1 (by decide) (hG _ k_116) (fun _ h9 => h9) rfl d_Ac_carried_12 ?_
    refine lv_if_ne (tgt := 20) hx hb d_Ac_carried_15 (by decide) (fun c_3 => ?_) (fun c_3 => ?_)
    · refine lv_aload_n hx hb d_Ac_carried_20 rfl (lv_at hl 1 rfl) ?_
      refine fw_get (D := (dC, dI)) (ci := 1) (v := .int a_cy) (C := R_Ac) (T := F_Ac) (N := 6) hx hb hG iG_Ac hown hK hP hm_a he_a rfl 1 (by decide) (hG _ k_116) (fun _ h9 => h9) rfl d_Ac_carried_21 ?_
      refine lv_iconst (v := 2) hx hb d_Ac_carried_24 (by decide) ?_
      refine lv_icmp_ne (tgt := 36) hx hb d_Ac_carried_25 (by decide) (fun c_4 => ?_) (fun c_4 => ?_)
      · refine lv_lload_n hx hb d_Ac_carried_36 rfl (lv_at hl 0 rfl) ?_
        exact W.lret (v := (a_g - a_en - a_sp)) hx hb hr (fun t ht hW => ⟨_, rfl, (by simp [bI, c_2, c_3, c_4]), ht⟩) (fun q h => by cases h) d_Ac_carried_37
      · refine lv_lload_n hx hb d_Ac_carried_28 rfl (lv_at hl 0 rfl) ?_
        refine lv_ldc2 (own := R_Ac) (v := 2) hx hb hown (hG _ k_413) d_Ac_carried_29 ?_
        refine lv_ldiv hx hb d_Ac_carried_32 (by decide) ?_
        refine lv_goto (tgt := 37) hx hb d_Ac_carried_33 (by decide) ?_
        exact W.lret (v := ((a_g - a_en - a_sp) / 2)) hx hb hr (fun t ht hW => ⟨_, rfl, (by simp [bI, c_2, c_3, c_4]), ht⟩) (fun q h => by cases h) d_Ac_carried_37
    · refine lv_lconst (v := 0) hx hb d_Ac_carried_18 (by decide) ?_
      exact W.lret (v := 0) hx hb hr (fun t ht hW => ⟨_, rfl, (by simp [bI, c_2, c_3]), ht⟩) (fun q h => by cases h) d_Ac_carried_19
end
section
theorem d_Ac_beginYear_0 : decode b_Ac_beginYear 0 = .ok (.aload_n 0, 1) := by decide +kernel
theorem d_Ac_beginYear_1 : decode b_Ac_beginYear 1 = .ok (.aload_n 0, 1) := by decide +kernel
theorem d_Ac_beginYear_2 : decode b_Ac_beginYear 2 = .ok (.invokevirtual 38, 3) := by decide +kernel
theorem d_Ac_beginYear_5 : decode b_Ac_beginYear 5 = .ok (.aload_n 0, 1) := by decide +kernel
theorem d_Ac_beginYear_6 : decode b_Ac_beginYear 6 = .ok (.getfield 22, 3) := by decide +kernel
theorem d_Ac_beginYear_9 : decode b_Ac_beginYear 9 = .ok (.ladd, 1) := by decide +kernel
theorem d_Ac_beginYear_10 : decode b_Ac_beginYear 10 = .ok (.putfield 18, 3) := by decide +kernel
theorem d_Ac_beginYear_13 : decode b_Ac_beginYear 13 = .ok (.aload_n 0, 1) := by decide +kernel
theorem d_Ac_beginYear_14 : decode b_Ac_beginYear 14 = .ok (.lconst 0, 1) := by decide +kernel
theorem d_Ac_beginYear_15 : decode b_Ac_beginYear 15 = .ok (.putfield 25, 3) := by decide +kernel
theorem d_Ac_beginYear_18 : decode b_Ac_beginYear 18 = .ok (.return_, 1) := by decide +kernel
set_option maxHeartbeats 4000000 in
set_option maxRecDepth 100000 in
theorem c_Ac_beginYear (l : Launch) (dC : Nat → ClassId) (dI : Nat → Nat → Nat) (tys : List (ClassId × FieldType)) (L : List Nat) (f : Nat → va_E) (sz : Nat) (a : Nat) (a_n a_cy : Int32) (a_g a_en a_sp a_pd : Int64) (hm_a : a ∈ L) (he_a : f a = .inr (1, [.int a_n, .int a_cy, .long a_g, .long a_en, .long a_sp, .long a_pd])) : Met l y_Ac_beginYear w_Ac_beginYear { frames := 2, cells := 0, slots := 0, locals := 42 } (mu_P (dC, dI) classes tys (va_pl L f) sz [.ref a]) (va_Qv (fun u => u = (L, va_up f a (.inr (1, [.int a_n, .int a_cy, .long ((if a_g - a_en - a_sp < 0 ∨ a_cy = 0 then 0 else if a_cy = 2 then (a_g - a_en - a_sp) / 2 else a_g - a_en - a_sp) + a_en), .long a_en, .long 0, .long a_pd])))) (mu_B (dC, dI) classes tys (va_A (va_pl L f) sz) fw_w) (va_A (va_pl L f) sz)) 0 0 (va_A (va_pl L f) sz) := by
  refine Met.ofW (cc := b_Ac_beginYear) (maxL := 1) (ret := none) (by decide) rfl ?_
  intro p e s m args below meth c s₁ B hml hv
  obtain ⟨rfl, hsz, hP, hK, hD0, hN⟩ := hv
  have hx := B.exec
  have hb := B.bytes
  have hr := B.returns
  have hts := atoms_spec (ws := w_Ac_beginYear) B.pre
  have hG := fun (w : Cond) (h : w ∈ wG) => hts w (List.mem_cons_of_mem _ h)
  have hown : s.vm.findClass R_Ac = some m.cls := findClass_of_methodNamed B.named
  have hlocks := B.notSynchronized
  subst hsz
  have hD := hD0.self (sz := s.heap.size)
  generalize hAe : va_A (va_pl L f) s.heap.size = A at hD ⊢
  have hA : ∀ q : Nat, s.heap.size ≤ q → A q := fun q h => by rw [← hAe]; exact Or.inr h
  have hS : va_S A s.heap s.heap [] := va_S.rf
  have hP : va_P (dC, dI) classes (va_pl L f) s.heap := hP
  have hl := lv_entry ([.ref a]) (n := 1) (Nat.le_of_ble_eq_true rfl)
  rw [lg_entry_eq]
  generalize (lg_sl ([.ref a]) ++ List.replicate (1 - (lg_sl ([.ref a])).length) Slot.unset).toArray = ls at hl ⊢
  have hl : lv_has ls 1 [(0, .ref a)] := hl
  refine lv_aload_n hx hb d_Ac_beginYear_0 rfl (lv_at hl 0 rfl) ?_
  refine lv_aload_n hx hb d_Ac_beginYear_1 rfl (lv_at hl 0 rfl) ?_
  refine rd_calll (va_runV (As := []) (rest := [.ref a]) ⟨hx, hb, hml, hown, hts⟩ (c_Ac_carried l dC dI tys L f a a_n a_cy a_g a_en a_sp a_pd hm_a he_a) (cwV 0 hts (gd_V k_409 k_410 k_411 k_18 k_412) rfl rfl rfl (by decide +kernel) ⟨Nat.le_of_ble_eq_true rfl, Nat.le_of_ble_eq_true rfl⟩) (fw_preV hK hN hP rfl hm_a he_a) rfl rfl hl.1 rfl (lv_room (Nat.le_of_ble_eq_true rfl)) d_Ac_beginYear_2 ⟨Nat.zero_le _, Nat.zero_le _⟩) (fun r_1 hr_1 => ?_)
  subst hr_1
  refine lv_aload_n hx hb d_Ac_beginYear_5 rfl (lv_at hl 0 rfl) ?_
  refine fw_get (D := (dC, dI)) (ci := 1) (v := .long a_en) (C := R_Ac) (T := F_Ac) (N := 6) hx hb hG iG_Ac hown hK hP hm_a he_a rfl 3 (by decide) (hG _ k_121) (fun _ h9 => h9) rfl d_Ac_beginYear_6 ?_
  refine lv_ladd hx hb d_Ac_beginYear_9 ?_
  refine fw_put (D := (dC, dI)) (ci := 1) (v := .long ((if a_g - a_en - a_sp < 0 ∨ a_cy = 0 then 0 else if a_cy = 2 then (a_g - a_en - a_sp) / 2 else a_g - a_en - a_sp) + a_en)) (ty := .long) (C := R_Ac) (T := F_Ac) (N := 6) hx hb hG iG_Ac t_Ac t_Ac_ok n_Ac hown hK hP hD hS hm_a he_a rfl 2 (by decide) (hG _ k_117) (fun _ h9 => h9) rfl (by decide +kernel) rfl rfl (Nat.le_of_ble_eq_true rfl) d_Ac_beginYear_10 (fun H locs hP hD hS => ?_)
  obtain ⟨f_2, ef_2⟩ : ∃ z, z = va_up f a (.inr (1, [.int a_n, .int a_cy, .long ((if a_g - a_en - a_sp < 0 ∨ a_cy = 0 then 0 else if a_cy = 2 then (a_g - a_en - a_sp) / 2 else a_g - a_en - a_sp) + a_en), .long a_en, .long a_sp, .long a_pd])) := ⟨_, rfl⟩
  have he_3 : f_2 a = .inr (1, [.int a_n, .int a_cy, .long ((if a_g - a_en - a_sp < 0 ∨ a_cy = 0 then 0 else if a_cy = 2 then (a_g - a_en - a_sp) / 2 else a_g - a_en - a_sp) + a_en), .long a_en, .long a_sp, .long a_pd]) := by rw [ef_2]; exact va_up_self _ _ _
  have hP : va_P (dC, dI) classes (va_pl L f_2) H := by rw [ef_2]; exact hP
  have hD : va_D A (va_pl L f_2) := by rw [ef_2]; exact hD
  refine lv_aload_n hx hb d_Ac_beginYear_13 rfl (lv_at hl 0 rfl) ?_
  refine lv_lconst (v := 0) hx hb d_Ac_beginYear_14 (by decide) ?_
  refine fw_put (D := (dC, dI)) (ci := 1) (v := .long 0) (ty := .long) (C := R_Ac) (T := F_Ac) (N := 6) hx hb hG iG_Ac t_Ac t_Ac_ok n_Ac hown hK hP hD hS hm_a he_3 rfl 4 (by decide) (hG _ k_124) (fun _ h9 => h9) rfl (by decide +kernel) rfl rfl (Nat.le_of_ble_eq_true rfl) d_Ac_beginYear_15 (fun H locs hP hD hS => ?_)
  obtain ⟨f_4, ef_4⟩ : ∃ z, z = va_up f_2 a (.inr (1, [.int a_n, .int a_cy, .long ((if a_g - a_en - a_sp < 0 ∨ a_cy = 0 then 0 else if a_cy = 2 then (a_g - a_en - a_sp) / 2 else a_g - a_en - a_sp) + a_en), .long a_en, .long 0, .long a_pd])) := ⟨_, rfl⟩
  have he_5 : f_4 a = .inr (1, [.int a_n, .int a_cy, .long ((if a_g - a_en - a_sp < 0 ∨ a_cy = 0 then 0 else if a_cy = 2 then (a_g - a_en - a_sp) / 2 else a_g - a_en - a_sp) + a_en), .long a_en, .long 0, .long a_pd]) := by rw [ef_4]; exact va_up_self _ _ _
  have hP : va_P (dC, dI) classes (va_pl L f_4) H := by rw [ef_4]; exact hP
  have hD : va_D A (va_pl L f_4) := by rw [ef_4]; exact hD
  exact W.vret hx hb hr (fun t ht hW => ⟨⟨(L, f_4), rfl, (by rw [ef_4, ef_2] <;> exact fw_same (by intro z; simp only [va_up] <;> grind)), by rw [ht]; exact hP, va_K.moved hW.alike hK, hD⟩, hS.F ht⟩) hS.2.2 d_Ac_beginYear_18
end
section
theorem d_Ap_bitOf_0 : decode b_Ap_bitOf 0 = .ok (.lconst 1, 1) := by decide +kernel
theorem d_Ap_bitOf_1 : decode b_Ap_bitOf 1 = .ok (.iload_n 0, 1) := by decide +kernel
theorem d_Ap_bitOf_2 : decode b_Ap_bitOf 2 = .ok (.bipush 63, 2) := by decide +kernel
theorem d_Ap_bitOf_4 : decode b_Ap_bitOf 4 = .ok (.iand, 1) := by decide +kernel
theorem d_Ap_bitOf_5 : decode b_Ap_bitOf 5 = .ok (.lshl, 1) := by decide +kernel
theorem d_Ap_bitOf_6 : decode b_Ap_bitOf 6 = .ok (.lreturn, 1) := by decide +kernel
set_option maxHeartbeats 4000000 in
set_option maxRecDepth 100000 in
theorem c_Ap_bitOf (l : Launch) (dC : Nat → ClassId) (dI : Nat → Nat → Nat) (tys : List (ClassId × FieldType)) (ws : va_W) (pn : Int32) : Met l y_Ap_bitOf w_Ap_bitOf { frames := 0, cells := 0, slots := 0, locals := 0 } (rd_P (dC, dI) classes tys ws [.int pn]) (vp_Sl (fun r => r = bitO pn)) 0 0 (fun _ => False) := by
  refine Met.ofW (cc := b_Ap_bitOf) (maxL := 1) (ret := (some .long)) (by decide) rfl ?_
  intro p e s m args below meth c s₁ B hml hv
  obtain ⟨rfl, hP, hK, hN⟩ := hv
  have hx := B.exec
  have hb := B.bytes
  have hr := B.returns
  have hts := atoms_spec (ws := w_Ap_bitOf) B.pre
  have hG := fun (w : Cond) (h : w ∈ wG) => hts w (List.mem_cons_of_mem _ h)
  have hown : s.vm.findClass R_Ap = some m.cls := findClass_of_methodNamed B.named
  have hlocks := B.notSynchronized
  have hl := lv_entry ([.int pn]) (n := 1) (Nat.le_of_ble_eq_true rfl)
  rw [lg_entry_eq]
  generalize (lg_sl ([.int pn]) ++ List.replicate (1 - (lg_sl ([.int pn])).length) Slot.unset).toArray = ls at hl ⊢
  have hl : lv_has ls 1 [(0, .int pn)] := hl
  refine lv_lconst (v := 1) hx hb d_Ap_bitOf_0 (by decide) ?_
  refine lv_iload_n hx hb d_Ap_bitOf_1 rfl (lv_at hl 0 rfl) ?_
  refine lv_bipush (v := 63) hx hb d_Ap_bitOf_2 (by decide) ?_
  refine lv_iand hx hb d_Ap_bitOf_4 ?_
  refine lv_lshl hx hb d_Ap_bitOf_5 rfl ?_
  exact W.lret (v := (1 <<< ((pn &&& 63).toInt64 &&& 63))) hx hb hr (fun t ht hW => ⟨_, rfl, rfl, ht⟩) (fun q h => by cases h) d_Ap_bitOf_6

theorem d_Ap_include_0 : decode b_Ap_include 0 = .ok (.iload_n 1, 1) := by decide +kernel
theorem d_Ap_include_1 : decode b_Ap_include 1 = .ok (.bipush 64, 2) := by decide +kernel
theorem d_Ap_include_3 : decode b_Ap_include 3 = .ok (.if_icmp .ge 10, 3) := by decide +kernel
theorem d_Ap_include_6 : decode b_Ap_include 6 = .ok (.aload_n 0, 1) := by decide +kernel
theorem d_Ap_include_7 : decode b_Ap_include 7 = .ok (.getfield 9, 3) := by decide +kernel
theorem d_Ap_include_10 : decode b_Ap_include 10 = .ok (.goto 7, 3) := by decide +kernel
theorem d_Ap_include_13 : decode b_Ap_include 13 = .ok (.aload_n 0, 1) := by decide +kernel
theorem d_Ap_include_14 : decode b_Ap_include 14 = .ok (.getfield 13, 3) := by decide +kernel
theorem d_Ap_include_17 : decode b_Ap_include 17 = .ok (.lstore_n 2, 1) := by decide +kernel
theorem d_Ap_include_18 : decode b_Ap_include 18 = .ok (.lload_n 2, 1) := by decide +kernel
theorem d_Ap_include_19 : decode b_Ap_include 19 = .ok (.iload_n 1, 1) := by decide +kernel
theorem d_Ap_include_20 : decode b_Ap_include 20 = .ok (.invokestatic 16, 3) := by decide +kernel
theorem d_Ap_include_23 : decode b_Ap_include 23 = .ok (.land, 1) := by decide +kernel
theorem d_Ap_include_24 : decode b_Ap_include 24 = .ok (.lconst 0, 1) := by decide +kernel
theorem d_Ap_include_25 : decode b_Ap_include 25 = .ok (.lcmp, 1) := by decide +kernel
theorem d_Ap_include_26 : decode b_Ap_include 26 = .ok (.ifCond .eq 7, 3) := by decide +kernel
theorem d_Ap_include_29 : decode b_Ap_include 29 = .ok (.iconst 1, 1) := by decide +kernel
theorem d_Ap_include_30 : decode b_Ap_include 30 = .ok (.goto 4, 3) := by decide +kernel
theorem d_Ap_include_33 : decode b_Ap_include 33 = .ok (.iconst 0, 1) := by decide +kernel
theorem d_Ap_include_34 : decode b_Ap_include 34 = .ok (.ireturn, 1) := by decide +kernel
set_option maxHeartbeats 4000000 in
set_option maxRecDepth 100000 in
theorem c_Ap_include (l : Launch) (dC : Nat → ClassId) (dI : Nat → Nat → Nat) (tys : List (ClassId × FieldType)) (L : List Nat) (f : Nat → va_E) (q : Nat) (q_ct : Int32) (q_lo q_hi : Int64) (pn : Int32) (hm_q : q ∈ L) (he_q : f q = .inr (4, [.long q_lo, .long q_hi, .int q_ct])) : Met l y_Ap_include w_Ap_include { frames := 1, cells := 0, slots := 0, locals := 20 } (rd_P (dC, dI) classes tys (va_pl L f) [.ref q, .int pn]) (vp_Si (fun r => r = bI (decide (¬ (if 64 ≤ pn then q_hi else q_lo) &&& bitO pn = 0)))) 0 0 (fun _ => False) := by
  refine Met.ofW (cc := b_Ap_include) (maxL := 4) (ret := (some .boolean)) (by decide) rfl ?_
  intro p e s m args below meth c s₁ B hml hv
  obtain ⟨rfl, hP, hK, hN⟩ := hv
  have hx := B.exec
  have hb := B.bytes
  have hr := B.returns
  have hts := atoms_spec (ws := w_Ap_include) B.pre
  have hG := fun (w : Cond) (h : w ∈ wG) => hts w (List.mem_cons_of_mem _ h)
  have hown : s.vm.findClass R_Ap = some m.cls := findClass_of_methodNamed B.named
  have hlocks := B.notSynchronized
  have hl := lv_entry ([.ref q, .int pn]) (n := 4) (Nat.le_of_ble_eq_true rfl)
  rw [lg_entry_eq]
  generalize (lg_sl ([.ref q, .int pn]) ++ List.replicate (4 - (lg_sl ([.ref q, .int pn])).length) Slot.unset).toArray = ls at hl ⊢
  have hl : lv_has ls 4 [(0, .ref q), (1, .int pn)] := hl
  refine lv_iload_n hx hb d_Ap_include_0 rfl (lv_at hl 1 rfl) ?_
  refine lv_bipush (v := 64) hx hb d_Ap_include_1 (by decide) ?_
  refine lv_icmp_ge (tgt := 13) hx hb d_Ap_include_3 (by decide) (fun c_1 => ?_) (fun c_1 => ?_)
  · refine lv_aload_n hx hb d_Ap_include_13 rfl (lv_at hl 0 rfl) ?_
    refine fw_get (D := (dC, dI)) (ci := 4) (v := .long q_hi) (C := R_Ap) (T := F_Ap) (N := 3) hx hb hG iG_Ap hown hK hP hm_q he_q rfl 1 (by decide) (hG _ k_180) (fun _ h9 => h9) rfl d_Ap_include_14 ?_
    refine lv_lstore_n (lv' := [(2, .long q_hi), (0, .ref q), (1, .int pn)]) hx hb d_Ap_include_17 rfl hl (by decide) rfl (fun ls hl => ?_)
    refine lv_lload_n hx hb d_Ap_include_18 rfl (lv_at hl 0 rfl) ?_
    refine lv_iload_n hx hb d_Ap_include_19 rfl (lv_at hl 2 rfl) ?_
    refine rd_calll (va_runS (As := [.int pn]) (rest := [.long q_hi]) ⟨hx, hb, hml, hown, hts⟩ (c_Ap_bitOf l dC dI tys (va_pl L f) pn) (cwS 1 hts (gd_S k_240 k_241 k_20 k_242) rfl rfl rfl (by decide +kernel) ⟨Nat.le_of_ble_eq_true rfl, Nat.le_of_ble_eq_true rfl⟩) (rd_preS hK hN hP) rfl rfl hl.1 rfl (lv_room (Nat.le_of_ble_eq_true rfl)) d_Ap_include_20 ⟨Nat.zero_le _, Nat.zero_le _⟩) (fun r_2 hr_2 => ?_)
    subst hr_2
    refine lv_land hx hb d_Ap_include_23 ?_
    refine lv_lconst (v := 0) hx hb d_Ap_include_24 (by decide) ?_
    refine lc_eq (tgt := 33) hx hb d_Ap_include_25 d_Ap_include_26 (by decide) (fun c_3 => ?_) (fun c_3 => ?_)
    · refine lv_iconst (v := 0) hx hb d_Ap_include_33 (by decide) ?_
      exact W.zret (v := 0) (ty := .boolean) hx hb hr rfl (fun t ht hW => ⟨_, rfl, (by simp [bI, c_1, c_3]), ht⟩) (fun q h => by cases h) d_Ap_include_34
    · refine lv_iconst (v := 1) hx hb d_Ap_include_29 (by decide) ?_
      refine lv_goto (tgt := 34) hx hb d_Ap_include_30 (by decide) ?_
      exact W.zret (v := 1) (ty := .boolean) hx hb hr rfl (fun t ht hW => ⟨_, rfl, (by simp [bI, c_1, c_3]), ht⟩) (fun q h => by cases h) d_Ap_include_34
  · refine lv_aload_n hx hb d_Ap_include_6 rfl (lv_at hl 0 rfl) ?_
    refine fw_get (D := (dC, dI)) (ci := 4) (v := .long q_lo) (C := R_Ap) (T := F_Ap) (N := 3) hx hb hG iG_Ap hown hK hP hm_q he_q rfl 0 (by decide) (hG _ k_179) (fun _ h9 => h9) rfl d_Ap_include_7 ?_
    refine lv_goto (tgt := 17) hx hb d_Ap_include_10 (by decide) ?_
    refine lv_lstore_n (lv' := [(2, .long q_lo), (0, .ref q), (1, .int pn)]) hx hb d_Ap_include_17 rfl hl (by decide) rfl (fun ls hl => ?_)
    refine lv_lload_n hx hb d_Ap_include_18 rfl (lv_at hl 0 rfl) ?_
    refine lv_iload_n hx hb d_Ap_include_19 rfl (lv_at hl 2 rfl) ?_
    refine rd_calll (va_runS (As := [.int pn]) (rest := [.long q_lo]) ⟨hx, hb, hml, hown, hts⟩ (c_Ap_bitOf l dC dI tys (va_pl L f) pn) (cwS 1 hts (gd_S k_240 k_241 k_20 k_242) rfl rfl rfl (by decide +kernel) ⟨Nat.le_of_ble_eq_true rfl, Nat.le_of_ble_eq_true rfl⟩) (rd_preS hK hN hP) rfl rfl hl.1 rfl (lv_room (Nat.le_of_ble_eq_true rfl)) d_Ap_include_20 ⟨Nat.zero_le _, Nat.zero_le _⟩) (fun r_4 hr_4 => ?_)
    subst hr_4
    refine lv_land hx hb d_Ap_include_23 ?_
    refine lv_lconst (v := 0) hx hb d_Ap_include_24 (by decide) ?_
    refine lc_eq (tgt := 33) hx hb d_Ap_include_25 d_Ap_include_26 (by decide) (fun c_5 => ?_) (fun c_5 => ?_)
    · refine lv_iconst (v := 0) hx hb d_Ap_include_33 (by decide) ?_
      exact W.zret (v := 0) (ty := .boolean) hx hb hr rfl (fun t ht hW => ⟨_, rfl, (by simp [bI, c_1, c_5]), ht⟩) (fun q h => by cases h) d_Ap_include_34
    · refine lv_iconst (v := 1) hx hb d_Ap_include_29 (by decide) ?_
      refine lv_goto (tgt := 34) hx hb d_Ap_include_30 (by decide) ?_
      exact W.zret (v := 1) (ty := .boolean) hx hb hr rfl (fun t ht hW => ⟨_, rfl, (by simp [bI, c_1, c_5]), ht⟩) (fun q h => by cases h) d_Ap_include_34

theorem d_Ap_add_0 : decode b_Ap_add 0 = .ok (.iload_n 1, 1) := by decide +kernel
theorem d_Ap_add_1 : decode b_Ap_add 1 = .ok (.bipush 64, 2) := by decide +kernel
theorem d_Ap_add_3 : decode b_Ap_add 3 = .ok (.if_icmp .ge 19, 3) := by decide +kernel
theorem d_Ap_add_6 : decode b_Ap_add 6 = .ok (.aload_n 0, 1) := by decide +kernel
theorem d_Ap_add_7 : decode b_Ap_add 7 = .ok (.dup, 1) := by decide +kernel
theorem d_Ap_add_8 : decode b_Ap_add 8 = .ok (.getfield 9, 3) := by decide +kernel
theorem d_Ap_add_11 : decode b_Ap_add 11 = .ok (.iload_n 1, 1) := by decide +kernel
theorem d_Ap_add_12 : decode b_Ap_add 12 = .ok (.invokestatic 16, 3) := by decide +kernel
theorem d_Ap_add_15 : decode b_Ap_add 15 = .ok (.lor, 1) := by decide +kernel
theorem d_Ap_add_16 : decode b_Ap_add 16 = .ok (.putfield 9, 3) := by decide +kernel
theorem d_Ap_add_19 : decode b_Ap_add 19 = .ok (.goto 16, 3) := by decide +kernel
theorem d_Ap_add_22 : decode b_Ap_add 22 = .ok (.aload_n 0, 1) := by decide +kernel
theorem d_Ap_add_23 : decode b_Ap_add 23 = .ok (.dup, 1) := by decide +kernel
theorem d_Ap_add_24 : decode b_Ap_add 24 = .ok (.getfield 13, 3) := by decide +kernel
theorem d_Ap_add_27 : decode b_Ap_add 27 = .ok (.iload_n 1, 1) := by decide +kernel
theorem d_Ap_add_28 : decode b_Ap_add 28 = .ok (.invokestatic 16, 3) := by decide +kernel
theorem d_Ap_add_31 : decode b_Ap_add 31 = .ok (.lor, 1) := by decide +kernel
theorem d_Ap_add_32 : decode b_Ap_add 32 = .ok (.putfield 13, 3) := by decide +kernel
theorem d_Ap_add_35 : decode b_Ap_add 35 = .ok (.aload_n 0, 1) := by decide +kernel
theorem d_Ap_add_36 : decode b_Ap_add 36 = .ok (.dup, 1) := by decide +kernel
theorem d_Ap_add_37 : decode b_Ap_add 37 = .ok (.getfield 20, 3) := by decide +kernel
theorem d_Ap_add_40 : decode b_Ap_add 40 = .ok (.iconst 1, 1) := by decide +kernel
theorem d_Ap_add_41 : decode b_Ap_add 41 = .ok (.iadd, 1) := by decide +kernel
theorem d_Ap_add_42 : decode b_Ap_add 42 = .ok (.putfield 20, 3) := by decide +kernel
theorem d_Ap_add_45 : decode b_Ap_add 45 = .ok (.return_, 1) := by decide +kernel
set_option maxHeartbeats 4000000 in
set_option maxRecDepth 100000 in
theorem c_Ap_add (l : Launch) (dC : Nat → ClassId) (dI : Nat → Nat → Nat) (tys : List (ClassId × FieldType)) (L : List Nat) (f : Nat → va_E) (sz : Nat) (q : Nat) (q_ct : Int32) (q_lo q_hi : Int64) (pn : Int32) (hm_q : q ∈ L) (he_q : f q = .inr (4, [.long q_lo, .long q_hi, .int q_ct])) : Met l y_Ap_add w_Ap_add { frames := 1, cells := 0, slots := 0, locals := 20 } (mu_P (dC, dI) classes tys (va_pl L f) sz [.ref q, .int pn]) (va_Qv (fun u => u = (L, va_up f q (.inr (4, [.long (if 64 ≤ pn then q_lo else q_lo ||| bitO pn), .long (if 64 ≤ pn then q_hi ||| bitO pn else q_hi), .int (q_ct + 1)])))) (mu_B (dC, dI) classes tys (va_A (va_pl L f) sz) fw_w) (va_A (va_pl L f) sz)) 0 0 (va_A (va_pl L f) sz) := by
  refine Met.ofW (cc := b_Ap_add) (maxL := 2) (ret := none) (by decide) rfl ?_
  intro p e s m args below meth c s₁ B hml hv
  obtain ⟨rfl, hsz, hP, hK, hD0, hN⟩ := hv
  have hx := B.exec
  have hb := B.bytes
  have hr := B.returns
  have hts := atoms_spec (ws := w_Ap_add) B.pre
  have hG := fun (w : Cond) (h : w ∈ wG) => hts w (List.mem_cons_of_mem _ h)
  have hown : s.vm.findClass R_Ap = some m.cls := findClass_of_methodNamed B.named
  have hlocks := B.notSynchronized
  subst hsz
  have hD := hD0.self (sz := s.heap.size)
  generalize hAe : va_A (va_pl L f) s.heap.size = A at hD ⊢
  have hA : ∀ q : Nat, s.heap.size ≤ q → A q := fun q h => by rw [← hAe]; exact Or.inr h
  have hS : va_S A s.heap s.heap [] := va_S.rf
  have hP : va_P (dC, dI) classes (va_pl L f) s.heap := hP
  have hl := lv_entry ([.ref q, .int pn]) (n := 2) (Nat.le_of_ble_eq_true rfl)
  rw [lg_entry_eq]
  generalize (lg_sl ([.ref q, .int pn]) ++ List.replicate (2 - (lg_sl ([.ref q, .int pn])).length) Slot.unset).toArray = ls at hl ⊢
  have hl : lv_has ls 2 [(0, .ref q), (1, .int pn)] := hl
  refine lv_iload_n hx hb d_Ap_add_0 rfl (lv_at hl 1 rfl) ?_
  refine lv_bipush (v := 64) hx hb d_Ap_add_1 (by decide) ?_
  refine lv_icmp_ge (tgt := 22) hx hb d_Ap_add_3 (by decide) (fun c_1 => ?_) (fun c_1 => ?_)
  · refine lv_aload_n hx hb d_Ap_add_22 rfl (lv_at hl 0 rfl) ?_
    refine lv_dup hx hb d_Ap_add_23 rfl ?_
    refine fw_get (D := (dC, dI)) (ci := 4) (v := .long q_hi) (C := R_Ap) (T := F_Ap) (N := 3) hx hb hG iG_Ap hown hK hP hm_q he_q rfl 1 (by decide) (hG _ k_180) (fun _ h9 => h9) rfl d_Ap_add_24 ?_
    refine lv_iload_n hx hb d_Ap_add_27 rfl (lv_at hl 1 rfl) ?_
    refine rd_calll (va_runS (As := [.int pn]) (rest := [.long q_hi, .ref q]) ⟨hx, hb, hml, hown, hts⟩ (c_Ap_bitOf l dC dI tys (va_pl L f) pn) (cwS 1 hts (gd_S k_240 k_241 k_20 k_242) rfl rfl rfl (by decide +kernel) ⟨Nat.le_of_ble_eq_true rfl, Nat.le_of_ble_eq_true rfl⟩) (rd_preS hK hN hP) rfl rfl hl.1 rfl (lv_room (Nat.le_of_ble_eq_true rfl)) d_Ap_add_28 ⟨Nat.zero_le _, Nat.zero_le _⟩) (fun r_2 hr_2 => ?_)
    subst hr_2
    refine lv_lor hx hb d_Ap_add_31 ?_
    refine fw_put (D := (dC, dI)) (ci := 4) (v := .long (q_hi ||| (bitO pn))) (ty := .long) (C := R_Ap) (T := F_Ap) (N := 3) hx hb hG iG_Ap t_Ap t_Ap_ok n_Ap hown hK hP hD hS hm_q he_q rfl 1 (by decide) (hG _ k_180) (fun _ h9 => h9) rfl (by decide +kernel) rfl rfl (Nat.le_of_ble_eq_true rfl) d_Ap_add_32 (fun H locs hP hD hS => ?_)
    obtain ⟨f_3, ef_3⟩ : ∃ z, z = va_up f q (.inr (4, [.long q_lo, .long (q_hi ||| (bitO pn)), .int q_ct])) := ⟨_, rfl⟩
    have he_4 : f_3 q = .inr (4, [.long q_lo, .long (q_hi ||| (bitO pn)), .int q_ct]) := by rw [ef_3]; exact va_up_self _ _ _
    have hP : va_P (dC, dI) classes (va_pl L f_3) H := by rw [ef_3]; exact hP
    have hD : va_D A (va_pl L f_3) := by rw [ef_3]; exact hD
    refine lv_aload_n hx hb d_Ap_add_35 rfl (lv_at hl 0 rfl) ?_
    refine lv_dup hx hb d_Ap_add_36 rfl ?_
    refine fw_get (D := (dC, dI)) (ci := 4) (v := .int q_ct) (C := R_Ap) (T := F_Ap) (N := 3) hx hb hG iG_Ap hown hK hP hm_q he_4 rfl 2 (by decide) (hG _ k_182) (fun _ h9 => h9) rfl d_Ap_add_37 ?_
    refine lv_iconst (v := 1) hx hb d_Ap_add_40 (by decide) ?_
    refine lv_iadd hx hb d_Ap_add_41 ?_
    refine fw_put (D := (dC, dI)) (ci := 4) (v := .int (q_ct + 1)) (ty := .int) (C := R_Ap) (T := F_Ap) (N := 3) hx hb hG iG_Ap t_Ap t_Ap_ok n_Ap hown hK hP hD hS hm_q he_4 rfl 2 (by decide) (hG _ k_182) (fun _ h9 => h9) rfl (by decide +kernel) rfl rfl (Nat.le_of_ble_eq_true rfl) d_Ap_add_42 (fun H locs hP hD hS => ?_)
    obtain ⟨f_5, ef_5⟩ : ∃ z, z = va_up f_3 q (.inr (4, [.long q_lo, .long (q_hi ||| (bitO pn)), .int (q_ct + 1)])) := ⟨_, rfl⟩
    have he_6 : f_5 q = .inr (4, [.long q_lo, .long (q_hi ||| (bitO pn)), .int (q_ct + 1)]) := by rw [ef_5]; exact va_up_self _ _ _
    have hP : va_P (dC, dI) classes (va_pl L f_5) H := by rw [ef_5]; exact hP
    have hD : va_D A (va_pl L f_5) := by rw [ef_5]; exact hD
    exact W.vret hx hb hr (fun t ht hW => ⟨⟨(L, f_5), rfl, (by rw [ef_5, ef_3] <;> exact fw_same (by intro z; simp only [va_up] <;> grind)), by rw [ht]; exact hP, va_K.moved hW.alike hK, hD⟩, hS.F ht⟩) hS.2.2 d_Ap_add_45
  · refine lv_aload_n hx hb d_Ap_add_6 rfl (lv_at hl 0 rfl) ?_
    refine lv_dup hx hb d_Ap_add_7 rfl ?_
    refine fw_get (D := (dC, dI)) (ci := 4) (v := .long q_lo) (C := R_Ap) (T := F_Ap) (N := 3) hx hb hG iG_Ap hown hK hP hm_q he_q rfl 0 (by decide) (hG _ k_179) (fun _ h9 => h9) rfl d_Ap_add_8 ?_
    refine lv_iload_n hx hb d_Ap_add_11 rfl (lv_at hl 1 rfl) ?_
    refine rd_calll (va_runS (As := [.int pn]) (rest := [.long q_lo, .ref q]) ⟨hx, hb, hml, hown, hts⟩ (c_Ap_bitOf l dC dI tys (va_pl L f) pn) (cwS 1 hts (gd_S k_240 k_241 k_20 k_242) rfl rfl rfl (by decide +kernel) ⟨Nat.le_of_ble_eq_true rfl, Nat.le_of_ble_eq_true rfl⟩) (rd_preS hK hN hP) rfl rfl hl.1 rfl (lv_room (Nat.le_of_ble_eq_true rfl)) d_Ap_add_12 ⟨Nat.zero_le _, Nat.zero_le _⟩) (fun r_7 hr_7 => ?_)
    subst hr_7
    refine lv_lor hx hb d_Ap_add_15 ?_
    refine fw_put (D := (dC, dI)) (ci := 4) (v := .long (q_lo ||| (bitO pn))) (ty := .long) (C := R_Ap) (T := F_Ap) (N := 3) hx hb hG iG_Ap t_Ap t_Ap_ok n_Ap hown hK hP hD hS hm_q he_q rfl 0 (by decide) (hG _ k_179) (fun _ h9 => h9) rfl (by decide +kernel) rfl rfl (Nat.le_of_ble_eq_true rfl) d_Ap_add_16 (fun H locs hP hD hS => ?_)
    obtain ⟨f_8, ef_8⟩ : ∃ z, z = va_up f q (.inr (4, [.long (q_lo ||| (bitO pn)), .long q_hi, .int q_ct])) := ⟨_, rfl⟩
    have he_9 : f_8 q = .inr (4, [.long (q_lo ||| (bitO pn)), .long q_hi, .int q_ct]) := by rw [ef_8]; exact va_up_self _ _ _
    have hP : va_P (dC, dI) classes (va_pl L f_8) H := by rw [ef_8]; exact hP
    have hD : va_D A (va_pl L f_8) := by rw [ef_8]; exact hD
    refine lv_goto (tgt := 35) hx hb d_Ap_add_19 (by decide) ?_
    refine lv_aload_n hx hb d_Ap_add_35 rfl (lv_at hl 0 rfl) ?_
    refine lv_dup hx hb d_Ap_add_36 rfl ?_
    refine fw_get (D := (dC, dI)) (ci := 4) (v := .int q_ct) (C := R_Ap) (T := F_Ap) (N := 3) hx hb hG iG_Ap hown hK hP hm_q he_9 rfl 2 (by decide) (hG _ k_182) (fun _ h9 => h9) rfl d_Ap_add_37 ?_
    refine lv_iconst (v := 1) hx hb d_Ap_add_40 (by decide) ?_
    refine lv_iadd hx hb d_Ap_add_41 ?_
    refine fw_put (D := (dC, dI)) (ci := 4) (v := .int (q_ct + 1)) (ty := .int) (C := R_Ap) (T := F_Ap) (N := 3) hx hb hG iG_Ap t_Ap t_Ap_ok n_Ap hown hK hP hD hS hm_q he_9 rfl 2 (by decide) (hG _ k_182) (fun _ h9 => h9) rfl (by decide +kernel) rfl rfl (Nat.le_of_ble_eq_true rfl) d_Ap_add_42 (fun H locs hP hD hS => ?_)
    obtain ⟨f_10, ef_10⟩ : ∃ z, z = va_up f_8 q (.inr (4, [.long (q_lo ||| (bitO pn)), .long q_hi, .int (q_ct + 1)])) := ⟨_, rfl⟩
    have he_11 : f_10 q = .inr (4, [.long (q_lo ||| (bitO pn)), .long q_hi, .int (q_ct + 1)]) := by rw [ef_10]; exact va_up_self _ _ _
    have hP : va_P (dC, dI) classes (va_pl L f_10) H := by rw [ef_10]; exact hP
    have hD : va_D A (va_pl L f_10) := by rw [ef_10]; exact hD
    exact W.vret hx hb hr (fun t ht hW => ⟨⟨(L, f_10), rfl, (by rw [ef_10, ef_8] <;> exact fw_same (by intro z; simp only [va_up] <;> grind)), by rw [ht]; exact hP, va_K.moved hW.alike hK, hD⟩, hS.F ht⟩) hS.2.2 d_Ap_add_45
end
section
theorem d_Pu_awaitsInvoiceIn_0 : decode b_Pu_awaitsInvoiceIn 0 = .ok (.aload_n 0, 1) := by decide +kernel
theorem d_Pu_awaitsInvoiceIn_1 : decode b_Pu_awaitsInvoiceIn 1 = .ok (.getfield 18, 3) := by decide +kernel
theorem d_Pu_awaitsInvoiceIn_4 : decode b_Pu_awaitsInvoiceIn 4 = .ok (.iconst 1, 1) := by decide +kernel
theorem d_Pu_awaitsInvoiceIn_5 : decode b_Pu_awaitsInvoiceIn 5 = .ok (.if_icmp .ne 22, 3) := by decide +kernel
theorem d_Pu_awaitsInvoiceIn_8 : decode b_Pu_awaitsInvoiceIn 8 = .ok (.aload_n 0, 1) := by decide +kernel
theorem d_Pu_awaitsInvoiceIn_9 : decode b_Pu_awaitsInvoiceIn 9 = .ok (.getfield 32, 3) := by decide +kernel
theorem d_Pu_awaitsInvoiceIn_12 : decode b_Pu_awaitsInvoiceIn 12 = .ok (.ifCond .eq 11, 3) := by decide +kernel
theorem d_Pu_awaitsInvoiceIn_15 : decode b_Pu_awaitsInvoiceIn 15 = .ok (.iload_n 1, 1) := by decide +kernel
theorem d_Pu_awaitsInvoiceIn_16 : decode b_Pu_awaitsInvoiceIn 16 = .ok (.aload_n 0, 1) := by decide +kernel
theorem d_Pu_awaitsInvoiceIn_17 : decode b_Pu_awaitsInvoiceIn 17 = .ok (.getfield 22, 3) := by decide +kernel
theorem d_Pu_awaitsInvoiceIn_20 : decode b_Pu_awaitsInvoiceIn 20 = .ok (.if_icmp .le 7, 3) := by decide +kernel
theorem d_Pu_awaitsInvoiceIn_23 : decode b_Pu_awaitsInvoiceIn 23 = .ok (.iconst 1, 1) := by decide +kernel
theorem d_Pu_awaitsInvoiceIn_24 : decode b_Pu_awaitsInvoiceIn 24 = .ok (.goto 4, 3) := by decide +kernel
theorem d_Pu_awaitsInvoiceIn_27 : decode b_Pu_awaitsInvoiceIn 27 = .ok (.iconst 0, 1) := by decide +kernel
theorem d_Pu_awaitsInvoiceIn_28 : decode b_Pu_awaitsInvoiceIn 28 = .ok (.ireturn, 1) := by decide +kernel
set_option maxHeartbeats 4000000 in
set_option maxRecDepth 100000 in
theorem c_Pu_awaitsInvoiceIn (l : Launch) (dC : Nat → ClassId) (dI : Nat → Nat → Nat) (tys : List (ClassId × FieldType)) (L : List Nat) (f : Nat → va_E) (pu : Nat) (pu_ct pu_stt pu_ic pu_lm : Int32) (pu_lx : Int64) (pu_ac pu_ap : Nat) (pu_st : Bool) (mo : Int32) (hm_pu : pu ∈ L) (he_pu : f pu = .inr (2, [.ref pu_ac, .int pu_ct, .int (bI pu_st), .ref pu_ap, .int pu_stt, .int pu_ic, .int pu_lm, .long pu_lx])) : Met l y_Pu_awaitsInvoiceIn w_Pu_awaitsInvoiceIn { frames := 0, cells := 0, slots := 0, locals := 0 } (rd_P (dC, dI) classes tys (va_pl L f) [.ref pu, .int mo]) (vp_Si (fun r => r = bI (decide (pu_stt = 1) && (!pu_st || !decide (mo ≤ pu_lm))))) 0 0 (fun _ => False) := by
  refine Met.ofW (cc := b_Pu_awaitsInvoiceIn) (maxL := 2) (ret := (some .boolean)) (by decide) rfl ?_
  intro p e s m args below meth c s₁ B hml hv
  obtain ⟨rfl, hP, hK, hN⟩ := hv
  have hx := B.exec
  have hb := B.bytes
  have hr := B.returns
  have hts := atoms_spec (ws := w_Pu_awaitsInvoiceIn) B.pre
  have hG := fun (w : Cond) (h : w ∈ wG) => hts w (List.mem_cons_of_mem _ h)
  have hown : s.vm.findClass R_Pu = some m.cls := findClass_of_methodNamed B.named
  have hlocks := B.notSynchronized
  have hl := lv_entry ([.ref pu, .int mo]) (n := 2) (Nat.le_of_ble_eq_true rfl)
  rw [lg_entry_eq]
  generalize (lg_sl ([.ref pu, .int mo]) ++ List.replicate (2 - (lg_sl ([.ref pu, .int mo])).length) Slot.unset).toArray = ls at hl ⊢
  have hl : lv_has ls 2 [(0, .ref pu), (1, .int mo)] := hl
  refine lv_aload_n hx hb d_Pu_awaitsInvoiceIn_0 rfl (lv_at hl 0 rfl) ?_
  refine fw_get (D := (dC, dI)) (ci := 2) (v := .int pu_stt) (C := R_Pu) (T := F_Pu) (N := 8) hx hb hG iG_Pu hown hK hP hm_pu he_pu rfl 4 (by decide) (hG _ k_198) (fun _ h9 => h9) rfl d_Pu_awaitsInvoiceIn_1 ?_
  refine lv_iconst (v := 1) hx hb d_Pu_awaitsInvoiceIn_4 (by decide) ?_
  refine lv_icmp_ne (tgt := 27) hx hb d_Pu_awaitsInvoiceIn_5 (by decide) (fun c_1 => ?_) (fun c_1 => ?_)
  · refine lv_iconst (v := 0) hx hb d_Pu_awaitsInvoiceIn_27 (by decide) ?_
    exact W.zret (v := 0) (ty := .boolean) hx hb hr rfl (fun t ht hW => ⟨_, rfl, (by simp [bI, c_1]), ht⟩) (fun q h => by cases h) d_Pu_awaitsInvoiceIn_28
  · refine lv_aload_n hx hb d_Pu_awaitsInvoiceIn_8 rfl (lv_at hl 0 rfl) ?_
    refine fw_get (D := (dC, dI)) (ci := 2) (v := .int (bI pu_st)) (C := R_Pu) (T := F_Pu) (N := 8) hx hb hG iG_Pu hown hK hP hm_pu he_pu rfl 2 (by decide) (hG _ k_195) (fun _ h9 => h9) rfl d_Pu_awaitsInvoiceIn_9 ?_
    refine lb_if_eq (tgt := 23) hx hb d_Pu_awaitsInvoiceIn_12 (by decide) (fun c_2 => ?_) (fun c_2 => ?_)
    · refine lv_iconst (v := 1) hx hb d_Pu_awaitsInvoiceIn_23 (by decide) ?_
      refine lv_goto (tgt := 28) hx hb d_Pu_awaitsInvoiceIn_24 (by decide) ?_
      exact W.zret (v := 1) (ty := .boolean) hx hb hr rfl (fun t ht hW => ⟨_, rfl, (by simp [bI, c_1, c_2]), ht⟩) (fun q h => by cases h) d_Pu_awaitsInvoiceIn_28
    · refine lv_iload_n hx hb d_Pu_awaitsInvoiceIn_15 rfl (lv_at hl 1 rfl) ?_
      refine lv_aload_n hx hb d_Pu_awaitsInvoiceIn_16 rfl (lv_at hl 0 rfl) ?_
      refine fw_get (D := (dC, dI)) (ci := 2) (v := .int pu_lm) (C := R_Pu) (T := F_Pu) (N := 8) hx hb hG iG_Pu hown hK hP hm_pu he_pu rfl 6 (by decide) (hG _ k_202) (fun _ h9 => h9) rfl d_Pu_awaitsInvoiceIn_17 ?_
      refine lv_icmp_le (tgt := 27) hx hb d_Pu_awaitsInvoiceIn_20 (by decide) (fun c_3 => ?_) (fun c_3 => ?_)
      · refine lv_iconst (v := 0) hx hb d_Pu_awaitsInvoiceIn_27 (by decide) ?_
        exact W.zret (v := 0) (ty := .boolean) hx hb hr rfl (fun t ht hW => ⟨_, rfl, (by simp [bI, c_1, c_2, c_3]), ht⟩) (fun q h => by cases h) d_Pu_awaitsInvoiceIn_28
      · refine lv_iconst (v := 1) hx hb d_Pu_awaitsInvoiceIn_23 (by decide) ?_
        refine lv_goto (tgt := 28) hx hb d_Pu_awaitsInvoiceIn_24 (by decide) ?_
        exact W.zret (v := 1) (ty := .boolean) hx hb hr rfl (fun t ht hW => ⟨_, rfl, (by simp [bI, c_1, c_2, c_3]), ht⟩) (fun q h => by cases h) d_Pu_awaitsInvoiceIn_28

theorem d_Pu_isInBand_0 : decode b_Pu_isInBand 0 = .ok (.aload_n 0, 1) := by decide +kernel
theorem d_Pu_isInBand_1 : decode b_Pu_isInBand 1 = .ok (.getfield 29, 3) := by decide +kernel
theorem d_Pu_isInBand_4 : decode b_Pu_isInBand 4 = .ok (.i2l, 1) := by decide +kernel
theorem d_Pu_isInBand_5 : decode b_Pu_isInBand 5 = .ok (.iload_n 3, 1) := by decide +kernel
theorem d_Pu_isInBand_6 : decode b_Pu_isInBand 6 = .ok (.i2l, 1) := by decide +kernel
theorem d_Pu_isInBand_7 : decode b_Pu_isInBand 7 = .ok (.lmul, 1) := by decide +kernel
theorem d_Pu_isInBand_8 : decode b_Pu_isInBand 8 = .ok (.ldc2_w 42, 3) := by decide +kernel
theorem d_Pu_isInBand_11 : decode b_Pu_isInBand 11 = .ok (.ldiv, 1) := by decide +kernel
theorem d_Pu_isInBand_12 : decode b_Pu_isInBand 12 = .ok (.lstore 4, 2) := by decide +kernel
theorem d_Pu_isInBand_14 : decode b_Pu_isInBand 14 = .ok (.lload_n 1, 1) := by decide +kernel
theorem d_Pu_isInBand_15 : decode b_Pu_isInBand 15 = .ok (.aload_n 0, 1) := by decide +kernel
theorem d_Pu_isInBand_16 : decode b_Pu_isInBand 16 = .ok (.getfield 29, 3) := by decide +kernel
theorem d_Pu_isInBand_19 : decode b_Pu_isInBand 19 = .ok (.i2l, 1) := by decide +kernel
theorem d_Pu_isInBand_20 : decode b_Pu_isInBand 20 = .ok (.lload 4, 2) := by decide +kernel
theorem d_Pu_isInBand_22 : decode b_Pu_isInBand 22 = .ok (.lsub, 1) := by decide +kernel
theorem d_Pu_isInBand_23 : decode b_Pu_isInBand 23 = .ok (.aload_n 0, 1) := by decide +kernel
theorem d_Pu_isInBand_24 : decode b_Pu_isInBand 24 = .ok (.getfield 29, 3) := by decide +kernel
theorem d_Pu_isInBand_27 : decode b_Pu_isInBand 27 = .ok (.i2l, 1) := by decide +kernel
theorem d_Pu_isInBand_28 : decode b_Pu_isInBand 28 = .ok (.lload 4, 2) := by decide +kernel
theorem d_Pu_isInBand_30 : decode b_Pu_isInBand 30 = .ok (.ladd, 1) := by decide +kernel
theorem d_Pu_isInBand_31 : decode b_Pu_isInBand 31 = .ok (.invokestatic 44, 3) := by decide +kernel
theorem d_Pu_isInBand_34 : decode b_Pu_isInBand 34 = .ok (.ireturn, 1) := by decide +kernel
set_option maxHeartbeats 4000000 in
set_option maxRecDepth 100000 in
theorem c_Pu_isInBand (l : Launch) (dC : Nat → ClassId) (dI : Nat → Nat → Nat) (tys : List (ClassId × FieldType)) (L : List Nat) (f : Nat → va_E) (pu : Nat) (pu_ct pu_stt pu_ic pu_lm : Int32) (pu_lx : Int64) (pu_ac pu_ap : Nat) (pu_st : Bool) (hc : Int64) (tl : Int32) (hm_pu : pu ∈ L) (he_pu : f pu = .inr (2, [.ref pu_ac, .int pu_ct, .int (bI pu_st), .ref pu_ap, .int pu_stt, .int pu_ic, .int pu_lm, .long pu_lx])) : Met l y_Pu_isInBand w_Pu_isInBand { frames := 1, cells := 0, slots := 0, locals := 25 } (rd_P (dC, dI) classes tys (va_pl L f) [.ref pu, .long hc, .int tl]) (vp_Si (fun r => r = bI (iw hc (pu_ct.toInt64 - pu_ct.toInt64 * tl.toInt64 / 1000) (pu_ct.toInt64 + pu_ct.toInt64 * tl.toInt64 / 1000)))) 0 0 (fun _ => False) := by
  refine Met.ofW (cc := b_Pu_isInBand) (maxL := 6) (ret := (some .boolean)) (by decide) rfl ?_
  intro p e s m args below meth c s₁ B hml hv
  obtain ⟨rfl, hP, hK, hN⟩ := hv
  have hx := B.exec
  have hb := B.bytes
  have hr := B.returns
  have hts := atoms_spec (ws := w_Pu_isInBand) B.pre
  have hG := fun (w : Cond) (h : w ∈ wG) => hts w (List.mem_cons_of_mem _ h)
  have hown : s.vm.findClass R_Pu = some m.cls := findClass_of_methodNamed B.named
  have hlocks := B.notSynchronized
  have hl := lv_entry ([.ref pu, .long hc, .int tl]) (n := 6) (Nat.le_of_ble_eq_true rfl)
  rw [lg_entry_eq]
  generalize (lg_sl ([.ref pu, .long hc, .int tl]) ++ List.replicate (6 - (lg_sl ([.ref pu, .long hc, .int tl])).length) Slot.unset).toArray = ls at hl ⊢
  have hl : lv_has ls 6 [(0, .ref pu), (1, .long hc), (3, .int tl)] := hl
  refine lv_aload_n hx hb d_Pu_isInBand_0 rfl (lv_at hl 0 rfl) ?_
  refine fw_get (D := (dC, dI)) (ci := 2) (v := .int pu_ct) (C := R_Pu) (T := F_Pu) (N := 8) hx hb hG iG_Pu hown hK hP hm_pu he_pu rfl 1 (by decide) (hG _ k_193) (fun _ h9 => h9) rfl d_Pu_isInBand_1 ?_
  refine lv_i2l hx hb d_Pu_isInBand_4 rfl ?_
  refine lv_iload_n hx hb d_Pu_isInBand_5 rfl (lv_at hl 2 rfl) ?_
  refine lv_i2l hx hb d_Pu_isInBand_6 rfl ?_
  refine lv_lmul hx hb d_Pu_isInBand_7 ?_
  refine lv_ldc2 (own := R_Pu) (v := 1000) hx hb hown (hG _ k_276) d_Pu_isInBand_8 ?_
  refine lv_ldiv hx hb d_Pu_isInBand_11 (by decide) ?_
  refine lv_lstore (lv' := [(4, .long (((pu_ct.toInt64) * (tl.toInt64)) / 1000)), (0, .ref pu), (1, .long hc), (3, .int tl)]) hx hb d_Pu_isInBand_12 hl (by decide) rfl (fun ls hl => ?_)
  refine lv_lload_n hx hb d_Pu_isInBand_14 rfl (lv_at hl 2 rfl) ?_
  refine lv_aload_n hx hb d_Pu_isInBand_15 rfl (lv_at hl 1 rfl) ?_
  refine fw_get (D := (dC, dI)) (ci := 2) (v := .int pu_ct) (C := R_Pu) (T := F_Pu) (N := 8) hx hb hG iG_Pu hown hK hP hm_pu he_pu rfl 1 (by decide) (hG _ k_193) (fun _ h9 => h9) rfl d_Pu_isInBand_16 ?_
  refine lv_i2l hx hb d_Pu_isInBand_19 rfl ?_
  refine lv_lload hx hb d_Pu_isInBand_20 (lv_at hl 0 rfl) ?_
  refine lv_lsub hx hb d_Pu_isInBand_22 ?_
  refine lv_aload_n hx hb d_Pu_isInBand_23 rfl (lv_at hl 1 rfl) ?_
  refine fw_get (D := (dC, dI)) (ci := 2) (v := .int pu_ct) (C := R_Pu) (T := F_Pu) (N := 8) hx hb hG iG_Pu hown hK hP hm_pu he_pu rfl 1 (by decide) (hG _ k_193) (fun _ h9 => h9) rfl d_Pu_isInBand_24 ?_
  refine lv_i2l hx hb d_Pu_isInBand_27 rfl ?_
  refine lv_lload hx hb d_Pu_isInBand_28 (lv_at hl 0 rfl) ?_
  refine lv_ladd hx hb d_Pu_isInBand_30 ?_
  refine rd_calli (va_runSN (As := [.long hc, .long ((pu_ct.toInt64) - (((pu_ct.toInt64) * (tl.toInt64)) / 1000)), .long ((pu_ct.toInt64) + (((pu_ct.toInt64) * (tl.toInt64)) / 1000))]) (rest := []) ⟨hx, hb, hml, hown, hts⟩ (c_FB_isWithin l dC dI tys (va_pl L f) hc ((pu_ct.toInt64) - (((pu_ct.toInt64) * (tl.toInt64)) / 1000)) ((pu_ct.toInt64) + (((pu_ct.toInt64) * (tl.toInt64)) / 1000))) ⟨va_cnB 3 hts (gd_c k_108) rfl rfl rfl (hN _ k_277) (hG _ k_14) (by decide +kernel) ⟨Nat.le_of_ble_eq_true rfl, Nat.le_of_ble_eq_true rfl⟩, (hG _ k_107), trivial⟩ (rd_preS hK hN hP) rfl rfl hl.1 rfl (lv_room (Nat.le_of_ble_eq_true rfl)) d_Pu_isInBand_31 ⟨Nat.zero_le _, Nat.zero_le _⟩) (fun r_1 hr_1 => ?_)
  subst hr_1
  exact W.zret (v := (bI (iw hc ((pu_ct.toInt64) - (((pu_ct.toInt64) * (tl.toInt64)) / 1000)) ((pu_ct.toInt64) + (((pu_ct.toInt64) * (tl.toInt64)) / 1000))))) (ty := .boolean) hx hb hr (bI_nar _) (fun t ht hW => ⟨_, rfl, rfl, ht⟩) (fun q h => by cases h) d_Pu_isInBand_34

theorem d_Pu_releasedByInvoice_0 : decode b_Pu_releasedByInvoice 0 = .ok (.aload_n 0, 1) := by decide +kernel
theorem d_Pu_releasedByInvoice_1 : decode b_Pu_releasedByInvoice 1 = .ok (.getfield 32, 3) := by decide +kernel
theorem d_Pu_releasedByInvoice_4 : decode b_Pu_releasedByInvoice 4 = .ok (.ifCond .eq 7, 3) := by decide +kernel
theorem d_Pu_releasedByInvoice_7 : decode b_Pu_releasedByInvoice 7 = .ok (.iconst 0, 1) := by decide +kernel
theorem d_Pu_releasedByInvoice_8 : decode b_Pu_releasedByInvoice 8 = .ok (.goto 7, 3) := by decide +kernel
theorem d_Pu_releasedByInvoice_11 : decode b_Pu_releasedByInvoice 11 = .ok (.aload_n 0, 1) := by decide +kernel
theorem d_Pu_releasedByInvoice_12 : decode b_Pu_releasedByInvoice 12 = .ok (.getfield 29, 3) := by decide +kernel
theorem d_Pu_releasedByInvoice_15 : decode b_Pu_releasedByInvoice 15 = .ok (.ireturn, 1) := by decide +kernel
set_option maxHeartbeats 4000000 in
set_option maxRecDepth 100000 in
theorem c_Pu_releasedByInvoice (l : Launch) (dC : Nat → ClassId) (dI : Nat → Nat → Nat) (tys : List (ClassId × FieldType)) (L : List Nat) (f : Nat → va_E) (pu : Nat) (pu_ct pu_stt pu_ic pu_lm : Int32) (pu_lx : Int64) (pu_ac pu_ap : Nat) (pu_st : Bool) (hm_pu : pu ∈ L) (he_pu : f pu = .inr (2, [.ref pu_ac, .int pu_ct, .int (bI pu_st), .ref pu_ap, .int pu_stt, .int pu_ic, .int pu_lm, .long pu_lx])) : Met l y_Pu_releasedByInvoice w_Pu_releasedByInvoice { frames := 0, cells := 0, slots := 0, locals := 0 } (rd_P (dC, dI) classes tys (va_pl L f) [.ref pu]) (vp_Si (fun r => r = if pu_st = true then 0 else pu_ct)) 0 0 (fun _ => False) := by
  refine Met.ofW (cc := b_Pu_releasedByInvoice) (maxL := 1) (ret := (some .int)) (by decide) rfl ?_
  intro p e s m args below meth c s₁ B hml hv
  obtain ⟨rfl, hP, hK, hN⟩ := hv
  have hx := B.exec
  have hb := B.bytes
  have hr := B.returns
  have hts := atoms_spec (ws := w_Pu_releasedByInvoice) B.pre
  have hG := fun (w : Cond) (h : w ∈ wG) => hts w (List.mem_cons_of_mem _ h)
  have hown : s.vm.findClass R_Pu = some m.cls := findClass_of_methodNamed B.named
  have hlocks := B.notSynchronized
  have hl := lv_entry ([.ref pu]) (n := 1) (Nat.le_of_ble_eq_true rfl)
  rw [lg_entry_eq]
  generalize (lg_sl ([.ref pu]) ++ List.replicate (1 - (lg_sl ([.ref pu])).length) Slot.unset).toArray = ls at hl ⊢
  have hl : lv_has ls 1 [(0, .ref pu)] := hl
  refine lv_aload_n hx hb d_Pu_releasedByInvoice_0 rfl (lv_at hl 0 rfl) ?_
  refine fw_get (D := (dC, dI)) (ci := 2) (v := .int (bI pu_st)) (C := R_Pu) (T := F_Pu) (N := 8) hx hb hG iG_Pu hown hK hP hm_pu he_pu rfl 2 (by decide) (hG _ k_195) (fun _ h9 => h9) rfl d_Pu_releasedByInvoice_1 ?_
  refine lb_if_eq (tgt := 11) hx hb d_Pu_releasedByInvoice_4 (by decide) (fun c_1 => ?_) (fun c_1 => ?_)
  · refine lv_aload_n hx hb d_Pu_releasedByInvoice_11 rfl (lv_at hl 0 rfl) ?_
    refine fw_get (D := (dC, dI)) (ci := 2) (v := .int pu_ct) (C := R_Pu) (T := F_Pu) (N := 8) hx hb hG iG_Pu hown hK hP hm_pu he_pu rfl 1 (by decide) (hG _ k_193) (fun _ h9 => h9) rfl d_Pu_releasedByInvoice_12 ?_
    exact W.iret (v := pu_ct) hx hb hr (fun t ht hW => ⟨_, rfl, (by simp [bI, c_1]), ht⟩) (fun q h => by cases h) d_Pu_releasedByInvoice_15
  · refine lv_iconst (v := 0) hx hb d_Pu_releasedByInvoice_7 (by decide) ?_
    refine lv_goto (tgt := 15) hx hb d_Pu_releasedByInvoice_8 (by decide) ?_
    exact W.iret (v := 0) hx hb hr (fun t ht hW => ⟨_, rfl, (by simp [bI, c_1]), ht⟩) (fun q h => by cases h) d_Pu_releasedByInvoice_15

theorem d_Pu_hasRoomToPay_0 : decode b_Pu_hasRoomToPay 0 = .ok (.aload_n 0, 1) := by decide +kernel
theorem d_Pu_hasRoomToPay_1 : decode b_Pu_hasRoomToPay 1 = .ok (.getfield 25, 3) := by decide +kernel
theorem d_Pu_hasRoomToPay_4 : decode b_Pu_hasRoomToPay 4 = .ok (.lconst 0, 1) := by decide +kernel
theorem d_Pu_hasRoomToPay_5 : decode b_Pu_hasRoomToPay 5 = .ok (.aload_n 0, 1) := by decide +kernel
theorem d_Pu_hasRoomToPay_6 : decode b_Pu_hasRoomToPay 6 = .ok (.invokevirtual 48, 3) := by decide +kernel
theorem d_Pu_hasRoomToPay_9 : decode b_Pu_hasRoomToPay 9 = .ok (.ineg, 1) := by decide +kernel
theorem d_Pu_hasRoomToPay_10 : decode b_Pu_hasRoomToPay 10 = .ok (.i2l, 1) := by decide +kernel
theorem d_Pu_hasRoomToPay_11 : decode b_Pu_hasRoomToPay 11 = .ok (.lload_n 1, 1) := by decide +kernel
theorem d_Pu_hasRoomToPay_12 : decode b_Pu_hasRoomToPay 12 = .ok (.invokevirtual 52, 3) := by decide +kernel
theorem d_Pu_hasRoomToPay_15 : decode b_Pu_hasRoomToPay 15 = .ok (.ireturn, 1) := by decide +kernel
set_option maxHeartbeats 4000000 in
set_option maxRecDepth 100000 in
theorem c_Pu_hasRoomToPay (l : Launch) (dC : Nat → ClassId) (dI : Nat → Nat → Nat) (tys : List (ClassId × FieldType)) (L : List Nat) (f : Nat → va_E) (pu : Nat) (a : Nat) (pu_ct pu_stt pu_ic pu_lm : Int32) (pu_lx : Int64) (pu_ap : Nat) (pu_st : Bool) (a_n a_cy : Int32) (a_g a_en a_sp a_pd : Int64) (hc : Int64) (hm_pu : pu ∈ L) (he_pu : f pu = .inr (2, [.ref a, .int pu_ct, .int (bI pu_st), .ref pu_ap, .int pu_stt, .int pu_ic, .int pu_lm, .long pu_lx])) (hm_a : a ∈ L) (he_a : f a = .inr (1, [.int a_n, .int a_cy, .long a_g, .long a_en, .long a_sp, .long a_pd])) : Met l y_Pu_hasRoomToPay w_Pu_hasRoomToPay { frames := 3, cells := 0, slots := 0, locals := 72 } (rd_P (dC, dI) classes tys (va_pl L f) [.ref pu, .long hc]) (vp_Si (fun r => r = bI (bnd (a_g + 0) && bnd (a_en + (-(if pu_st = true then 0 else pu_ct)).toInt64) && bnd (a_sp + hc) && bnd (a_g - a_en - a_sp + 0 - (-(if pu_st = true then 0 else pu_ct)).toInt64 - hc)))) 0 0 (fun _ => False) := by
  refine Met.ofW (cc := b_Pu_hasRoomToPay) (maxL := 3) (ret := (some .boolean)) (by decide) rfl ?_
  intro p e s m args below meth c s₁ B hml hv
  obtain ⟨rfl, hP, hK, hN⟩ := hv
  have hx := B.exec
  have hb := B.bytes
  have hr := B.returns
  have hts := atoms_spec (ws := w_Pu_hasRoomToPay) B.pre
  have hG := fun (w : Cond) (h : w ∈ wG) => hts w (List.mem_cons_of_mem _ h)
  have hown : s.vm.findClass R_Pu = some m.cls := findClass_of_methodNamed B.named
  have hlocks := B.notSynchronized
  have hl := lv_entry ([.ref pu, .long hc]) (n := 3) (Nat.le_of_ble_eq_true rfl)
  rw [lg_entry_eq]
  generalize (lg_sl ([.ref pu, .long hc]) ++ List.replicate (3 - (lg_sl ([.ref pu, .long hc])).length) Slot.unset).toArray = ls at hl ⊢
  have hl : lv_has ls 3 [(0, .ref pu), (1, .long hc)] := hl
  refine lv_aload_n hx hb d_Pu_hasRoomToPay_0 rfl (lv_at hl 0 rfl) ?_
  refine fw_get (D := (dC, dI)) (ci := 2) (v := .ref a) (C := R_Pu) (T := F_Pu) (N := 8) hx hb hG iG_Pu hown hK hP hm_pu he_pu rfl 0 (by decide) (hG _ k_191) (fun _ h9 => h9) rfl d_Pu_hasRoomToPay_1 ?_
  refine lv_lconst (v := 0) hx hb d_Pu_hasRoomToPay_4 (by decide) ?_
  refine lv_aload_n hx hb d_Pu_hasRoomToPay_5 rfl (lv_at hl 0 rfl) ?_
  refine rd_calli (va_runV (As := []) (rest := [.long 0, .ref a]) ⟨hx, hb, hml, hown, hts⟩ (c_Pu_releasedByInvoice l dC dI tys L f pu pu_ct pu_stt pu_ic pu_lm pu_lx a pu_ap pu_st hm_pu he_pu) (cwV 0 hts (gd_V k_283 k_284 k_285 k_19 k_286) rfl rfl rfl (by decide +kernel) ⟨Nat.le_of_ble_eq_true rfl, Nat.le_of_ble_eq_true rfl⟩) (fw_preV hK hN hP rfl hm_pu he_pu) rfl rfl hl.1 rfl (lv_room (Nat.le_of_ble_eq_true rfl)) d_Pu_hasRoomToPay_6 ⟨Nat.zero_le _, Nat.zero_le _⟩) (fun r_1 hr_1 => ?_)
  subst hr_1
  refine lv_ineg hx hb d_Pu_hasRoomToPay_9 ?_
  refine lv_i2l hx hb d_Pu_hasRoomToPay_10 rfl ?_
  refine lv_lload_n hx hb d_Pu_hasRoomToPay_11 rfl (lv_at hl 1 rfl) ?_
  refine rd_calli (va_runV (As := [.long 0, .long ((-(if pu_st = true then 0 else pu_ct)).toInt64), .long hc]) (rest := []) ⟨hx, hb, hml, hown, hts⟩ (c_Ac_hasRoomFor l dC dI tys L f a a_n a_cy a_g a_en a_sp a_pd 0 ((-(if pu_st = true then 0 else pu_ct)).toInt64) hc hm_a he_a) (cwV 3 hts (gd_V k_287 k_151 k_152 k_18 k_153) rfl rfl rfl (by decide +kernel) ⟨Nat.le_of_ble_eq_true rfl, Nat.le_of_ble_eq_true rfl⟩) (fw_preV hK hN hP rfl hm_a he_a) rfl rfl hl.1 rfl (lv_room (Nat.le_of_ble_eq_true rfl)) d_Pu_hasRoomToPay_12 ⟨Nat.zero_le _, Nat.zero_le _⟩) (fun r_2 hr_2 => ?_)
  subst hr_2
  exact W.zret (v := (bI (bnd (a_g + 0) && bnd (a_en + ((-(if pu_st = true then 0 else pu_ct)).toInt64)) && bnd (a_sp + hc) && bnd (a_g - a_en - a_sp + 0 - ((-(if pu_st = true then 0 else pu_ct)).toInt64) - hc)))) (ty := .boolean) hx hb hr (bI_nar _) (fun t ht hW => ⟨_, rfl, rfl, ht⟩) (fun q h => by cases h) d_Pu_hasRoomToPay_15
end
section
theorem d_Pu_place_0 : decode b_Pu_place 0 = .ok (.aload_n 0, 1) := by decide +kernel
theorem d_Pu_place_1 : decode b_Pu_place 1 = .ok (.iconst 1, 1) := by decide +kernel
theorem d_Pu_place_2 : decode b_Pu_place 2 = .ok (.putfield 18, 3) := by decide +kernel
theorem d_Pu_place_5 : decode b_Pu_place 5 = .ok (.aload_n 0, 1) := by decide +kernel
theorem d_Pu_place_6 : decode b_Pu_place 6 = .ok (.getfield 25, 3) := by decide +kernel
theorem d_Pu_place_9 : decode b_Pu_place 9 = .ok (.dup, 1) := by decide +kernel
theorem d_Pu_place_10 : decode b_Pu_place 10 = .ok (.getfield 36, 3) := by decide +kernel
theorem d_Pu_place_13 : decode b_Pu_place 13 = .ok (.aload_n 0, 1) := by decide +kernel
theorem d_Pu_place_14 : decode b_Pu_place 14 = .ok (.getfield 29, 3) := by decide +kernel
theorem d_Pu_place_17 : decode b_Pu_place 17 = .ok (.i2l, 1) := by decide +kernel
theorem d_Pu_place_18 : decode b_Pu_place 18 = .ok (.ladd, 1) := by decide +kernel
theorem d_Pu_place_19 : decode b_Pu_place 19 = .ok (.putfield 36, 3) := by decide +kernel
theorem d_Pu_place_22 : decode b_Pu_place 22 = .ok (.return_, 1) := by decide +kernel
set_option maxHeartbeats 4000000 in
set_option maxRecDepth 100000 in
theorem c_Pu_place (l : Launch) (dC : Nat → ClassId) (dI : Nat → Nat → Nat) (tys : List (ClassId × FieldType)) (L : List Nat) (f : Nat → va_E) (sz : Nat) (pu : Nat) (a : Nat) (pu_ct pu_stt pu_ic pu_lm : Int32) (pu_lx : Int64) (pu_ap : Nat) (pu_st : Bool) (a_n a_cy : Int32) (a_g a_en a_sp a_pd : Int64) (hm_pu : pu ∈ L) (he_pu : f pu = .inr (2, [.ref a, .int pu_ct, .int (bI pu_st), .ref pu_ap, .int pu_stt, .int pu_ic, .int pu_lm, .long pu_lx])) (hm_a : a ∈ L) (he_a : f a = .inr (1, [.int a_n, .int a_cy, .long a_g, .long a_en, .long a_sp, .long a_pd])) : Met l y_Pu_place w_Pu_place { frames := 0, cells := 0, slots := 0, locals := 0 } (mu_P (dC, dI) classes tys (va_pl L f) sz [.ref pu]) (va_Qv (fun u => u = (L, va_up (va_up f pu (.inr (2, [.ref a, .int pu_ct, .int (bI pu_st), .ref pu_ap, .int 1, .int pu_ic, .int pu_lm, .long pu_lx]))) a (.inr (1, [.int a_n, .int a_cy, .long a_g, .long (a_en + pu_ct.toInt64), .long a_sp, .long a_pd])))) (mu_B (dC, dI) classes tys (va_A (va_pl L f) sz) fw_w) (va_A (va_pl L f) sz)) 0 0 (va_A (va_pl L f) sz) := by
  refine Met.ofW (cc := b_Pu_place) (maxL := 1) (ret := none) (by decide) rfl ?_
  intro p e s m args below meth c s₁ B hml hv
  obtain ⟨rfl, hsz, hP, hK, hD0, hN⟩ := hv
  have hx := B.exec
  have hb := B.bytes
  have hr := B.returns
  have hts := atoms_spec (ws := w_Pu_place) B.pre
  have hG := fun (w : Cond) (h : w ∈ wG) => hts w (List.mem_cons_of_mem _ h)
  have hown : s.vm.findClass R_Pu = some m.cls := findClass_of_methodNamed B.named
  have hlocks := B.notSynchronized
  subst hsz
  have hD := hD0.self (sz := s.heap.size)
  generalize hAe : va_A (va_pl L f) s.heap.size = A at hD ⊢
  have hA : ∀ q : Nat, s.heap.size ≤ q → A q := fun q h => by rw [← hAe]; exact Or.inr h
  have hS : va_S A s.heap s.heap [] := va_S.rf
  have hP : va_P (dC, dI) classes (va_pl L f) s.heap := hP
  have hl := lv_entry ([.ref pu]) (n := 1) (Nat.le_of_ble_eq_true rfl)
  rw [lg_entry_eq]
  generalize (lg_sl ([.ref pu]) ++ List.replicate (1 - (lg_sl ([.ref pu])).length) Slot.unset).toArray = ls at hl ⊢
  have hl : lv_has ls 1 [(0, .ref pu)] := hl
  have ne_pu_a : pu ≠ a := (fw_ne he_pu he_a (show (3 : Nat) ≠ 2 by decide))
  refine lv_aload_n hx hb d_Pu_place_0 rfl (lv_at hl 0 rfl) ?_
  refine lv_iconst (v := 1) hx hb d_Pu_place_1 (by decide) ?_
  refine fw_put (D := (dC, dI)) (ci := 2) (v := .int 1) (ty := .int) (C := R_Pu) (T := F_Pu) (N := 8) hx hb hG iG_Pu t_Pu t_Pu_ok n_Pu hown hK hP hD hS hm_pu he_pu rfl 4 (by decide) (hG _ k_198) (fun _ h9 => h9) rfl (by decide +kernel) rfl rfl (Nat.le_of_ble_eq_true rfl) d_Pu_place_2 (fun H locs hP hD hS => ?_)
  obtain ⟨f_1, ef_1⟩ : ∃ z, z = va_up f pu (.inr (2, [.ref a, .int pu_ct, .int (bI pu_st), .ref pu_ap, .int 1, .int pu_ic, .int pu_lm, .long pu_lx])) := ⟨_, rfl⟩
  have he_2 : f_1 pu = .inr (2, [.ref a, .int pu_ct, .int (bI pu_st), .ref pu_ap, .int 1, .int pu_ic, .int pu_lm, .long pu_lx]) := by rw [ef_1]; exact va_up_self _ _ _
  have he_3 : f_1 a = .inr (1, [.int a_n, .int a_cy, .long a_g, .long a_en, .long a_sp, .long a_pd]) := by rw [ef_1, va_up_ne _ _ (Ne.symm ne_pu_a)]; exact he_a
  have hP : va_P (dC, dI) classes (va_pl L f_1) H := by rw [ef_1]; exact hP
  have hD : va_D A (va_pl L f_1) := by rw [ef_1]; exact hD
  refine lv_aload_n hx hb d_Pu_place_5 rfl (lv_at hl 0 rfl) ?_
  refine fw_get (D := (dC, dI)) (ci := 2) (v := .ref a) (C := R_Pu) (T := F_Pu) (N := 8) hx hb hG iG_Pu hown hK hP hm_pu he_2 rfl 0 (by decide) (hG _ k_191) (fun _ h9 => h9) rfl d_Pu_place_6 ?_
  refine lv_dup hx hb d_Pu_place_9 rfl ?_
  refine fw_getN (D := (dC, dI)) (ci := 1) (v := .long a_en) (C := R_Ac) (T := F_Ac) (N := 6) hx hb hG iG_Ac hown hK hP hm_a he_3 rfl 3 (by decide) (hN.use k_122) (fun _ h9 => h9) rfl d_Pu_place_10 ?_
  refine lv_aload_n hx hb d_Pu_place_13 rfl (lv_at hl 0 rfl) ?_
  refine fw_get (D := (dC, dI)) (ci := 2) (v := .int pu_ct) (C := R_Pu) (T := F_Pu) (N := 8) hx hb hG iG_Pu hown hK hP hm_pu he_2 rfl 1 (by decide) (hG _ k_193) (fun _ h9 => h9) rfl d_Pu_place_14 ?_
  refine lv_i2l hx hb d_Pu_place_17 rfl ?_
  refine lv_ladd hx hb d_Pu_place_18 ?_
  refine fw_putN (D := (dC, dI)) (ci := 1) (v := .long (a_en + (pu_ct.toInt64))) (ty := .long) (C := R_Ac) (T := F_Ac) (N := 6) hx hb hG iG_Ac t_Ac t_Ac_ok n_Ac hown hK hP hD hS hm_a he_3 rfl 3 (by decide) (hN.use k_122) (fun _ h9 => h9) rfl (by decide +kernel) rfl rfl (Nat.le_of_ble_eq_true rfl) d_Pu_place_19 (fun H locs hP hD hS => ?_)
  obtain ⟨f_4, ef_4⟩ : ∃ z, z = va_up f_1 a (.inr (1, [.int a_n, .int a_cy, .long a_g, .long (a_en + (pu_ct.toInt64)), .long a_sp, .long a_pd])) := ⟨_, rfl⟩
  have he_5 : f_4 pu = .inr (2, [.ref a, .int pu_ct, .int (bI pu_st), .ref pu_ap, .int 1, .int pu_ic, .int pu_lm, .long pu_lx]) := by rw [ef_4, va_up_ne _ _ ne_pu_a]; exact he_2
  have he_6 : f_4 a = .inr (1, [.int a_n, .int a_cy, .long a_g, .long (a_en + (pu_ct.toInt64)), .long a_sp, .long a_pd]) := by rw [ef_4]; exact va_up_self _ _ _
  have hP : va_P (dC, dI) classes (va_pl L f_4) H := by rw [ef_4]; exact hP
  have hD : va_D A (va_pl L f_4) := by rw [ef_4]; exact hD
  exact W.vret hx hb hr (fun t ht hW => ⟨⟨(L, f_4), rfl, (by rw [ef_4, ef_1] <;> exact fw_same (by intro z; simp only [va_up] <;> grind)), by rw [ht]; exact hP, va_K.moved hW.alike hK, hD⟩, hS.F ht⟩) hS.2.2 d_Pu_place_22

theorem d_Pu_pay_0 : decode b_Pu_pay 0 = .ok (.aload_n 0, 1) := by decide +kernel
theorem d_Pu_pay_1 : decode b_Pu_pay 1 = .ok (.getfield 25, 3) := by decide +kernel
theorem d_Pu_pay_4 : decode b_Pu_pay 4 = .ok (.dup, 1) := by decide +kernel
theorem d_Pu_pay_5 : decode b_Pu_pay 5 = .ok (.getfield 36, 3) := by decide +kernel
theorem d_Pu_pay_8 : decode b_Pu_pay 8 = .ok (.aload_n 0, 1) := by decide +kernel
theorem d_Pu_pay_9 : decode b_Pu_pay 9 = .ok (.invokevirtual 48, 3) := by decide +kernel
theorem d_Pu_pay_12 : decode b_Pu_pay 12 = .ok (.i2l, 1) := by decide +kernel
theorem d_Pu_pay_13 : decode b_Pu_pay 13 = .ok (.lsub, 1) := by decide +kernel
theorem d_Pu_pay_14 : decode b_Pu_pay 14 = .ok (.putfield 36, 3) := by decide +kernel
theorem d_Pu_pay_17 : decode b_Pu_pay 17 = .ok (.aload_n 0, 1) := by decide +kernel
theorem d_Pu_pay_18 : decode b_Pu_pay 18 = .ok (.getfield 25, 3) := by decide +kernel
theorem d_Pu_pay_21 : decode b_Pu_pay 21 = .ok (.dup, 1) := by decide +kernel
theorem d_Pu_pay_22 : decode b_Pu_pay 22 = .ok (.getfield 55, 3) := by decide +kernel
theorem d_Pu_pay_25 : decode b_Pu_pay 25 = .ok (.lload_n 1, 1) := by decide +kernel
theorem d_Pu_pay_26 : decode b_Pu_pay 26 = .ok (.ladd, 1) := by decide +kernel
theorem d_Pu_pay_27 : decode b_Pu_pay 27 = .ok (.putfield 55, 3) := by decide +kernel
theorem d_Pu_pay_30 : decode b_Pu_pay 30 = .ok (.aload_n 0, 1) := by decide +kernel
theorem d_Pu_pay_31 : decode b_Pu_pay 31 = .ok (.lload_n 1, 1) := by decide +kernel
theorem d_Pu_pay_32 : decode b_Pu_pay 32 = .ok (.aload_n 0, 1) := by decide +kernel
theorem d_Pu_pay_33 : decode b_Pu_pay 33 = .ok (.getfield 29, 3) := by decide +kernel
theorem d_Pu_pay_36 : decode b_Pu_pay 36 = .ok (.i2l, 1) := by decide +kernel
theorem d_Pu_pay_37 : decode b_Pu_pay 37 = .ok (.lsub, 1) := by decide +kernel
theorem d_Pu_pay_38 : decode b_Pu_pay 38 = .ok (.putfield 58, 3) := by decide +kernel
theorem d_Pu_pay_41 : decode b_Pu_pay 41 = .ok (.aload_n 0, 1) := by decide +kernel
theorem d_Pu_pay_42 : decode b_Pu_pay 42 = .ok (.iload_n 3, 1) := by decide +kernel
theorem d_Pu_pay_43 : decode b_Pu_pay 43 = .ok (.putfield 22, 3) := by decide +kernel
theorem d_Pu_pay_46 : decode b_Pu_pay 46 = .ok (.aload_n 0, 1) := by decide +kernel
theorem d_Pu_pay_47 : decode b_Pu_pay 47 = .ok (.dup, 1) := by decide +kernel
theorem d_Pu_pay_48 : decode b_Pu_pay 48 = .ok (.getfield 61, 3) := by decide +kernel
theorem d_Pu_pay_51 : decode b_Pu_pay 51 = .ok (.iconst 1, 1) := by decide +kernel
theorem d_Pu_pay_52 : decode b_Pu_pay 52 = .ok (.iadd, 1) := by decide +kernel
theorem d_Pu_pay_53 : decode b_Pu_pay 53 = .ok (.putfield 61, 3) := by decide +kernel
theorem d_Pu_pay_56 : decode b_Pu_pay 56 = .ok (.aload_n 0, 1) := by decide +kernel
theorem d_Pu_pay_57 : decode b_Pu_pay 57 = .ok (.getfield 32, 3) := by decide +kernel
theorem d_Pu_pay_60 : decode b_Pu_pay 60 = .ok (.ifCond .ne 8, 3) := by decide +kernel
theorem d_Pu_pay_63 : decode b_Pu_pay 63 = .ok (.aload_n 0, 1) := by decide +kernel
theorem d_Pu_pay_64 : decode b_Pu_pay 64 = .ok (.iconst 2, 1) := by decide +kernel
theorem d_Pu_pay_65 : decode b_Pu_pay 65 = .ok (.putfield 18, 3) := by decide +kernel
theorem d_Pu_pay_68 : decode b_Pu_pay 68 = .ok (.return_, 1) := by decide +kernel
set_option maxHeartbeats 4000000 in
set_option maxRecDepth 100000 in
theorem c_Pu_pay (l : Launch) (dC : Nat → ClassId) (dI : Nat → Nat → Nat) (tys : List (ClassId × FieldType)) (L : List Nat) (f : Nat → va_E) (sz : Nat) (pu : Nat) (a : Nat) (pu_ct pu_stt pu_ic pu_lm : Int32) (pu_lx : Int64) (pu_ap : Nat) (pu_st : Bool) (a_n a_cy : Int32) (a_g a_en a_sp a_pd : Int64) (hc : Int64) (mo : Int32) (hm_pu : pu ∈ L) (he_pu : f pu = .inr (2, [.ref a, .int pu_ct, .int (bI pu_st), .ref pu_ap, .int pu_stt, .int pu_ic, .int pu_lm, .long pu_lx])) (hm_a : a ∈ L) (he_a : f a = .inr (1, [.int a_n, .int a_cy, .long a_g, .long a_en, .long a_sp, .long a_pd])) : Met l y_Pu_pay w_Pu_pay { frames := 1, cells := 0, slots := 0, locals := 20 } (mu_P (dC, dI) classes tys (va_pl L f) sz [.ref pu, .long hc, .int mo]) (va_Qv (fun u => u = (L, va_up (va_up f a (.inr (1, [.int a_n, .int a_cy, .long a_g, .long (a_en - (if pu_st = true then 0 else pu_ct).toInt64), .long (a_sp + hc), .long a_pd]))) pu (.inr (2, [.ref a, .int pu_ct, .int (bI pu_st), .ref pu_ap, .int (if pu_st = true then pu_stt else 2), .int (pu_ic + 1), .int mo, .long (hc - pu_ct.toInt64)])))) (mu_B (dC, dI) classes tys (va_A (va_pl L f) sz) fw_w) (va_A (va_pl L f) sz)) 0 0 (va_A (va_pl L f) sz) := by
  refine Met.ofW (cc := b_Pu_pay) (maxL := 4) (ret := none) (by decide) rfl ?_
  intro p e s m args below meth c s₁ B hml hv
  obtain ⟨rfl, hsz, hP, hK, hD0, hN⟩ := hv
  have hx := B.exec
  have hb := B.bytes
  have hr := B.returns
  have hts := atoms_spec (ws := w_Pu_pay) B.pre
  have hG := fun (w : Cond) (h : w ∈ wG) => hts w (List.mem_cons_of_mem _ h)
  have hown : s.vm.findClass R_Pu = some m.cls := findClass_of_methodNamed B.named
  have hlocks := B.notSynchronized
  subst hsz
  have hD := hD0.self (sz := s.heap.size)
  generalize hAe : va_A (va_pl L f) s.heap.size = A at hD ⊢
  have hA : ∀ q : Nat, s.heap.size ≤ q → A q := fun q h => by rw [← hAe]; exact Or.inr h
  have hS : va_S A s.heap s.heap [] := va_S.rf
  have hP : va_P (dC, dI) classes (va_pl L f) s.heap := hP
  have hl := lv_entry ([.ref pu, .long hc, .int mo]) (n := 4) (Nat.le_of_ble_eq_true rfl)
  rw [lg_entry_eq]
  generalize (lg_sl ([.ref pu, .long hc, .int mo]) ++ List.replicate (4 - (lg_sl ([.ref pu, .long hc, .int mo])).length) Slot.unset).toArray = ls at hl ⊢
  have hl : lv_has ls 4 [(0, .ref pu), (1, .long hc), (3, .int mo)] := hl
  have ne_pu_a : pu ≠ a := (fw_ne he_pu he_a (show (3 : Nat) ≠ 2 by decide))
  refine lv_aload_n hx hb d_Pu_pay_0 rfl (lv_at hl 0 rfl) ?_
  refine fw_get (D := (dC, dI)) (ci := 2) (v := .ref a) (C := R_Pu) (T := F_Pu) (N := 8) hx hb hG iG_Pu hown hK hP hm_pu he_pu rfl 0 (by decide) (hG _ k_191) (fun _ h9 => h9) rfl d_Pu_pay_1 ?_
  refine lv_dup hx hb d_Pu_pay_4 rfl ?_
  refine fw_getN (D := (dC, dI)) (ci := 1) (v := .long a_en) (C := R_Ac) (T := F_Ac) (N := 6) hx hb hG iG_Ac hown hK hP hm_a he_a rfl 3 (by decide) (hN.use k_122) (fun _ h9 => h9) rfl d_Pu_pay_5 ?_
  refine lv_aload_n hx hb d_Pu_pay_8 rfl (lv_at hl 0 rfl) ?_
  refine rd_calli (va_runV (As := []) (rest := [.long a_en, .ref a]) ⟨hx, hb, hml, hown, hts⟩ (c_Pu_releasedByInvoice l dC dI tys L f pu pu_ct pu_stt pu_ic pu_lm pu_lx a pu_ap pu_st hm_pu he_pu) (cwV 0 hts (gd_V k_283 k_284 k_285 k_19 k_286) rfl rfl rfl (by decide +kernel) ⟨Nat.le_of_ble_eq_true rfl, Nat.le_of_ble_eq_true rfl⟩) (fw_preV hK hN hP rfl hm_pu he_pu) rfl rfl hl.1 rfl (lv_room (Nat.le_of_ble_eq_true rfl)) d_Pu_pay_9 ⟨Nat.zero_le _, Nat.zero_le _⟩) (fun r_1 hr_1 => ?_)
  subst hr_1
  refine lv_i2l hx hb d_Pu_pay_12 rfl ?_
  refine lv_lsub hx hb d_Pu_pay_13 ?_
  refine fw_putN (D := (dC, dI)) (ci := 1) (v := .long (a_en - ((if pu_st = true then 0 else pu_ct).toInt64))) (ty := .long) (C := R_Ac) (T := F_Ac) (N := 6) hx hb hG iG_Ac t_Ac t_Ac_ok n_Ac hown hK hP hD hS hm_a he_a rfl 3 (by decide) (hN.use k_122) (fun _ h9 => h9) rfl (by decide +kernel) rfl rfl (Nat.le_of_ble_eq_true rfl) d_Pu_pay_14 (fun H locs hP hD hS => ?_)
  obtain ⟨f_2, ef_2⟩ : ∃ z, z = va_up f a (.inr (1, [.int a_n, .int a_cy, .long a_g, .long (a_en - ((if pu_st = true then 0 else pu_ct).toInt64)), .long a_sp, .long a_pd])) := ⟨_, rfl⟩
  have he_3 : f_2 pu = .inr (2, [.ref a, .int pu_ct, .int (bI pu_st), .ref pu_ap, .int pu_stt, .int pu_ic, .int pu_lm, .long pu_lx]) := by rw [ef_2, va_up_ne _ _ ne_pu_a]; exact he_pu
  have he_4 : f_2 a = .inr (1, [.int a_n, .int a_cy, .long a_g, .long (a_en - ((if pu_st = true then 0 else pu_ct).toInt64)), .long a_sp, .long a_pd]) := by rw [ef_2]; exact va_up_self _ _ _
  have hP : va_P (dC, dI) classes (va_pl L f_2) H := by rw [ef_2]; exact hP
  have hD : va_D A (va_pl L f_2) := by rw [ef_2]; exact hD
  refine lv_aload_n hx hb d_Pu_pay_17 rfl (lv_at hl 0 rfl) ?_
  refine fw_get (D := (dC, dI)) (ci := 2) (v := .ref a) (C := R_Pu) (T := F_Pu) (N := 8) hx hb hG iG_Pu hown hK hP hm_pu he_3 rfl 0 (by decide) (hG _ k_191) (fun _ h9 => h9) rfl d_Pu_pay_18 ?_
  refine lv_dup hx hb d_Pu_pay_21 rfl ?_
  refine fw_getN (D := (dC, dI)) (ci := 1) (v := .long a_sp) (C := R_Ac) (T := F_Ac) (N := 6) hx hb hG iG_Ac hown hK hP hm_a he_4 rfl 4 (by decide) (hN.use k_125) (fun _ h9 => h9) rfl d_Pu_pay_22 ?_
  refine lv_lload_n hx hb d_Pu_pay_25 rfl (lv_at hl 1 rfl) ?_
  refine lv_ladd hx hb d_Pu_pay_26 ?_
  refine fw_putN (D := (dC, dI)) (ci := 1) (v := .long (a_sp + hc)) (ty := .long) (C := R_Ac) (T := F_Ac) (N := 6) hx hb hG iG_Ac t_Ac t_Ac_ok n_Ac hown hK hP hD hS hm_a he_4 rfl 4 (by decide) (hN.use k_125) (fun _ h9 => h9) rfl (by decide +kernel) rfl rfl (Nat.le_of_ble_eq_true rfl) d_Pu_pay_27 (fun H locs hP hD hS => ?_)
  obtain ⟨f_5, ef_5⟩ : ∃ z, z = va_up f_2 a (.inr (1, [.int a_n, .int a_cy, .long a_g, .long (a_en - ((if pu_st = true then 0 else pu_ct).toInt64)), .long (a_sp + hc), .long a_pd])) := ⟨_, rfl⟩
  have he_6 : f_5 pu = .inr (2, [.ref a, .int pu_ct, .int (bI pu_st), .ref pu_ap, .int pu_stt, .int pu_ic, .int pu_lm, .long pu_lx]) := by rw [ef_5, va_up_ne _ _ ne_pu_a]; exact he_3
  have he_7 : f_5 a = .inr (1, [.int a_n, .int a_cy, .long a_g, .long (a_en - ((if pu_st = true then 0 else pu_ct).toInt64)), .long (a_sp + hc), .long a_pd]) := by rw [ef_5]; exact va_up_self _ _ _
  have hP : va_P (dC, dI) classes (va_pl L f_5) H := by rw [ef_5]; exact hP
  have hD : va_D A (va_pl L f_5) := by rw [ef_5]; exact hD
  refine lv_aload_n hx hb d_Pu_pay_30 rfl (lv_at hl 0 rfl) ?_
  refine lv_lload_n hx hb d_Pu_pay_31 rfl (lv_at hl 1 rfl) ?_
  refine lv_aload_n hx hb d_Pu_pay_32 rfl (lv_at hl 0 rfl) ?_
  refine fw_get (D := (dC, dI)) (ci := 2) (v := .int pu_ct) (C := R_Pu) (T := F_Pu) (N := 8) hx hb hG iG_Pu hown hK hP hm_pu he_6 rfl 1 (by decide) (hG _ k_193) (fun _ h9 => h9) rfl d_Pu_pay_33 ?_
  refine lv_i2l hx hb d_Pu_pay_36 rfl ?_
  refine lv_lsub hx hb d_Pu_pay_37 ?_
  refine fw_put (D := (dC, dI)) (ci := 2) (v := .long (hc - (pu_ct.toInt64))) (ty := .long) (C := R_Pu) (T := F_Pu) (N := 8) hx hb hG iG_Pu t_Pu t_Pu_ok n_Pu hown hK hP hD hS hm_pu he_6 rfl 7 (by decide) (hG _ k_203) (fun _ h9 => h9) rfl (by decide +kernel) rfl rfl (Nat.le_of_ble_eq_true rfl) d_Pu_pay_38 (fun H locs hP hD hS => ?_)
  obtain ⟨f_8, ef_8⟩ : ∃ z, z = va_up f_5 pu (.inr (2, [.ref a, .int pu_ct, .int (bI pu_st), .ref pu_ap, .int pu_stt, .int pu_ic, .int pu_lm, .long (hc - (pu_ct.toInt64))])) := ⟨_, rfl⟩
  have he_9 : f_8 pu = .inr (2, [.ref a, .int pu_ct, .int (bI pu_st), .ref pu_ap, .int pu_stt, .int pu_ic, .int pu_lm, .long (hc - (pu_ct.toInt64))]) := by rw [ef_8]; exact va_up_self _ _ _
  have he_10 : f_8 a = .inr (1, [.int a_n, .int a_cy, .long a_g, .long (a_en - ((if pu_st = true then 0 else pu_ct).toInt64)), .long (a_sp + hc), .long a_pd]) := by rw [ef_8, va_up_ne _ _ (Ne.symm ne_pu_a)]; exact he_7
  have hP : va_P (dC, dI) classes (va_pl L f_8) H := by rw [ef_8]; exact hP
  have hD : va_D A (va_pl L f_8) := by rw [ef_8]; exact hD
  refine lv_aload_n hx hb d_Pu_pay_41 rfl (lv_at hl 0 rfl) ?_
  refine lv_iload_n hx hb d_Pu_pay_42 rfl (lv_at hl 2 rfl) ?_
  refine fw_put (D := (dC, dI)) (ci := 2) (v := .int mo) (ty := .int) (C := R_Pu) (T := F_Pu) (N := 8) hx hb hG iG_Pu t_Pu t_Pu_ok n_Pu hown hK hP hD hS hm_pu he_9 rfl 6 (by decide) (hG _ k_202) (fun _ h9 => h9) rfl (by decide +kernel) rfl rfl (Nat.le_of_ble_eq_true rfl) d_Pu_pay_43 (fun H locs hP hD hS => ?_)
  obtain ⟨f_11, ef_11⟩ : ∃ z, z = va_up f_8 pu (.inr (2, [.ref a, .int pu_ct, .int (bI pu_st), .ref pu_ap, .int pu_stt, .int pu_ic, .int mo, .long (hc - (pu_ct.toInt64))])) := ⟨_, rfl⟩
  have he_12 : f_11 pu = .inr (2, [.ref a, .int pu_ct, .int (bI pu_st), .ref pu_ap, .int pu_stt, .int pu_ic, .int mo, .long (hc - (pu_ct.toInt64))]) := by rw [ef_11]; exact va_up_self _ _ _
  have he_13 : f_11 a = .inr (1, [.int a_n, .int a_cy, .long a_g, .long (a_en - ((if pu_st = true then 0 else pu_ct).toInt64)), .long (a_sp + hc), .long a_pd]) := by rw [ef_11, va_up_ne _ _ (Ne.symm ne_pu_a)]; exact he_10
  have hP : va_P (dC, dI) classes (va_pl L f_11) H := by rw [ef_11]; exact hP
  have hD : va_D A (va_pl L f_11) := by rw [ef_11]; exact hD
  refine lv_aload_n hx hb d_Pu_pay_46 rfl (lv_at hl 0 rfl) ?_
  refine lv_dup hx hb d_Pu_pay_47 rfl ?_
  refine fw_get (D := (dC, dI)) (ci := 2) (v := .int pu_ic) (C := R_Pu) (T := F_Pu) (N := 8) hx hb hG iG_Pu hown hK hP hm_pu he_12 rfl 5 (by decide) (hG _ k_200) (fun _ h9 => h9) rfl d_Pu_pay_48 ?_
  refine lv_iconst (v := 1) hx hb d_Pu_pay_51 (by decide) ?_
  refine lv_iadd hx hb d_Pu_pay_52 ?_
  refine fw_put (D := (dC, dI)) (ci := 2) (v := .int (pu_ic + 1)) (ty := .int) (C := R_Pu) (T := F_Pu) (N := 8) hx hb hG iG_Pu t_Pu t_Pu_ok n_Pu hown hK hP hD hS hm_pu he_12 rfl 5 (by decide) (hG _ k_200) (fun _ h9 => h9) rfl (by decide +kernel) rfl rfl (Nat.le_of_ble_eq_true rfl) d_Pu_pay_53 (fun H locs hP hD hS => ?_)
  obtain ⟨f_14, ef_14⟩ : ∃ z, z = va_up f_11 pu (.inr (2, [.ref a, .int pu_ct, .int (bI pu_st), .ref pu_ap, .int pu_stt, .int (pu_ic + 1), .int mo, .long (hc - (pu_ct.toInt64))])) := ⟨_, rfl⟩
  have he_15 : f_14 pu = .inr (2, [.ref a, .int pu_ct, .int (bI pu_st), .ref pu_ap, .int pu_stt, .int (pu_ic + 1), .int mo, .long (hc - (pu_ct.toInt64))]) := by rw [ef_14]; exact va_up_self _ _ _
  have he_16 : f_14 a = .inr (1, [.int a_n, .int a_cy, .long a_g, .long (a_en - ((if pu_st = true then 0 else pu_ct).toInt64)), .long (a_sp + hc), .long a_pd]) := by rw [ef_14, va_up_ne _ _ (Ne.symm ne_pu_a)]; exact he_13
  have hP : va_P (dC, dI) classes (va_pl L f_14) H := by rw [ef_14]; exact hP
  have hD : va_D A (va_pl L f_14) := by rw [ef_14]; exact hD
  refine lv_aload_n hx hb d_Pu_pay_56 rfl (lv_at hl 0 rfl) ?_
  refine fw_get (D := (dC, dI)) (ci := 2) (v := .int (bI pu_st)) (C := R_Pu) (T := F_Pu) (N := 8) hx hb hG iG_Pu hown hK hP hm_pu he_15 rfl 2 (by decide) (hG _ k_195) (fun _ h9 => h9) rfl d_Pu_pay_57 ?_
  refine lb_if_ne (tgt := 68) hx hb d_Pu_pay_60 (by decide) (fun c_17 => ?_) (fun c_17 => ?_)
  · exact W.vret hx hb hr (fun t ht hW => ⟨⟨(L, f_14), rfl, (by rw [ef_14, ef_11, ef_8, ef_5, ef_2] <;> exact fw_same (by intro z; simp only [va_up] <;> grind)), by rw [ht]; exact hP, va_K.moved hW.alike hK, hD⟩, hS.F ht⟩) hS.2.2 d_Pu_pay_68
  · refine lv_aload_n hx hb d_Pu_pay_63 rfl (lv_at hl 0 rfl) ?_
    refine lv_iconst (v := 2) hx hb d_Pu_pay_64 (by decide) ?_
    refine fw_put (D := (dC, dI)) (ci := 2) (v := .int 2) (ty := .int) (C := R_Pu) (T := F_Pu) (N := 8) hx hb hG iG_Pu t_Pu t_Pu_ok n_Pu hown hK hP hD hS hm_pu he_15 rfl 4 (by decide) (hG _ k_198) (fun _ h9 => h9) rfl (by decide +kernel) rfl rfl (Nat.le_of_ble_eq_true rfl) d_Pu_pay_65 (fun H locs hP hD hS => ?_)
    obtain ⟨f_18, ef_18⟩ : ∃ z, z = va_up f_14 pu (.inr (2, [.ref a, .int pu_ct, .int (bI pu_st), .ref pu_ap, .int 2, .int (pu_ic + 1), .int mo, .long (hc - (pu_ct.toInt64))])) := ⟨_, rfl⟩
    have he_19 : f_18 pu = .inr (2, [.ref a, .int pu_ct, .int (bI pu_st), .ref pu_ap, .int 2, .int (pu_ic + 1), .int mo, .long (hc - (pu_ct.toInt64))]) := by rw [ef_18]; exact va_up_self _ _ _
    have he_20 : f_18 a = .inr (1, [.int a_n, .int a_cy, .long a_g, .long (a_en - ((if pu_st = true then 0 else pu_ct).toInt64)), .long (a_sp + hc), .long a_pd]) := by rw [ef_18, va_up_ne _ _ (Ne.symm ne_pu_a)]; exact he_16
    have hP : va_P (dC, dI) classes (va_pl L f_18) H := by rw [ef_18]; exact hP
    have hD : va_D A (va_pl L f_18) := by rw [ef_18]; exact hD
    exact W.vret hx hb hr (fun t ht hW => ⟨⟨(L, f_18), rfl, (by rw [ef_18, ef_14, ef_11, ef_8, ef_5, ef_2] <;> exact fw_same (by intro z; simp only [va_up] <;> grind)), by rw [ht]; exact hP, va_K.moved hW.alike hK, hD⟩, hS.F ht⟩) hS.2.2 d_Pu_pay_68
end
section
theorem d_Mv_happensWithOneMore_0 : decode b_Mv_happensWithOneMore 0 = .ok (.aload_n 0, 1) := by decide +kernel
theorem d_Mv_happensWithOneMore_1 : decode b_Mv_happensWithOneMore 1 = .ok (.getfield 12, 3) := by decide +kernel
theorem d_Mv_happensWithOneMore_4 : decode b_Mv_happensWithOneMore 4 = .ok (.getfield 29, 3) := by decide +kernel
theorem d_Mv_happensWithOneMore_7 : decode b_Mv_happensWithOneMore 7 = .ok (.iconst 1, 1) := by decide +kernel
theorem d_Mv_happensWithOneMore_8 : decode b_Mv_happensWithOneMore 8 = .ok (.iadd, 1) := by decide +kernel
theorem d_Mv_happensWithOneMore_9 : decode b_Mv_happensWithOneMore 9 = .ok (.iconst 2, 1) := by decide +kernel
theorem d_Mv_happensWithOneMore_10 : decode b_Mv_happensWithOneMore 10 = .ok (.if_icmp .lt 23, 3) := by decide +kernel
theorem d_Mv_happensWithOneMore_13 : decode b_Mv_happensWithOneMore 13 = .ok (.aload_n 0, 1) := by decide +kernel
theorem d_Mv_happensWithOneMore_14 : decode b_Mv_happensWithOneMore 14 = .ok (.getfield 18, 3) := by decide +kernel
theorem d_Mv_happensWithOneMore_17 : decode b_Mv_happensWithOneMore 17 = .ok (.invokevirtual 32, 3) := by decide +kernel
theorem d_Mv_happensWithOneMore_20 : decode b_Mv_happensWithOneMore 20 = .ok (.aload_n 0, 1) := by decide +kernel
theorem d_Mv_happensWithOneMore_21 : decode b_Mv_happensWithOneMore 21 = .ok (.getfield 25, 3) := by decide +kernel
theorem d_Mv_happensWithOneMore_24 : decode b_Mv_happensWithOneMore 24 = .ok (.i2l, 1) := by decide +kernel
theorem d_Mv_happensWithOneMore_25 : decode b_Mv_happensWithOneMore 25 = .ok (.lcmp, 1) := by decide +kernel
theorem d_Mv_happensWithOneMore_26 : decode b_Mv_happensWithOneMore 26 = .ok (.ifCond .lt 7, 3) := by decide +kernel
theorem d_Mv_happensWithOneMore_29 : decode b_Mv_happensWithOneMore 29 = .ok (.iconst 1, 1) := by decide +kernel
theorem d_Mv_happensWithOneMore_30 : decode b_Mv_happensWithOneMore 30 = .ok (.goto 4, 3) := by decide +kernel
theorem d_Mv_happensWithOneMore_33 : decode b_Mv_happensWithOneMore 33 = .ok (.iconst 0, 1) := by decide +kernel
theorem d_Mv_happensWithOneMore_34 : decode b_Mv_happensWithOneMore 34 = .ok (.ireturn, 1) := by decide +kernel
set_option maxHeartbeats 4000000 in
set_option maxRecDepth 100000 in
theorem c_Mv_happensWithOneMore (l : Launch) (dC : Nat → ClassId) (dI : Nat → Nat → Nat) (tys : List (ClassId × FieldType)) (L : List Nat) (f : Nat → va_E) (mv : Nat) (a : Nat) (q : Nat) (mv_ct : Int32) (mv_tg : Nat) (mv_hp : Bool) (a_n a_cy : Int32) (a_g a_en a_sp a_pd : Int64) (q_ct : Int32) (q_lo q_hi : Int64) (hm_mv : mv ∈ L) (he_mv : f mv = .inr (3, [.ref a, .ref mv_tg, .int mv_ct, .ref q, .int (bI mv_hp)])) (hm_a : a ∈ L) (he_a : f a = .inr (1, [.int a_n, .int a_cy, .long a_g, .long a_en, .long a_sp, .long a_pd])) (hm_q : q ∈ L) (he_q : f q = .inr (4, [.long q_lo, .long q_hi, .int q_ct])) : Met l y_Mv_happensWithOneMore w_Mv_happensWithOneMore { frames := 1, cells := 0, slots := 0, locals := 20 } (rd_P (dC, dI) classes tys (va_pl L f) [.ref mv]) (vp_Si (fun r => r = bI (decide (¬ q_ct + 1 < 2) && decide (¬ a_g - a_en - a_sp < mv_ct.toInt64)))) 0 0 (fun _ => False) := by
  refine Met.ofW (cc := b_Mv_happensWithOneMore) (maxL := 1) (ret := (some .boolean)) (by decide) rfl ?_
  intro p e s m args below meth c s₁ B hml hv
  obtain ⟨rfl, hP, hK, hN⟩ := hv
  have hx := B.exec
  have hb := B.bytes
  have hr := B.returns
  have hts := atoms_spec (ws := w_Mv_happensWithOneMore) B.pre
  have hG := fun (w : Cond) (h : w ∈ wG) => hts w (List.mem_cons_of_mem _ h)
  have hown : s.vm.findClass R_Mv = some m.cls := findClass_of_methodNamed B.named
  have hlocks := B.notSynchronized
  have hl := lv_entry ([.ref mv]) (n := 1) (Nat.le_of_ble_eq_true rfl)
  rw [lg_entry_eq]
  generalize (lg_sl ([.ref mv]) ++ List.replicate (1 - (lg_sl ([.ref mv])).length) Slot.unset).toArray = ls at hl ⊢
  have hl : lv_has ls 1 [(0, .ref mv)] := hl
  refine lv_aload_n hx hb d_Mv_happensWithOneMore_0 rfl (lv_at hl 0 rfl) ?_
  refine fw_get (D := (dC, dI)) (ci := 3) (v := .ref q) (C := R_Mv) (T := F_Mv) (N := 5) hx hb hG iG_Mv hown hK hP hm_mv he_mv rfl 3 (by decide) (hG _ k_346) (fun _ h9 => h9) rfl d_Mv_happensWithOneMore_1 ?_
  refine fw_getN (D := (dC, dI)) (ci := 4) (v := .int q_ct) (C := R_Ap) (T := F_Ap) (N := 3) hx hb hG iG_Ap hown hK hP hm_q he_q rfl 2 (by decide) (hN.use k_181) (fun _ h9 => h9) rfl d_Mv_happensWithOneMore_4 ?_
  refine lv_iconst (v := 1) hx hb d_Mv_happensWithOneMore_7 (by decide) ?_
  refine lv_iadd hx hb d_Mv_happensWithOneMore_8 ?_
  refine lv_iconst (v := 2) hx hb d_Mv_happensWithOneMore_9 (by decide) ?_
  refine lv_icmp_lt (tgt := 33) hx hb d_Mv_happensWithOneMore_10 (by decide) (fun c_1 => ?_) (fun c_1 => ?_)
  · refine lv_iconst (v := 0) hx hb d_Mv_happensWithOneMore_33 (by decide) ?_
    exact W.zret (v := 0) (ty := .boolean) hx hb hr rfl (fun t ht hW => ⟨_, rfl, (by simp [bI, c_1]), ht⟩) (fun q h => by cases h) d_Mv_happensWithOneMore_34
  · refine lv_aload_n hx hb d_Mv_happensWithOneMore_13 rfl (lv_at hl 0 rfl) ?_
    refine fw_get (D := (dC, dI)) (ci := 3) (v := .ref a) (C := R_Mv) (T := F_Mv) (N := 5) hx hb hG iG_Mv hown hK hP hm_mv he_mv rfl 0 (by decide) (hG _ k_343) (fun _ h9 => h9) rfl d_Mv_happensWithOneMore_14 ?_
    refine rd_calll (va_runV (As := []) (rest := []) ⟨hx, hb, hml, hown, hts⟩ (c_Ac_free l dC dI tys L f a a_n a_cy a_g a_en a_sp a_pd hm_a he_a) (cwV 0 hts (gd_V k_373 k_160 k_161 k_18 k_162) rfl rfl rfl (by decide +kernel) ⟨Nat.le_of_ble_eq_true rfl, Nat.le_of_ble_eq_true rfl⟩) (fw_preV hK hN hP rfl hm_a he_a) rfl rfl hl.1 rfl (lv_room (Nat.le_of_ble_eq_true rfl)) d_Mv_happensWithOneMore_17 ⟨Nat.zero_le _, Nat.zero_le _⟩) (fun r_2 hr_2 => ?_)
    subst hr_2
    refine lv_aload_n hx hb d_Mv_happensWithOneMore_20 rfl (lv_at hl 0 rfl) ?_
    refine fw_get (D := (dC, dI)) (ci := 3) (v := .int mv_ct) (C := R_Mv) (T := F_Mv) (N := 5) hx hb hG iG_Mv hown hK hP hm_mv he_mv rfl 2 (by decide) (hG _ k_345) (fun _ h9 => h9) rfl d_Mv_happensWithOneMore_21 ?_
    refine lv_i2l hx hb d_Mv_happensWithOneMore_24 rfl ?_
    refine lc_lt (tgt := 33) hx hb d_Mv_happensWithOneMore_25 d_Mv_happensWithOneMore_26 (by decide) (fun c_3 => ?_) (fun c_3 => ?_)
    · refine lv_iconst (v := 0) hx hb d_Mv_happensWithOneMore_33 (by decide) ?_
      exact W.zret (v := 0) (ty := .boolean) hx hb hr rfl (fun t ht hW => ⟨_, rfl, (by simp [bI, c_1, c_3]), ht⟩) (fun q h => by cases h) d_Mv_happensWithOneMore_34
    · refine lv_iconst (v := 1) hx hb d_Mv_happensWithOneMore_29 (by decide) ?_
      refine lv_goto (tgt := 34) hx hb d_Mv_happensWithOneMore_30 (by decide) ?_
      exact W.zret (v := 1) (ty := .boolean) hx hb hr rfl (fun t ht hW => ⟨_, rfl, (by simp [bI, c_1, c_3]), ht⟩) (fun q h => by cases h) d_Mv_happensWithOneMore_34

theorem d_Mv_hasRoom_0 : decode b_Mv_hasRoom 0 = .ok (.aload_n 0, 1) := by decide +kernel
theorem d_Mv_hasRoom_1 : decode b_Mv_hasRoom 1 = .ok (.getfield 18, 3) := by decide +kernel
theorem d_Mv_hasRoom_4 : decode b_Mv_hasRoom 4 = .ok (.aload_n 0, 1) := by decide +kernel
theorem d_Mv_hasRoom_5 : decode b_Mv_hasRoom 5 = .ok (.getfield 25, 3) := by decide +kernel
theorem d_Mv_hasRoom_8 : decode b_Mv_hasRoom 8 = .ok (.ineg, 1) := by decide +kernel
theorem d_Mv_hasRoom_9 : decode b_Mv_hasRoom 9 = .ok (.i2l, 1) := by decide +kernel
theorem d_Mv_hasRoom_10 : decode b_Mv_hasRoom 10 = .ok (.lconst 0, 1) := by decide +kernel
theorem d_Mv_hasRoom_11 : decode b_Mv_hasRoom 11 = .ok (.lconst 0, 1) := by decide +kernel
theorem d_Mv_hasRoom_12 : decode b_Mv_hasRoom 12 = .ok (.invokevirtual 38, 3) := by decide +kernel
theorem d_Mv_hasRoom_15 : decode b_Mv_hasRoom 15 = .ok (.ifCond .eq 24, 3) := by decide +kernel
theorem d_Mv_hasRoom_18 : decode b_Mv_hasRoom 18 = .ok (.aload_n 0, 1) := by decide +kernel
theorem d_Mv_hasRoom_19 : decode b_Mv_hasRoom 19 = .ok (.getfield 22, 3) := by decide +kernel
theorem d_Mv_hasRoom_22 : decode b_Mv_hasRoom 22 = .ok (.aload_n 0, 1) := by decide +kernel
theorem d_Mv_hasRoom_23 : decode b_Mv_hasRoom 23 = .ok (.getfield 25, 3) := by decide +kernel
theorem d_Mv_hasRoom_26 : decode b_Mv_hasRoom 26 = .ok (.i2l, 1) := by decide +kernel
theorem d_Mv_hasRoom_27 : decode b_Mv_hasRoom 27 = .ok (.lconst 0, 1) := by decide +kernel
theorem d_Mv_hasRoom_28 : decode b_Mv_hasRoom 28 = .ok (.lconst 0, 1) := by decide +kernel
theorem d_Mv_hasRoom_29 : decode b_Mv_hasRoom 29 = .ok (.invokevirtual 38, 3) := by decide +kernel
theorem d_Mv_hasRoom_32 : decode b_Mv_hasRoom 32 = .ok (.ifCond .eq 7, 3) := by decide +kernel
theorem d_Mv_hasRoom_35 : decode b_Mv_hasRoom 35 = .ok (.iconst 1, 1) := by decide +kernel
theorem d_Mv_hasRoom_36 : decode b_Mv_hasRoom 36 = .ok (.goto 4, 3) := by decide +kernel
theorem d_Mv_hasRoom_39 : decode b_Mv_hasRoom 39 = .ok (.iconst 0, 1) := by decide +kernel
theorem d_Mv_hasRoom_40 : decode b_Mv_hasRoom 40 = .ok (.ireturn, 1) := by decide +kernel
set_option maxHeartbeats 4000000 in
set_option maxRecDepth 100000 in
theorem c_Mv_hasRoom (l : Launch) (dC : Nat → ClassId) (dI : Nat → Nat → Nat) (tys : List (ClassId × FieldType)) (L : List Nat) (f : Nat → va_E) (mv : Nat) (a : Nat) (b : Nat) (mv_ct : Int32) (mv_ap : Nat) (mv_hp : Bool) (a_n a_cy : Int32) (a_g a_en a_sp a_pd : Int64) (b_n b_cy : Int32) (b_g b_en b_sp b_pd : Int64) (hm_mv : mv ∈ L) (he_mv : f mv = .inr (3, [.ref a, .ref b, .int mv_ct, .ref mv_ap, .int (bI mv_hp)])) (hm_a : a ∈ L) (he_a : f a = .inr (1, [.int a_n, .int a_cy, .long a_g, .long a_en, .long a_sp, .long a_pd])) (hm_b : b ∈ L) (he_b : f b = .inr (1, [.int b_n, .int b_cy, .long b_g, .long b_en, .long b_sp, .long b_pd])) : Met l y_Mv_hasRoom w_Mv_hasRoom { frames := 3, cells := 0, slots := 0, locals := 72 } (rd_P (dC, dI) classes tys (va_pl L f) [.ref mv]) (vp_Si (fun r => r = bI ((bnd (a_g + (-mv_ct).toInt64) && bnd (a_en + 0) && bnd (a_sp + 0) && bnd (a_g - a_en - a_sp + (-mv_ct).toInt64 - 0 - 0)) && (bnd (b_g + mv_ct.toInt64) && bnd (b_en + 0) && bnd (b_sp + 0) && bnd (b_g - b_en - b_sp + mv_ct.toInt64 - 0 - 0))))) 0 0 (fun _ => False) := by
  refine Met.ofW (cc := b_Mv_hasRoom) (maxL := 1) (ret := (some .boolean)) (by decide) rfl ?_
  intro p e s m args below meth c s₁ B hml hv
  obtain ⟨rfl, hP, hK, hN⟩ := hv
  have hx := B.exec
  have hb := B.bytes
  have hr := B.returns
  have hts := atoms_spec (ws := w_Mv_hasRoom) B.pre
  have hG := fun (w : Cond) (h : w ∈ wG) => hts w (List.mem_cons_of_mem _ h)
  have hown : s.vm.findClass R_Mv = some m.cls := findClass_of_methodNamed B.named
  have hlocks := B.notSynchronized
  have hl := lv_entry ([.ref mv]) (n := 1) (Nat.le_of_ble_eq_true rfl)
  rw [lg_entry_eq]
  generalize (lg_sl ([.ref mv]) ++ List.replicate (1 - (lg_sl ([.ref mv])).length) Slot.unset).toArray = ls at hl ⊢
  have hl : lv_has ls 1 [(0, .ref mv)] := hl
  refine lv_aload_n hx hb d_Mv_hasRoom_0 rfl (lv_at hl 0 rfl) ?_
  refine fw_get (D := (dC, dI)) (ci := 3) (v := .ref a) (C := R_Mv) (T := F_Mv) (N := 5) hx hb hG iG_Mv hown hK hP hm_mv he_mv rfl 0 (by decide) (hG _ k_343) (fun _ h9 => h9) rfl d_Mv_hasRoom_1 ?_
  refine lv_aload_n hx hb d_Mv_hasRoom_4 rfl (lv_at hl 0 rfl) ?_
  refine fw_get (D := (dC, dI)) (ci := 3) (v := .int mv_ct) (C := R_Mv) (T := F_Mv) (N := 5) hx hb hG iG_Mv hown hK hP hm_mv he_mv rfl 2 (by decide) (hG _ k_345) (fun _ h9 => h9) rfl d_Mv_hasRoom_5 ?_
  refine lv_ineg hx hb d_Mv_hasRoom_8 ?_
  refine lv_i2l hx hb d_Mv_hasRoom_9 rfl ?_
  refine lv_lconst (v := 0) hx hb d_Mv_hasRoom_10 (by decide) ?_
  refine lv_lconst (v := 0) hx hb d_Mv_hasRoom_11 (by decide) ?_
  refine rd_calli (va_runV (As := [.long ((-mv_ct).toInt64), .long 0, .long 0]) (rest := []) ⟨hx, hb, hml, hown, hts⟩ (c_Ac_hasRoomFor l dC dI tys L f a a_n a_cy a_g a_en a_sp a_pd ((-mv_ct).toInt64) 0 0 hm_a he_a) (cwV 3 hts (gd_V k_378 k_151 k_152 k_18 k_153) rfl rfl rfl (by decide +kernel) ⟨Nat.le_of_ble_eq_true rfl, Nat.le_of_ble_eq_true rfl⟩) (fw_preV hK hN hP rfl hm_a he_a) rfl rfl hl.1 rfl (lv_room (Nat.le_of_ble_eq_true rfl)) d_Mv_hasRoom_12 ⟨Nat.zero_le _, Nat.zero_le _⟩) (fun r_1 hr_1 => ?_)
  subst hr_1
  refine lb_if_eq (tgt := 39) hx hb d_Mv_hasRoom_15 (by decide) (fun c_2 => ?_) (fun c_2 => ?_)
  · refine lv_iconst (v := 0) hx hb d_Mv_hasRoom_39 (by decide) ?_
    exact W.zret (v := 0) (ty := .boolean) hx hb hr rfl (fun t ht hW => ⟨_, rfl, (by rw [c_2] <;> rfl), ht⟩) (fun q h => by cases h) d_Mv_hasRoom_40
  · refine lv_aload_n hx hb d_Mv_hasRoom_18 rfl (lv_at hl 0 rfl) ?_
    refine fw_get (D := (dC, dI)) (ci := 3) (v := .ref b) (C := R_Mv) (T := F_Mv) (N := 5) hx hb hG iG_Mv hown hK hP hm_mv he_mv rfl 1 (by decide) (hG _ k_344) (fun _ h9 => h9) rfl d_Mv_hasRoom_19 ?_
    refine lv_aload_n hx hb d_Mv_hasRoom_22 rfl (lv_at hl 0 rfl) ?_
    refine fw_get (D := (dC, dI)) (ci := 3) (v := .int mv_ct) (C := R_Mv) (T := F_Mv) (N := 5) hx hb hG iG_Mv hown hK hP hm_mv he_mv rfl 2 (by decide) (hG _ k_345) (fun _ h9 => h9) rfl d_Mv_hasRoom_23 ?_
    refine lv_i2l hx hb d_Mv_hasRoom_26 rfl ?_
    refine lv_lconst (v := 0) hx hb d_Mv_hasRoom_27 (by decide) ?_
    refine lv_lconst (v := 0) hx hb d_Mv_hasRoom_28 (by decide) ?_
    refine rd_calli (va_runV (As := [.long (mv_ct.toInt64), .long 0, .long 0]) (rest := []) ⟨hx, hb, hml, hown, hts⟩ (c_Ac_hasRoomFor l dC dI tys L f b b_n b_cy b_g b_en b_sp b_pd (mv_ct.toInt64) 0 0 hm_b he_b) (cwV 3 hts (gd_V k_378 k_151 k_152 k_18 k_153) rfl rfl rfl (by decide +kernel) ⟨Nat.le_of_ble_eq_true rfl, Nat.le_of_ble_eq_true rfl⟩) (fw_preV hK hN hP rfl hm_b he_b) rfl rfl hl.1 rfl (lv_room (Nat.le_of_ble_eq_true rfl)) d_Mv_hasRoom_29 ⟨Nat.zero_le _, Nat.zero_le _⟩) (fun r_3 hr_3 => ?_)
    subst hr_3
    refine lb_if_eq (tgt := 39) hx hb d_Mv_hasRoom_32 (by decide) (fun c_4 => ?_) (fun c_4 => ?_)
    · refine lv_iconst (v := 0) hx hb d_Mv_hasRoom_39 (by decide) ?_
      exact W.zret (v := 0) (ty := .boolean) hx hb hr rfl (fun t ht hW => ⟨_, rfl, (by rw [c_2, c_4] <;> rfl), ht⟩) (fun q h => by cases h) d_Mv_hasRoom_40
    · refine lv_iconst (v := 1) hx hb d_Mv_hasRoom_35 (by decide) ?_
      refine lv_goto (tgt := 40) hx hb d_Mv_hasRoom_36 (by decide) ?_
      exact W.zret (v := 1) (ty := .boolean) hx hb hr rfl (fun t ht hW => ⟨_, rfl, (by rw [c_2, c_4] <;> rfl), ht⟩) (fun q h => by cases h) d_Mv_hasRoom_40
end
section
theorem d_Mv_carryOut_0 : decode b_Mv_carryOut 0 = .ok (.aload_n 0, 1) := by decide +kernel
theorem d_Mv_carryOut_1 : decode b_Mv_carryOut 1 = .ok (.getfield 18, 3) := by decide +kernel
theorem d_Mv_carryOut_4 : decode b_Mv_carryOut 4 = .ok (.dup, 1) := by decide +kernel
theorem d_Mv_carryOut_5 : decode b_Mv_carryOut 5 = .ok (.getfield 42, 3) := by decide +kernel
theorem d_Mv_carryOut_8 : decode b_Mv_carryOut 8 = .ok (.aload_n 0, 1) := by decide +kernel
theorem d_Mv_carryOut_9 : decode b_Mv_carryOut 9 = .ok (.getfield 25, 3) := by decide +kernel
theorem d_Mv_carryOut_12 : decode b_Mv_carryOut 12 = .ok (.i2l, 1) := by decide +kernel
theorem d_Mv_carryOut_13 : decode b_Mv_carryOut 13 = .ok (.lsub, 1) := by decide +kernel
theorem d_Mv_carryOut_14 : decode b_Mv_carryOut 14 = .ok (.putfield 42, 3) := by decide +kernel
theorem d_Mv_carryOut_17 : decode b_Mv_carryOut 17 = .ok (.aload_n 0, 1) := by decide +kernel
theorem d_Mv_carryOut_18 : decode b_Mv_carryOut 18 = .ok (.getfield 22, 3) := by decide +kernel
theorem d_Mv_carryOut_21 : decode b_Mv_carryOut 21 = .ok (.dup, 1) := by decide +kernel
theorem d_Mv_carryOut_22 : decode b_Mv_carryOut 22 = .ok (.getfield 42, 3) := by decide +kernel
theorem d_Mv_carryOut_25 : decode b_Mv_carryOut 25 = .ok (.aload_n 0, 1) := by decide +kernel
theorem d_Mv_carryOut_26 : decode b_Mv_carryOut 26 = .ok (.getfield 25, 3) := by decide +kernel
theorem d_Mv_carryOut_29 : decode b_Mv_carryOut 29 = .ok (.i2l, 1) := by decide +kernel
theorem d_Mv_carryOut_30 : decode b_Mv_carryOut 30 = .ok (.ladd, 1) := by decide +kernel
theorem d_Mv_carryOut_31 : decode b_Mv_carryOut 31 = .ok (.putfield 42, 3) := by decide +kernel
theorem d_Mv_carryOut_34 : decode b_Mv_carryOut 34 = .ok (.aload_n 0, 1) := by decide +kernel
theorem d_Mv_carryOut_35 : decode b_Mv_carryOut 35 = .ok (.iconst 1, 1) := by decide +kernel
theorem d_Mv_carryOut_36 : decode b_Mv_carryOut 36 = .ok (.putfield 46, 3) := by decide +kernel
theorem d_Mv_carryOut_39 : decode b_Mv_carryOut 39 = .ok (.return_, 1) := by decide +kernel
set_option maxHeartbeats 4000000 in
set_option maxRecDepth 100000 in
theorem c_Mv_carryOut (l : Launch) (dC : Nat → ClassId) (dI : Nat → Nat → Nat) (tys : List (ClassId × FieldType)) (L : List Nat) (f : Nat → va_E) (sz : Nat) (mv : Nat) (a : Nat) (b : Nat) (mv_ct : Int32) (mv_ap : Nat) (mv_hp : Bool) (a_n a_cy : Int32) (a_g a_en a_sp a_pd : Int64) (b_n b_cy : Int32) (b_g b_en b_sp b_pd : Int64) (hm_mv : mv ∈ L) (he_mv : f mv = .inr (3, [.ref a, .ref b, .int mv_ct, .ref mv_ap, .int (bI mv_hp)])) (hm_a : a ∈ L) (he_a : f a = .inr (1, [.int a_n, .int a_cy, .long a_g, .long a_en, .long a_sp, .long a_pd])) (hm_b : b ∈ L) (he_b : f b = .inr (1, [.int b_n, .int b_cy, .long b_g, .long b_en, .long b_sp, .long b_pd])) (ne_a_b : a ≠ b) : Met l y_Mv_carryOut w_Mv_carryOut { frames := 0, cells := 0, slots := 0, locals := 0 } (mu_P (dC, dI) classes tys (va_pl L f) sz [.ref mv]) (va_Qv (fun u => u = (L, va_up (va_up (va_up f a (.inr (1, [.int a_n, .int a_cy, .long (a_g - mv_ct.toInt64), .long a_en, .long a_sp, .long a_pd]))) b (.inr (1, [.int b_n, .int b_cy, .long (b_g + mv_ct.toInt64), .long b_en, .long b_sp, .long b_pd]))) mv (.inr (3, [.ref a, .ref b, .int mv_ct, .ref mv_ap, .int (bI true)])))) (mu_B (dC, dI) classes tys (va_A (va_pl L f) sz) fw_w) (va_A (va_pl L f) sz)) 0 0 (va_A (va_pl L f) sz) := by
  refine Met.ofW (cc := b_Mv_carryOut) (maxL := 1) (ret := none) (by decide) rfl ?_
  intro p e s m args below meth c s₁ B hml hv
  obtain ⟨rfl, hsz, hP, hK, hD0, hN⟩ := hv
  have hx := B.exec
  have hb := B.bytes
  have hr := B.returns
  have hts := atoms_spec (ws := w_Mv_carryOut) B.pre
  have hG := fun (w : Cond) (h : w ∈ wG) => hts w (List.mem_cons_of_mem _ h)
  have hown : s.vm.findClass R_Mv = some m.cls := findClass_of_methodNamed B.named
  have hlocks := B.notSynchronized
  subst hsz
  have hD := hD0.self (sz := s.heap.size)
  generalize hAe : va_A (va_pl L f) s.heap.size = A at hD ⊢
  have hA : ∀ q : Nat, s.heap.size ≤ q → A q := fun q h => by rw [← hAe]; exact Or.inr h
  have hS : va_S A s.heap s.heap [] := va_S.rf
  have hP : va_P (dC, dI) classes (va_pl L f) s.heap := hP
  have hl := lv_entry ([.ref mv]) (n := 1) (Nat.le_of_ble_eq_true rfl)
  rw [lg_entry_eq]
  generalize (lg_sl ([.ref mv]) ++ List.replicate (1 - (lg_sl ([.ref mv])).length) Slot.unset).toArray = ls at hl ⊢
  have hl : lv_has ls 1 [(0, .ref mv)] := hl
  have ne_mv_a : mv ≠ a := (fw_ne he_mv he_a (show (4 : Nat) ≠ 2 by decide))
  have ne_mv_b : mv ≠ b := (fw_ne he_mv he_b (show (4 : Nat) ≠ 2 by decide))
  refine lv_aload_n hx hb d_Mv_carryOut_0 rfl (lv_at hl 0 rfl) ?_
  refine fw_get (D := (dC, dI)) (ci := 3) (v := .ref a) (C := R_Mv) (T := F_Mv) (N := 5) hx hb hG iG_Mv hown hK hP hm_mv he_mv rfl 0 (by decide) (hG _ k_343) (fun _ h9 => h9) rfl d_Mv_carryOut_1 ?_
  refine lv_dup hx hb d_Mv_carryOut_4 rfl ?_
  refine fw_getN (D := (dC, dI)) (ci := 1) (v := .long a_g) (C := R_Ac) (T := F_Ac) (N := 6) hx hb hG iG_Ac hown hK hP hm_a he_a rfl 2 (by decide) (hN.use k_119) (fun _ h9 => h9) rfl d_Mv_carryOut_5 ?_
  refine lv_aload_n hx hb d_Mv_carryOut_8 rfl (lv_at hl 0 rfl) ?_
  refine fw_get (D := (dC, dI)) (ci := 3) (v := .int mv_ct) (C := R_Mv) (T := F_Mv) (N := 5) hx hb hG iG_Mv hown hK hP hm_mv he_mv rfl 2 (by decide) (hG _ k_345) (fun _ h9 => h9) rfl d_Mv_carryOut_9 ?_
  refine lv_i2l hx hb d_Mv_carryOut_12 rfl ?_
  refine lv_lsub hx hb d_Mv_carryOut_13 ?_
  refine fw_putN (D := (dC, dI)) (ci := 1) (v := .long (a_g - (mv_ct.toInt64))) (ty := .long) (C := R_Ac) (T := F_Ac) (N := 6) hx hb hG iG_Ac t_Ac t_Ac_ok n_Ac hown hK hP hD hS hm_a he_a rfl 2 (by decide) (hN.use k_119) (fun _ h9 => h9) rfl (by decide +kernel) rfl rfl (Nat.le_of_ble_eq_true rfl) d_Mv_carryOut_14 (fun H locs hP hD hS => ?_)
  obtain ⟨f_1, ef_1⟩ : ∃ z, z = va_up f a (.inr (1, [.int a_n, .int a_cy, .long (a_g - (mv_ct.toInt64)), .long a_en, .long a_sp, .long a_pd])) := ⟨_, rfl⟩
  have he_2 : f_1 mv = .inr (3, [.ref a, .ref b, .int mv_ct, .ref mv_ap, .int (bI mv_hp)]) := by rw [ef_1, va_up_ne _ _ ne_mv_a]; exact he_mv
  have he_3 : f_1 a = .inr (1, [.int a_n, .int a_cy, .long (a_g - (mv_ct.toInt64)), .long a_en, .long a_sp, .long a_pd]) := by rw [ef_1]; exact va_up_self _ _ _
  have he_4 : f_1 b = .inr (1, [.int b_n, .int b_cy, .long b_g, .long b_en, .long b_sp, .long b_pd]) := by rw [ef_1, va_up_ne _ _ (Ne.symm ne_a_b)]; exact he_b
  have hP : va_P (dC, dI) classes (va_pl L f_1) H := by rw [ef_1]; exact hP
  have hD : va_D A (va_pl L f_1) := by rw [ef_1]; exact hD
  refine lv_aload_n hx hb d_Mv_carryOut_17 rfl (lv_at hl 0 rfl) ?_
  refine fw_get (D := (dC, dI)) (ci := 3) (v := .ref b) (C := R_Mv) (T := F_Mv) (N := 5) hx hb hG iG_Mv hown hK hP hm_mv he_2 rfl 1 (by decide) (hG _ k_344) (fun _ h9 => h9) rfl d_Mv_carryOut_18 ?_
  refine lv_dup hx hb d_Mv_carryOut_21 rfl ?_
  refine fw_getN (D := (dC, dI)) (ci := 1) (v := .long b_g) (C := R_Ac) (T := F_Ac) (N := 6) hx hb hG iG_Ac hown hK hP hm_b he_4 rfl 2 (by decide) (hN.use k_119) (fun _ h9 => h9) rfl d_Mv_carryOut_22 ?_
  refine lv_aload_n hx hb d_Mv_carryOut_25 rfl (lv_at hl 0 rfl) ?_
  refine fw_get (D := (dC, dI)) (ci := 3) (v := .int mv_ct) (C := R_Mv) (T := F_Mv) (N := 5) hx hb hG iG_Mv hown hK hP hm_mv he_2 rfl 2 (by decide) (hG _ k_345) (fun _ h9 => h9) rfl d_Mv_carryOut_26 ?_
  refine lv_i2l hx hb d_Mv_carryOut_29 rfl ?_
  refine lv_ladd hx hb d_Mv_carryOut_30 ?_
  refine fw_putN (D := (dC, dI)) (ci := 1) (v := .long (b_g + (mv_ct.toInt64))) (ty := .long) (C := R_Ac) (T := F_Ac) (N := 6) hx hb hG iG_Ac t_Ac t_Ac_ok n_Ac hown hK hP hD hS hm_b he_4 rfl 2 (by decide) (hN.use k_119) (fun _ h9 => h9) rfl (by decide +kernel) rfl rfl (Nat.le_of_ble_eq_true rfl) d_Mv_carryOut_31 (fun H locs hP hD hS => ?_)
  obtain ⟨f_5, ef_5⟩ : ∃ z, z = va_up f_1 b (.inr (1, [.int b_n, .int b_cy, .long (b_g + (mv_ct.toInt64)), .long b_en, .long b_sp, .long b_pd])) := ⟨_, rfl⟩
  have he_6 : f_5 mv = .inr (3, [.ref a, .ref b, .int mv_ct, .ref mv_ap, .int (bI mv_hp)]) := by rw [ef_5, va_up_ne _ _ ne_mv_b]; exact he_2
  have he_7 : f_5 a = .inr (1, [.int a_n, .int a_cy, .long (a_g - (mv_ct.toInt64)), .long a_en, .long a_sp, .long a_pd]) := by rw [ef_5, va_up_ne _ _ ne_a_b]; exact he_3
  have he_8 : f_5 b = .inr (1, [.int b_n, .int b_cy, .long (b_g + (mv_ct.toInt64)), .long b_en, .long b_sp, .long b_pd]) := by rw [ef_5]; exact va_up_self _ _ _
  have hP : va_P (dC, dI) classes (va_pl L f_5) H := by rw [ef_5]; exact hP
  have hD : va_D A (va_pl L f_5) := by rw [ef_5]; exact hD
  refine lv_aload_n hx hb d_Mv_carryOut_34 rfl (lv_at hl 0 rfl) ?_
  refine lv_iconst (v := 1) hx hb d_Mv_carryOut_35 (by decide) ?_
  refine fw_put (D := (dC, dI)) (ci := 3) (v := .int 1) (ty := .boolean) (C := R_Mv) (T := F_Mv) (N := 5) hx hb hG iG_Mv t_Mv t_Mv_ok n_Mv hown hK hP hD hS hm_mv he_6 rfl 4 (by decide) (hG _ k_348) (fun _ h9 => h9) rfl (by decide +kernel) rfl rfl (Nat.le_of_ble_eq_true rfl) d_Mv_carryOut_36 (fun H locs hP hD hS => ?_)
  obtain ⟨f_9, ef_9⟩ : ∃ z, z = va_up f_5 mv (.inr (3, [.ref a, .ref b, .int mv_ct, .ref mv_ap, .int (bI true)])) := ⟨_, rfl⟩
  have he_10 : f_9 mv = .inr (3, [.ref a, .ref b, .int mv_ct, .ref mv_ap, .int (bI true)]) := by rw [ef_9]; exact va_up_self _ _ _
  have he_11 : f_9 a = .inr (1, [.int a_n, .int a_cy, .long (a_g - (mv_ct.toInt64)), .long a_en, .long a_sp, .long a_pd]) := by rw [ef_9, va_up_ne _ _ (Ne.symm ne_mv_a)]; exact he_7
  have he_12 : f_9 b = .inr (1, [.int b_n, .int b_cy, .long (b_g + (mv_ct.toInt64)), .long b_en, .long b_sp, .long b_pd]) := by rw [ef_9, va_up_ne _ _ (Ne.symm ne_mv_b)]; exact he_8
  have hP : va_P (dC, dI) classes (va_pl L f_9) H := by rw [ef_9]; exact hP
  have hD : va_D A (va_pl L f_9) := by rw [ef_9]; exact hD
  exact W.vret hx hb hr (fun t ht hW => ⟨⟨(L, f_9), rfl, (by rw [ef_9, ef_5, ef_1] <;> exact fw_same (by intro z; simp only [va_up] <;> grind)), by rw [ht]; exact hP, va_K.moved hW.alike hK, hD⟩, hS.F ht⟩) hS.2.2 d_Mv_carryOut_39
end
section
theorem d_Ra_inHouse_0 : decode b_Ra_inHouse 0 = .ok (.iload_n 1, 1) := by decide +kernel
theorem d_Ra_inHouse_1 : decode b_Ra_inHouse 1 = .ok (.i2l, 1) := by decide +kernel
theorem d_Ra_inHouse_2 : decode b_Ra_inHouse 2 = .ok (.aload_n 0, 1) := by decide +kernel
theorem d_Ra_inHouse_3 : decode b_Ra_inHouse 3 = .ok (.getfield 13, 3) := by decide +kernel
theorem d_Ra_inHouse_6 : decode b_Ra_inHouse 6 = .ok (.i2l, 1) := by decide +kernel
theorem d_Ra_inHouse_7 : decode b_Ra_inHouse 7 = .ok (.lmul, 1) := by decide +kernel
theorem d_Ra_inHouse_8 : decode b_Ra_inHouse 8 = .ok (.aload_n 0, 1) := by decide +kernel
theorem d_Ra_inHouse_9 : decode b_Ra_inHouse 9 = .ok (.getfield 22, 3) := by decide +kernel
theorem d_Ra_inHouse_12 : decode b_Ra_inHouse 12 = .ok (.i2l, 1) := by decide +kernel
theorem d_Ra_inHouse_13 : decode b_Ra_inHouse 13 = .ok (.ldiv, 1) := by decide +kernel
theorem d_Ra_inHouse_14 : decode b_Ra_inHouse 14 = .ok (.lreturn, 1) := by decide +kernel
set_option maxHeartbeats 4000000 in
set_option maxRecDepth 100000 in
theorem c_Ra_inHouse (l : Launch) (dC : Nat → ClassId) (dI : Nat → Nat → Nat) (tys : List (ClassId × FieldType)) (L : List Nat) (f : Nat → va_E) (ra : Nat) (ra_dy ra_up ra_dn ra_rk : Int32) (ra_ea : Option Nat) (ct : Int32) (hm_ra : ra ∈ L) (he_ra : f ra = .inr (5, [.int ra_dy, .int ra_up, .int ra_dn, va_rf ra_ea, .int ra_rk])) (hdn : ¬ ra_dn.toInt64 = 0) : Met l y_Ra_inHouse w_Ra_inHouse { frames := 0, cells := 0, slots := 0, locals := 0 } (rd_P (dC, dI) classes tys (va_pl L f) [.ref ra, .int ct]) (vp_Sl (fun r => r = ct.toInt64 * ra_up.toInt64 / ra_dn.toInt64)) 0 0 (fun _ => False) := by
  refine Met.ofW (cc := b_Ra_inHouse) (maxL := 2) (ret := (some .long)) (by decide) rfl ?_
  intro p e s m args below meth c s₁ B hml hv
  obtain ⟨rfl, hP, hK, hN⟩ := hv
  have hx := B.exec
  have hb := B.bytes
  have hr := B.returns
  have hts := atoms_spec (ws := w_Ra_inHouse) B.pre
  have hG := fun (w : Cond) (h : w ∈ wG) => hts w (List.mem_cons_of_mem _ h)
  have hown : s.vm.findClass R_Ra = some m.cls := findClass_of_methodNamed B.named
  have hlocks := B.notSynchronized
  have hl := lv_entry ([.ref ra, .int ct]) (n := 2) (Nat.le_of_ble_eq_true rfl)
  rw [lg_entry_eq]
  generalize (lg_sl ([.ref ra, .int ct]) ++ List.replicate (2 - (lg_sl ([.ref ra, .int ct])).length) Slot.unset).toArray = ls at hl ⊢
  have hl : lv_has ls 2 [(0, .ref ra), (1, .int ct)] := hl
  refine lv_iload_n hx hb d_Ra_inHouse_0 rfl (lv_at hl 1 rfl) ?_
  refine lv_i2l hx hb d_Ra_inHouse_1 rfl ?_
  refine lv_aload_n hx hb d_Ra_inHouse_2 rfl (lv_at hl 0 rfl) ?_
  refine fw_get (D := (dC, dI)) (ci := 5) (v := .int ra_up) (C := R_Ra) (T := F_Ra) (N := 5) hx hb hG iG_Ra hown hK hP hm_ra he_ra rfl 1 (by decide) (hG _ k_315) (fun _ h9 => h9) rfl d_Ra_inHouse_3 ?_
  refine lv_i2l hx hb d_Ra_inHouse_6 rfl ?_
  refine lv_lmul hx hb d_Ra_inHouse_7 ?_
  refine lv_aload_n hx hb d_Ra_inHouse_8 rfl (lv_at hl 0 rfl) ?_
  refine fw_get (D := (dC, dI)) (ci := 5) (v := .int ra_dn) (C := R_Ra) (T := F_Ra) (N := 5) hx hb hG iG_Ra hown hK hP hm_ra he_ra rfl 2 (by decide) (hG _ k_316) (fun _ h9 => h9) rfl d_Ra_inHouse_9 ?_
  refine lv_i2l hx hb d_Ra_inHouse_12 rfl ?_
  refine lv_ldiv hx hb d_Ra_inHouse_13 hdn ?_
  exact W.lret (v := (((ct.toInt64) * (ra_up.toInt64)) / (ra_dn.toInt64))) hx hb hr (fun t ht hW => ⟨_, rfl, rfl, ht⟩) (fun q h => by cases h) d_Ra_inHouse_14

theorem d_Ba_isFull_0 : decode b_Ba_isFull 0 = .ok (.aload_n 0, 1) := by decide +kernel
theorem d_Ba_isFull_1 : decode b_Ba_isFull 1 = .ok (.getfield 17, 3) := by decide +kernel
theorem d_Ba_isFull_4 : decode b_Ba_isFull 4 = .ok (.aload_n 0, 1) := by decide +kernel
theorem d_Ba_isFull_5 : decode b_Ba_isFull 5 = .ok (.getfield 11, 3) := by decide +kernel
theorem d_Ba_isFull_8 : decode b_Ba_isFull 8 = .ok (.arraylength, 1) := by decide +kernel
theorem d_Ba_isFull_9 : decode b_Ba_isFull 9 = .ok (.if_icmp .lt 7, 3) := by decide +kernel
theorem d_Ba_isFull_12 : decode b_Ba_isFull 12 = .ok (.iconst 1, 1) := by decide +kernel
theorem d_Ba_isFull_13 : decode b_Ba_isFull 13 = .ok (.goto 4, 3) := by decide +kernel
theorem d_Ba_isFull_16 : decode b_Ba_isFull 16 = .ok (.iconst 0, 1) := by decide +kernel
theorem d_Ba_isFull_17 : decode b_Ba_isFull 17 = .ok (.ireturn, 1) := by decide +kernel
set_option maxHeartbeats 4000000 in
set_option maxRecDepth 100000 in
theorem c_Ba_isFull (l : Launch) (dC : Nat → ClassId) (dI : Nat → Nat → Nat) (tys : List (ClassId × FieldType)) (L : List Nat) (f : Nat → va_E) (t : Nat) (x : Nat) (t_ct : Int32) (t_tt : Int64) (x_c : ClassId) (x_g : Nat → Option Nat) (hm_t : t ∈ L) (he_t : f t = .inr (6, [.ref x, .int t_ct, .long t_tt])) (hm_x : x ∈ L) (he_x : f x = .inl (x_c, 20, .inr (.inr (.inr (.inr x_g))))) (ht_x : tys[4]? = some (x_c, .object "FundBook$Account")) : Met l y_Ba_isFull w_Ba_isFull { frames := 0, cells := 0, slots := 0, locals := 0 } (rd_P (dC, dI) classes tys (va_pl L f) [.ref t]) (vp_Si (fun r => r = bI (decide (¬ t_ct < nI 20)))) 0 0 (fun _ => False) := by
  refine Met.ofW (cc := b_Ba_isFull) (maxL := 1) (ret := (some .boolean)) (by decide) rfl ?_
  intro p e s m args below meth c s₁ B hml hv
  obtain ⟨rfl, hP, hK, hN⟩ := hv
  have hx := B.exec
  have hb := B.bytes
  have hr := B.returns
  have hts := atoms_spec (ws := w_Ba_isFull) B.pre
  have hG := fun (w : Cond) (h : w ∈ wG) => hts w (List.mem_cons_of_mem _ h)
  have hown : s.vm.findClass R_Ba = some m.cls := findClass_of_methodNamed B.named
  have hlocks := B.notSynchronized
  have hl := lv_entry ([.ref t]) (n := 1) (Nat.le_of_ble_eq_true rfl)
  rw [lg_entry_eq]
  generalize (lg_sl ([.ref t]) ++ List.replicate (1 - (lg_sl ([.ref t])).length) Slot.unset).toArray = ls at hl ⊢
  have hl : lv_has ls 1 [(0, .ref t)] := hl
  refine lv_aload_n hx hb d_Ba_isFull_0 rfl (lv_at hl 0 rfl) ?_
  refine fw_get (D := (dC, dI)) (ci := 6) (v := .int t_ct) (C := R_Ba) (T := F_Ba) (N := 3) hx hb hG iG_Ba hown hK hP hm_t he_t rfl 1 (by decide) (hG _ k_51) (fun _ h9 => h9) rfl d_Ba_isFull_1 ?_
  refine lv_aload_n hx hb d_Ba_isFull_4 rfl (lv_at hl 0 rfl) ?_
  refine fw_get (D := (dC, dI)) (ci := 6) (v := .ref x) (C := R_Ba) (T := F_Ba) (N := 3) hx hb hG iG_Ba hown hK hP hm_t he_t rfl 0 (by decide) (hG _ k_50) (fun _ h9 => h9) rfl d_Ba_isFull_5 ?_
  refine fw_alen (D := (dC, dI)) (v := nI 20) hx hb hK hP hm_x 4 he_x ht_x rfl d_Ba_isFull_8 ?_
  refine lv_icmp_lt (tgt := 16) hx hb d_Ba_isFull_9 (by decide) (fun c_1 => ?_) (fun c_1 => ?_)
  · refine lv_iconst (v := 0) hx hb d_Ba_isFull_16 (by decide) ?_
    exact W.zret (v := 0) (ty := .boolean) hx hb hr rfl (fun t ht hW => ⟨_, rfl, (by simp [bI, c_1]), ht⟩) (fun q h => by cases h) d_Ba_isFull_17
  · refine lv_iconst (v := 1) hx hb d_Ba_isFull_12 (by decide) ?_
    refine lv_goto (tgt := 17) hx hb d_Ba_isFull_13 (by decide) ?_
    exact W.zret (v := 1) (ty := .boolean) hx hb hr rfl (fun t ht hW => ⟨_, rfl, (by simp [bI, c_1]), ht⟩) (fun q h => by cases h) d_Ba_isFull_17
end
section
theorem d_Ac_init_0 : decode b_Ac_init 0 = .ok (.aload_n 0, 1) := by decide +kernel
theorem d_Ac_init_1 : decode b_Ac_init 1 = .ok (.invokespecial 3, 3) := by decide +kernel
theorem d_Ac_init_4 : decode b_Ac_init 4 = .ok (.aload_n 0, 1) := by decide +kernel
theorem d_Ac_init_5 : decode b_Ac_init 5 = .ok (.iload_n 1, 1) := by decide +kernel
theorem d_Ac_init_6 : decode b_Ac_init 6 = .ok (.putfield 9, 3) := by decide +kernel
theorem d_Ac_init_9 : decode b_Ac_init 9 = .ok (.aload_n 0, 1) := by decide +kernel
theorem d_Ac_init_10 : decode b_Ac_init 10 = .ok (.iload_n 2, 1) := by decide +kernel
theorem d_Ac_init_11 : decode b_Ac_init 11 = .ok (.putfield 15, 3) := by decide +kernel
theorem d_Ac_init_14 : decode b_Ac_init 14 = .ok (.return_, 1) := by decide +kernel
set_option maxHeartbeats 4000000 in
set_option maxRecDepth 100000 in
theorem c_Ac_init (l : Launch) (dC : Nat → ClassId) (dI : Nat → Nat → Nat) (tys : List (ClassId × FieldType)) (L : List Nat) (f : Nat → va_E) (sz : Nat) (a : Nat) (a_n a_cy : Int32) (a_g a_en a_sp a_pd : Int64) (nu : Int32) (cr : Int32) (hm_a : a ∈ L) (he_a : f a = .inr (1, [.int a_n, .int a_cy, .long a_g, .long a_en, .long a_sp, .long a_pd])) : Met l y_Ac_init w_Ac_init { frames := 1, cells := 0, slots := 0, locals := 12 } (mu_P (dC, dI) classes tys (va_pl L f) sz [.ref a, .int nu, .int cr]) (va_Qv (fun u => u = (L, va_up f a (.inr (1, [.int nu, .int cr, .long a_g, .long a_en, .long a_sp, .long a_pd])))) (mu_B (dC, dI) classes tys (va_A (va_pl L f) sz) fw_w) (va_A (va_pl L f) sz)) 0 0 (va_A (va_pl L f) sz) := by
  refine Met.ofW (cc := b_Ac_init) (maxL := 3) (ret := none) (by decide) rfl ?_
  intro p e s m args below meth c s₁ B hml hv
  obtain ⟨rfl, hsz, hP, hK, hD0, hN⟩ := hv
  have hx := B.exec
  have hb := B.bytes
  have hr := B.returns
  have hts := atoms_spec (ws := w_Ac_init) B.pre
  have hG := fun (w : Cond) (h : w ∈ wG) => hts w (List.mem_cons_of_mem _ h)
  have hown : s.vm.findClass R_Ac = some m.cls := findClass_of_methodNamed B.named
  have hlocks := B.notSynchronized
  have hin : meth.name = "<init>" := (name_of_methodNamed B.named B.method).1
  subst hsz
  have hD := hD0.self (sz := s.heap.size)
  generalize hAe : va_A (va_pl L f) s.heap.size = A at hD ⊢
  have hA : ∀ q : Nat, s.heap.size ≤ q → A q := fun q h => by rw [← hAe]; exact Or.inr h
  have hS : va_S A s.heap s.heap [] := va_S.rf
  have hP : va_P (dC, dI) classes (va_pl L f) s.heap := hP
  have hl := lv_entry ([.ref a, .int nu, .int cr]) (n := 3) (Nat.le_of_ble_eq_true rfl)
  rw [lg_entry_eq]
  generalize (lg_sl ([.ref a, .int nu, .int cr]) ++ List.replicate (3 - (lg_sl ([.ref a, .int nu, .int cr])).length) Slot.unset).toArray = ls at hl ⊢
  have hl : lv_has ls 3 [(0, .ref a), (1, .int nu), (2, .int cr)] := hl
  refine lv_aload_n hx hb d_Ac_init_0 rfl (lv_at hl 0 rfl) ?_
  refine W.objInit hx hb hown (hG _ k_113) (hG _ k_33) (hG _ k_34) rfl (by rw [hml]; exact hl.1) rfl d_Ac_init_1 (Nat.le_of_ble_eq_true rfl) (Nat.le_of_ble_eq_true rfl) ?_
  refine W.eq (g2 := F0 m 4 ls []) rfl ?_
  refine lv_aload_n hx hb d_Ac_init_4 rfl (lv_at hl 0 rfl) ?_
  refine lv_iload_n hx hb d_Ac_init_5 rfl (lv_at hl 1 rfl) ?_
  refine fw_putF (D := (dC, dI)) (ci := 1) (v := .int nu) (ty := .int) (C := R_Ac) (T := F_Ac) (N := 6) hx hb hG iG_Ac t_Ac t_Ac_ok n_Ac hown hK hP hD hS hm_a he_a rfl 0 (by decide) (hG _ k_114) (fun _ h9 => h9) rfl hin rfl (by decide +kernel) rfl rfl (Nat.le_of_ble_eq_true rfl) d_Ac_init_6 (fun H locs hP hD hS => ?_)
  obtain ⟨f_1, ef_1⟩ : ∃ z, z = va_up f a (.inr (1, [.int nu, .int a_cy, .long a_g, .long a_en, .long a_sp, .long a_pd])) := ⟨_, rfl⟩
  have he_2 : f_1 a = .inr (1, [.int nu, .int a_cy, .long a_g, .long a_en, .long a_sp, .long a_pd]) := by rw [ef_1]; exact va_up_self _ _ _
  have hP : va_P (dC, dI) classes (va_pl L f_1) H := by rw [ef_1]; exact hP
  have hD : va_D A (va_pl L f_1) := by rw [ef_1]; exact hD
  refine lv_aload_n hx hb d_Ac_init_9 rfl (lv_at hl 0 rfl) ?_
  refine lv_iload_n hx hb d_Ac_init_10 rfl (lv_at hl 2 rfl) ?_
  refine fw_putF (D := (dC, dI)) (ci := 1) (v := .int cr) (ty := .int) (C := R_Ac) (T := F_Ac) (N := 6) hx hb hG iG_Ac t_Ac t_Ac_ok n_Ac hown hK hP hD hS hm_a he_2 rfl 1 (by decide) (hG _ k_116) (fun _ h9 => h9) rfl hin rfl (by decide +kernel) rfl rfl (Nat.le_of_ble_eq_true rfl) d_Ac_init_11 (fun H locs hP hD hS => ?_)
  obtain ⟨f_3, ef_3⟩ : ∃ z, z = va_up f_1 a (.inr (1, [.int nu, .int cr, .long a_g, .long a_en, .long a_sp, .long a_pd])) := ⟨_, rfl⟩
  have he_4 : f_3 a = .inr (1, [.int nu, .int cr, .long a_g, .long a_en, .long a_sp, .long a_pd]) := by rw [ef_3]; exact va_up_self _ _ _
  have hP : va_P (dC, dI) classes (va_pl L f_3) H := by rw [ef_3]; exact hP
  have hD : va_D A (va_pl L f_3) := by rw [ef_3]; exact hD
  exact W.vret hx hb hr (fun t ht hW => ⟨⟨(L, f_3), rfl, (by rw [ef_3, ef_1] <;> exact fw_same (by intro z; simp only [va_up] <;> grind)), by rw [ht]; exact hP, va_K.moved hW.alike hK, hD⟩, hS.F ht⟩) hS.2.2 d_Ac_init_14

theorem d_Ap_init_0 : decode b_Ap_init 0 = .ok (.aload_n 0, 1) := by decide +kernel
theorem d_Ap_init_1 : decode b_Ap_init 1 = .ok (.invokespecial 1, 3) := by decide +kernel
theorem d_Ap_init_4 : decode b_Ap_init 4 = .ok (.return_, 1) := by decide +kernel
set_option maxHeartbeats 4000000 in
set_option maxRecDepth 100000 in
theorem c_Ap_init (l : Launch) (dC : Nat → ClassId) (dI : Nat → Nat → Nat) (tys : List (ClassId × FieldType)) (L : List Nat) (f : Nat → va_E) (sz : Nat) (q : Nat) (q_ct : Int32) (q_lo q_hi : Int64) (hm_q : q ∈ L) (he_q : f q = .inr (4, [.long q_lo, .long q_hi, .int q_ct])) : Met l y_Ap_init w_Ap_init { frames := 1, cells := 0, slots := 0, locals := 12 } (mu_P (dC, dI) classes tys (va_pl L f) sz [.ref q]) (va_Qv (fun u => u = (L, f)) (mu_B (dC, dI) classes tys (va_A (va_pl L f) sz) fw_w) (va_A (va_pl L f) sz)) 0 0 (va_A (va_pl L f) sz) := by
  refine Met.ofW (cc := b_Ap_init) (maxL := 1) (ret := none) (by decide) rfl ?_
  intro p e s m args below meth c s₁ B hml hv
  obtain ⟨rfl, hsz, hP, hK, hD0, hN⟩ := hv
  have hx := B.exec
  have hb := B.bytes
  have hr := B.returns
  have hts := atoms_spec (ws := w_Ap_init) B.pre
  have hG := fun (w : Cond) (h : w ∈ wG) => hts w (List.mem_cons_of_mem _ h)
  have hown : s.vm.findClass R_Ap = some m.cls := findClass_of_methodNamed B.named
  have hlocks := B.notSynchronized
  have hin : meth.name = "<init>" := (name_of_methodNamed B.named B.method).1
  subst hsz
  have hD := hD0.self (sz := s.heap.size)
  generalize hAe : va_A (va_pl L f) s.heap.size = A at hD ⊢
  have hA : ∀ q : Nat, s.heap.size ≤ q → A q := fun q h => by rw [← hAe]; exact Or.inr h
  have hS : va_S A s.heap s.heap [] := va_S.rf
  have hP : va_P (dC, dI) classes (va_pl L f) s.heap := hP
  have hl := lv_entry ([.ref q]) (n := 1) (Nat.le_of_ble_eq_true rfl)
  rw [lg_entry_eq]
  generalize (lg_sl ([.ref q]) ++ List.replicate (1 - (lg_sl ([.ref q])).length) Slot.unset).toArray = ls at hl ⊢
  have hl : lv_has ls 1 [(0, .ref q)] := hl
  refine lv_aload_n hx hb d_Ap_init_0 rfl (lv_at hl 0 rfl) ?_
  refine W.objInit hx hb hown (hG _ k_178) (hG _ k_33) (hG _ k_34) rfl (by rw [hml]; exact hl.1) rfl d_Ap_init_1 (Nat.le_of_ble_eq_true rfl) (Nat.le_of_ble_eq_true rfl) ?_
  refine W.eq (g2 := F0 m 4 ls []) rfl ?_
  exact W.vret hx hb hr (fun t ht hW => ⟨⟨(L, f), rfl, rfl, by rw [ht]; exact hP, va_K.moved hW.alike hK, hD⟩, hS.F ht⟩) hS.2.2 d_Ap_init_4

theorem d_Pu_init_0 : decode b_Pu_init 0 = .ok (.aload_n 0, 1) := by decide +kernel
theorem d_Pu_init_1 : decode b_Pu_init 1 = .ok (.invokespecial 3, 3) := by decide +kernel
theorem d_Pu_init_4 : decode b_Pu_init 4 = .ok (.aload_n 0, 1) := by decide +kernel
theorem d_Pu_init_5 : decode b_Pu_init 5 = .ok (.new 9, 3) := by decide +kernel
theorem d_Pu_init_8 : decode b_Pu_init 8 = .ok (.dup, 1) := by decide +kernel
theorem d_Pu_init_9 : decode b_Pu_init 9 = .ok (.invokespecial 11, 3) := by decide +kernel
theorem d_Pu_init_12 : decode b_Pu_init 12 = .ok (.putfield 12, 3) := by decide +kernel
theorem d_Pu_init_15 : decode b_Pu_init 15 = .ok (.aload_n 0, 1) := by decide +kernel
theorem d_Pu_init_16 : decode b_Pu_init 16 = .ok (.iconst 0, 1) := by decide +kernel
theorem d_Pu_init_17 : decode b_Pu_init 17 = .ok (.putfield 18, 3) := by decide +kernel
theorem d_Pu_init_20 : decode b_Pu_init 20 = .ok (.aload_n 0, 1) := by decide +kernel
theorem d_Pu_init_21 : decode b_Pu_init 21 = .ok (.iconst (-1), 1) := by decide +kernel
theorem d_Pu_init_22 : decode b_Pu_init 22 = .ok (.putfield 22, 3) := by decide +kernel
theorem d_Pu_init_25 : decode b_Pu_init 25 = .ok (.aload_n 0, 1) := by decide +kernel
theorem d_Pu_init_26 : decode b_Pu_init 26 = .ok (.aload_n 1, 1) := by decide +kernel
theorem d_Pu_init_27 : decode b_Pu_init 27 = .ok (.putfield 25, 3) := by decide +kernel
theorem d_Pu_init_30 : decode b_Pu_init 30 = .ok (.aload_n 0, 1) := by decide +kernel
theorem d_Pu_init_31 : decode b_Pu_init 31 = .ok (.iload_n 2, 1) := by decide +kernel
theorem d_Pu_init_32 : decode b_Pu_init 32 = .ok (.putfield 29, 3) := by decide +kernel
theorem d_Pu_init_35 : decode b_Pu_init 35 = .ok (.aload_n 0, 1) := by decide +kernel
theorem d_Pu_init_36 : decode b_Pu_init 36 = .ok (.iload_n 3, 1) := by decide +kernel
theorem d_Pu_init_37 : decode b_Pu_init 37 = .ok (.putfield 32, 3) := by decide +kernel
theorem d_Pu_init_40 : decode b_Pu_init 40 = .ok (.return_, 1) := by decide +kernel
set_option maxHeartbeats 4000000 in
set_option maxRecDepth 100000 in
theorem c_Pu_init (l : Launch) (dC : Nat → ClassId) (dI : Nat → Nat → Nat) (tys : List (ClassId × FieldType)) (L : List Nat) (f : Nat → va_E) (sz : Nat) (pu : Nat) (pu_ct pu_stt pu_ic pu_lm : Int32) (pu_lx : Int64) (pu_st : Bool) (a0 : Nat) (ct : Int32) (st : Bool) (hm_pu : pu ∈ L) (he_pu : f pu = .inr (2, [.null, .int pu_ct, .int (bI pu_st), .null, .int pu_stt, .int pu_ic, .int pu_lm, .long pu_lx])) : Met l y_Pu_init w_Pu_init { frames := 2, cells := 1, slots := 3, locals := 32 } (mu_P (dC, dI) classes tys (va_pl L f) sz [.ref pu, .ref a0, .int ct, .int (bI st)]) (va_Qv (fun u => ∃ q0 : Nat, q0 ∉ L ∧ u = (L ++ [q0], va_up (va_up f pu (.inr (2, [.ref a0, .int ct, .int (bI st), .ref q0, .int 0, .int pu_ic, .int (-1), .long pu_lx]))) q0 (.inr (4, [.long 0, .long 0, .int 0])))) (mu_B (dC, dI) classes tys (va_A (va_pl L f) sz) fw_w) (va_A (va_pl L f) sz)) 1 3 (va_A (va_pl L f) sz) := by
  refine Met.ofW (cc := b_Pu_init) (maxL := 4) (ret := none) (by decide) rfl ?_
  intro p e s m args below meth c s₁ B hml hv
  obtain ⟨rfl, hsz, hP, hK, hD0, hN⟩ := hv
  have hx := B.exec
  have hb := B.bytes
  have hr := B.returns
  have hts := atoms_spec (ws := w_Pu_init) B.pre
  have hG := fun (w : Cond) (h : w ∈ wG) => hts w (List.mem_cons_of_mem _ h)
  have hown : s.vm.findClass R_Pu = some m.cls := findClass_of_methodNamed B.named
  have hlocks := B.notSynchronized
  have hin : meth.name = "<init>" := (name_of_methodNamed B.named B.method).1
  subst hsz
  have hD := hD0.self (sz := s.heap.size)
  generalize hAe : va_A (va_pl L f) s.heap.size = A at hD ⊢
  have hA : ∀ q : Nat, s.heap.size ≤ q → A q := fun q h => by rw [← hAe]; exact Or.inr h
  have hS : va_S A s.heap s.heap [] := va_S.rf
  have hP : va_P (dC, dI) classes (va_pl L f) s.heap := hP
  have hl := lv_entry ([.ref pu, .ref a0, .int ct, .int (bI st)]) (n := 4) (Nat.le_of_ble_eq_true rfl)
  rw [lg_entry_eq]
  generalize (lg_sl ([.ref pu, .ref a0, .int ct, .int (bI st)]) ++ List.replicate (4 - (lg_sl ([.ref pu, .ref a0, .int ct, .int (bI st)])).length) Slot.unset).toArray = ls at hl ⊢
  have hl : lv_has ls 4 [(0, .ref pu), (1, .ref a0), (2, .int ct), (3, .int (bI st))] := hl
  refine lv_aload_n hx hb d_Pu_init_0 rfl (lv_at hl 0 rfl) ?_
  refine W.objInit hx hb hown (hG _ k_172) (hG _ k_33) (hG _ k_34) rfl (by rw [hml]; exact hl.1) rfl d_Pu_init_1 (Nat.le_of_ble_eq_true rfl) (Nat.le_of_ble_eq_true rfl) ?_
  refine W.eq (g2 := F0 m 4 ls []) rfl ?_
  refine lv_aload_n hx hb d_Pu_init_4 rfl (lv_at hl 0 rfl) ?_
  refine fw_new (D := (dC, dI)) (ci := 4) (fs := [.long 0, .long 0, .int 0]) (C := R_Ap) (T := F_Ap) (N := 3) hx hb hG iG_Ap t_Ap t_Ap_ok hown (hG _ k_173) (hG _ k_174) (hG _ k_20) hK hP hD hS hA rfl (fun j hj => by rcases (show j = 0 ∨ j = 1 ∨ j = 2 by omega) with rfl | rfl | rfl <;> rfl) (Nat.le_of_ble_eq_true rfl) (Nat.le_of_ble_eq_true rfl) d_Pu_init_5 (fun q_1 H hq_q_1 hP hD hS => ?_)
  obtain ⟨L_3, eL_3⟩ : ∃ z, z = L ++ [q_1] := ⟨_, rfl⟩
  obtain ⟨f_2, ef_2⟩ : ∃ z, z = va_up f q_1 (.inr (4, [.long 0, .long 0, .int 0])) := ⟨_, rfl⟩
  have hP : va_P (dC, dI) classes (va_pl L_3 f_2) H := by rw [eL_3, ef_2]; exact hP
  have hD : va_D A (va_pl L_3 f_2) := by rw [eL_3, ef_2]; exact hD
  have ne_6 : pu ≠ q_1 := fun z => hq_q_1 (z ▸ hm_pu)
  have hm_5 : pu ∈ L_3 := by rw [eL_3]; exact List.mem_append_left _ hm_pu
  have he_4 : f_2 pu = .inr (2, [.null, .int pu_ct, .int (bI pu_st), .null, .int pu_stt, .int pu_ic, .int pu_lm, .long pu_lx]) := by rw [ef_2, va_up_ne _ _ ne_6]; exact he_pu
  have hm_8 : q_1 ∈ L_3 := by rw [eL_3]; exact List.mem_append_right _ (List.mem_singleton.mpr rfl)
  have he_7 : f_2 q_1 = .inr (4, [.long 0, .long 0, .int 0]) := by rw [ef_2]; exact va_up_self _ _ _
  refine lv_dup hx hb d_Pu_init_8 rfl ?_
  refine mu_callv (va_runIN (As := []) (rest := [.ref q_1, .ref pu]) ⟨hx, hb, hml, hown, hts⟩ (c_Ap_init l dC dI tys L_3 f_2 H.size q_1 0 0 0 hm_8 he_7) ⟨va_cnB 0 hts (gd_c k_177) rfl rfl rfl (hN _ k_175) (hG _ k_20) (by decide +kernel) ⟨Nat.le_of_ble_eq_true rfl, Nat.le_of_ble_eq_true rfl⟩, rfl, (hG _ k_176)⟩ (mu_preS hK hN hP hD) rfl rfl hl.1 rfl (lv_room (Nat.le_of_ble_eq_true rfl)) d_Pu_init_9 ⟨Nat.le_of_ble_eq_true rfl, Nat.le_of_ble_eq_true rfl⟩) hD hS hA (fun ur_9 H locs hr_9 hP hD hS => ?_)
  subst hr_9
  have hP : va_P (dC, dI) classes (va_pl L_3 f_2) H := by rw []; exact hP
  have hD : va_D A (va_pl L_3 f_2) := by rw []; exact hD
  refine fw_putF (D := (dC, dI)) (ci := 2) (v := .ref q_1) (ty := (.object "FundBook$Approvals")) (C := R_Pu) (T := F_Pu) (N := 8) hx hb hG iG_Pu t_Pu t_Pu_ok n_Pu hown hK hP hD hS hm_5 he_4 rfl 3 (by decide) (hG _ k_196) (fun _ h9 => h9) rfl hin rfl (by decide +kernel) rfl rfl (Nat.le_of_ble_eq_true rfl) d_Pu_init_12 (fun H locs hP hD hS => ?_)
  obtain ⟨f_10, ef_10⟩ : ∃ z, z = va_up f_2 pu (.inr (2, [.null, .int pu_ct, .int (bI pu_st), .ref q_1, .int pu_stt, .int pu_ic, .int pu_lm, .long pu_lx])) := ⟨_, rfl⟩
  have he_11 : f_10 pu = .inr (2, [.null, .int pu_ct, .int (bI pu_st), .ref q_1, .int pu_stt, .int pu_ic, .int pu_lm, .long pu_lx]) := by rw [ef_10]; exact va_up_self _ _ _
  have he_12 : f_10 q_1 = .inr (4, [.long 0, .long 0, .int 0]) := by rw [ef_10, va_up_ne _ _ (Ne.symm ne_6)]; exact he_7
  have hP : va_P (dC, dI) classes (va_pl L_3 f_10) H := by rw [ef_10]; exact hP
  have hD : va_D A (va_pl L_3 f_10) := by rw [ef_10]; exact hD
  refine lv_aload_n hx hb d_Pu_init_15 rfl (lv_at hl 0 rfl) ?_
  refine lv_iconst (v := 0) hx hb d_Pu_init_16 (by decide) ?_
  refine fw_put (D := (dC, dI)) (ci := 2) (v := .int 0) (ty := .int) (C := R_Pu) (T := F_Pu) (N := 8) hx hb hG iG_Pu t_Pu t_Pu_ok n_Pu hown hK hP hD hS hm_5 he_11 rfl 4 (by decide) (hG _ k_198) (fun _ h9 => h9) rfl (by decide +kernel) rfl rfl (Nat.le_of_ble_eq_true rfl) d_Pu_init_17 (fun H locs hP hD hS => ?_)
  obtain ⟨f_13, ef_13⟩ : ∃ z, z = va_up f_10 pu (.inr (2, [.null, .int pu_ct, .int (bI pu_st), .ref q_1, .int 0, .int pu_ic, .int pu_lm, .long pu_lx])) := ⟨_, rfl⟩
  have he_14 : f_13 pu = .inr (2, [.null, .int pu_ct, .int (bI pu_st), .ref q_1, .int 0, .int pu_ic, .int pu_lm, .long pu_lx]) := by rw [ef_13]; exact va_up_self _ _ _
  have he_15 : f_13 q_1 = .inr (4, [.long 0, .long 0, .int 0]) := by rw [ef_13, va_up_ne _ _ (Ne.symm ne_6)]; exact he_12
  have hP : va_P (dC, dI) classes (va_pl L_3 f_13) H := by rw [ef_13]; exact hP
  have hD : va_D A (va_pl L_3 f_13) := by rw [ef_13]; exact hD
  refine lv_aload_n hx hb d_Pu_init_20 rfl (lv_at hl 0 rfl) ?_
  refine lv_iconst (v := (-1)) hx hb d_Pu_init_21 (by decide) ?_
  refine fw_put (D := (dC, dI)) (ci := 2) (v := .int (-1)) (ty := .int) (C := R_Pu) (T := F_Pu) (N := 8) hx hb hG iG_Pu t_Pu t_Pu_ok n_Pu hown hK hP hD hS hm_5 he_14 rfl 6 (by decide) (hG _ k_202) (fun _ h9 => h9) rfl (by decide +kernel) rfl rfl (Nat.le_of_ble_eq_true rfl) d_Pu_init_22 (fun H locs hP hD hS => ?_)
  obtain ⟨f_16, ef_16⟩ : ∃ z, z = va_up f_13 pu (.inr (2, [.null, .int pu_ct, .int (bI pu_st), .ref q_1, .int 0, .int pu_ic, .int (-1), .long pu_lx])) := ⟨_, rfl⟩
  have he_17 : f_16 pu = .inr (2, [.null, .int pu_ct, .int (bI pu_st), .ref q_1, .int 0, .int pu_ic, .int (-1), .long pu_lx]) := by rw [ef_16]; exact va_up_self _ _ _
  have he_18 : f_16 q_1 = .inr (4, [.long 0, .long 0, .int 0]) := by rw [ef_16, va_up_ne _ _ (Ne.symm ne_6)]; exact he_15
  have hP : va_P (dC, dI) classes (va_pl L_3 f_16) H := by rw [ef_16]; exact hP
  have hD : va_D A (va_pl L_3 f_16) := by rw [ef_16]; exact hD
  refine lv_aload_n hx hb d_Pu_init_25 rfl (lv_at hl 0 rfl) ?_
  refine lv_aload_n hx hb d_Pu_init_26 rfl (lv_at hl 1 rfl) ?_
  refine fw_putF (D := (dC, dI)) (ci := 2) (v := .ref a0) (ty := (.object "FundBook$Account")) (C := R_Pu) (T := F_Pu) (N := 8) hx hb hG iG_Pu t_Pu t_Pu_ok n_Pu hown hK hP hD hS hm_5 he_17 rfl 0 (by decide) (hG _ k_191) (fun _ h9 => h9) rfl hin rfl (by decide +kernel) rfl rfl (Nat.le_of_ble_eq_true rfl) d_Pu_init_27 (fun H locs hP hD hS => ?_)
  obtain ⟨f_19, ef_19⟩ : ∃ z, z = va_up f_16 pu (.inr (2, [.ref a0, .int pu_ct, .int (bI pu_st), .ref q_1, .int 0, .int pu_ic, .int (-1), .long pu_lx])) := ⟨_, rfl⟩
  have he_20 : f_19 pu = .inr (2, [.ref a0, .int pu_ct, .int (bI pu_st), .ref q_1, .int 0, .int pu_ic, .int (-1), .long pu_lx]) := by rw [ef_19]; exact va_up_self _ _ _
  have he_21 : f_19 q_1 = .inr (4, [.long 0, .long 0, .int 0]) := by rw [ef_19, va_up_ne _ _ (Ne.symm ne_6)]; exact he_18
  have hP : va_P (dC, dI) classes (va_pl L_3 f_19) H := by rw [ef_19]; exact hP
  have hD : va_D A (va_pl L_3 f_19) := by rw [ef_19]; exact hD
  refine lv_aload_n hx hb d_Pu_init_30 rfl (lv_at hl 0 rfl) ?_
  refine lv_iload_n hx hb d_Pu_init_31 rfl (lv_at hl 2 rfl) ?_
  refine fw_putF (D := (dC, dI)) (ci := 2) (v := .int ct) (ty := .int) (C := R_Pu) (T := F_Pu) (N := 8) hx hb hG iG_Pu t_Pu t_Pu_ok n_Pu hown hK hP hD hS hm_5 he_20 rfl 1 (by decide) (hG _ k_193) (fun _ h9 => h9) rfl hin rfl (by decide +kernel) rfl rfl (Nat.le_of_ble_eq_true rfl) d_Pu_init_32 (fun H locs hP hD hS => ?_)
  obtain ⟨f_22, ef_22⟩ : ∃ z, z = va_up f_19 pu (.inr (2, [.ref a0, .int ct, .int (bI pu_st), .ref q_1, .int 0, .int pu_ic, .int (-1), .long pu_lx])) := ⟨_, rfl⟩
  have he_23 : f_22 pu = .inr (2, [.ref a0, .int ct, .int (bI pu_st), .ref q_1, .int 0, .int pu_ic, .int (-1), .long pu_lx]) := by rw [ef_22]; exact va_up_self _ _ _
  have he_24 : f_22 q_1 = .inr (4, [.long 0, .long 0, .int 0]) := by rw [ef_22, va_up_ne _ _ (Ne.symm ne_6)]; exact he_21
  have hP : va_P (dC, dI) classes (va_pl L_3 f_22) H := by rw [ef_22]; exact hP
  have hD : va_D A (va_pl L_3 f_22) := by rw [ef_22]; exact hD
  refine lv_aload_n hx hb d_Pu_init_35 rfl (lv_at hl 0 rfl) ?_
  refine lv_iload_n hx hb d_Pu_init_36 rfl (lv_at hl 3 rfl) ?_
  refine fw_putF (D := (dC, dI)) (ci := 2) (v := .int (bI st)) (ty := .boolean) (C := R_Pu) (T := F_Pu) (N := 8) hx hb hG iG_Pu t_Pu t_Pu_ok n_Pu hown hK hP hD hS hm_5 he_23 rfl 2 (by decide) (hG _ k_195) (fun _ h9 => h9) rfl hin rfl (by decide +kernel) (bI_nar _) (bI_fit _) (Nat.le_of_ble_eq_true rfl) d_Pu_init_37 (fun H locs hP hD hS => ?_)
  obtain ⟨f_25, ef_25⟩ : ∃ z, z = va_up f_22 pu (.inr (2, [.ref a0, .int ct, .int (bI st), .ref q_1, .int 0, .int pu_ic, .int (-1), .long pu_lx])) := ⟨_, rfl⟩
  have he_26 : f_25 pu = .inr (2, [.ref a0, .int ct, .int (bI st), .ref q_1, .int 0, .int pu_ic, .int (-1), .long pu_lx]) := by rw [ef_25]; exact va_up_self _ _ _
  have he_27 : f_25 q_1 = .inr (4, [.long 0, .long 0, .int 0]) := by rw [ef_25, va_up_ne _ _ (Ne.symm ne_6)]; exact he_24
  have hP : va_P (dC, dI) classes (va_pl L_3 f_25) H := by rw [ef_25]; exact hP
  have hD : va_D A (va_pl L_3 f_25) := by rw [ef_25]; exact hD
  refine W.widen (k := 1) (n := 3) (Nat.le_of_ble_eq_true rfl) (Nat.le_of_ble_eq_true rfl) ?_
  exact W.vret hx hb hr (fun t ht hW => ⟨⟨(L_3, f_25), rfl, ⟨q_1, hq_q_1, (by rw [ef_25, ef_22, ef_19, ef_16, ef_13, ef_10, ef_2, eL_3] <;> exact fw_same (by intro z; simp only [va_up] <;> grind))⟩, by rw [ht]; exact hP, va_K.moved hW.alike hK, hD⟩, hS.F ht⟩) hS.2.2 d_Pu_init_40

theorem d_Mv_init_0 : decode b_Mv_init 0 = .ok (.aload_n 0, 1) := by decide +kernel
theorem d_Mv_init_1 : decode b_Mv_init 1 = .ok (.invokespecial 3, 3) := by decide +kernel
theorem d_Mv_init_4 : decode b_Mv_init 4 = .ok (.aload_n 0, 1) := by decide +kernel
theorem d_Mv_init_5 : decode b_Mv_init 5 = .ok (.new 9, 3) := by decide +kernel
theorem d_Mv_init_8 : decode b_Mv_init 8 = .ok (.dup, 1) := by decide +kernel
theorem d_Mv_init_9 : decode b_Mv_init 9 = .ok (.invokespecial 11, 3) := by decide +kernel
theorem d_Mv_init_12 : decode b_Mv_init 12 = .ok (.putfield 12, 3) := by decide +kernel
theorem d_Mv_init_15 : decode b_Mv_init 15 = .ok (.aload_n 0, 1) := by decide +kernel
theorem d_Mv_init_16 : decode b_Mv_init 16 = .ok (.aload_n 1, 1) := by decide +kernel
theorem d_Mv_init_17 : decode b_Mv_init 17 = .ok (.putfield 18, 3) := by decide +kernel
theorem d_Mv_init_20 : decode b_Mv_init 20 = .ok (.aload_n 0, 1) := by decide +kernel
theorem d_Mv_init_21 : decode b_Mv_init 21 = .ok (.aload_n 2, 1) := by decide +kernel
theorem d_Mv_init_22 : decode b_Mv_init 22 = .ok (.putfield 22, 3) := by decide +kernel
theorem d_Mv_init_25 : decode b_Mv_init 25 = .ok (.aload_n 0, 1) := by decide +kernel
theorem d_Mv_init_26 : decode b_Mv_init 26 = .ok (.iload_n 3, 1) := by decide +kernel
theorem d_Mv_init_27 : decode b_Mv_init 27 = .ok (.putfield 25, 3) := by decide +kernel
theorem d_Mv_init_30 : decode b_Mv_init 30 = .ok (.return_, 1) := by decide +kernel
set_option maxHeartbeats 4000000 in
set_option maxRecDepth 100000 in
theorem c_Mv_init (l : Launch) (dC : Nat → ClassId) (dI : Nat → Nat → Nat) (tys : List (ClassId × FieldType)) (L : List Nat) (f : Nat → va_E) (sz : Nat) (mv : Nat) (mv_ct : Int32) (mv_hp : Bool) (a0 : Nat) (b0 : Nat) (ct : Int32) (hm_mv : mv ∈ L) (he_mv : f mv = .inr (3, [.null, .null, .int mv_ct, .null, .int (bI mv_hp)])) : Met l y_Mv_init w_Mv_init { frames := 2, cells := 1, slots := 3, locals := 32 } (mu_P (dC, dI) classes tys (va_pl L f) sz [.ref mv, .ref a0, .ref b0, .int ct]) (va_Qv (fun u => ∃ q0 : Nat, q0 ∉ L ∧ u = (L ++ [q0], va_up (va_up f mv (.inr (3, [.ref a0, .ref b0, .int ct, .ref q0, .int (bI mv_hp)]))) q0 (.inr (4, [.long 0, .long 0, .int 0])))) (mu_B (dC, dI) classes tys (va_A (va_pl L f) sz) fw_w) (va_A (va_pl L f) sz)) 1 3 (va_A (va_pl L f) sz) := by
  refine Met.ofW (cc := b_Mv_init) (maxL := 4) (ret := none) (by decide) rfl ?_
  intro p e s m args below meth c s₁ B hml hv
  obtain ⟨rfl, hsz, hP, hK, hD0, hN⟩ := hv
  have hx := B.exec
  have hb := B.bytes
  have hr := B.returns
  have hts := atoms_spec (ws := w_Mv_init) B.pre
  have hG := fun (w : Cond) (h : w ∈ wG) => hts w (List.mem_cons_of_mem _ h)
  have hown : s.vm.findClass R_Mv = some m.cls := findClass_of_methodNamed B.named
  have hlocks := B.notSynchronized
  have hin : meth.name = "<init>" := (name_of_methodNamed B.named B.method).1
  subst hsz
  have hD := hD0.self (sz := s.heap.size)
  generalize hAe : va_A (va_pl L f) s.heap.size = A at hD ⊢
  have hA : ∀ q : Nat, s.heap.size ≤ q → A q := fun q h => by rw [← hAe]; exact Or.inr h
  have hS : va_S A s.heap s.heap [] := va_S.rf
  have hP : va_P (dC, dI) classes (va_pl L f) s.heap := hP
  have hl := lv_entry ([.ref mv, .ref a0, .ref b0, .int ct]) (n := 4) (Nat.le_of_ble_eq_true rfl)
  rw [lg_entry_eq]
  generalize (lg_sl ([.ref mv, .ref a0, .ref b0, .int ct]) ++ List.replicate (4 - (lg_sl ([.ref mv, .ref a0, .ref b0, .int ct])).length) Slot.unset).toArray = ls at hl ⊢
  have hl : lv_has ls 4 [(0, .ref mv), (1, .ref a0), (2, .ref b0), (3, .int ct)] := hl
  refine lv_aload_n hx hb d_Mv_init_0 rfl (lv_at hl 0 rfl) ?_
  refine W.objInit hx hb hown (hG _ k_340) (hG _ k_33) (hG _ k_34) rfl (by rw [hml]; exact hl.1) rfl d_Mv_init_1 (Nat.le_of_ble_eq_true rfl) (Nat.le_of_ble_eq_true rfl) ?_
  refine W.eq (g2 := F0 m 4 ls []) rfl ?_
  refine lv_aload_n hx hb d_Mv_init_4 rfl (lv_at hl 0 rfl) ?_
  refine fw_new (D := (dC, dI)) (ci := 4) (fs := [.long 0, .long 0, .int 0]) (C := R_Ap) (T := F_Ap) (N := 3) hx hb hG iG_Ap t_Ap t_Ap_ok hown (hG _ k_341) (hG _ k_174) (hG _ k_20) hK hP hD hS hA rfl (fun j hj => by rcases (show j = 0 ∨ j = 1 ∨ j = 2 by omega) with rfl | rfl | rfl <;> rfl) (Nat.le_of_ble_eq_true rfl) (Nat.le_of_ble_eq_true rfl) d_Mv_init_5 (fun q_1 H hq_q_1 hP hD hS => ?_)
  obtain ⟨L_3, eL_3⟩ : ∃ z, z = L ++ [q_1] := ⟨_, rfl⟩
  obtain ⟨f_2, ef_2⟩ : ∃ z, z = va_up f q_1 (.inr (4, [.long 0, .long 0, .int 0])) := ⟨_, rfl⟩
  have hP : va_P (dC, dI) classes (va_pl L_3 f_2) H := by rw [eL_3, ef_2]; exact hP
  have hD : va_D A (va_pl L_3 f_2) := by rw [eL_3, ef_2]; exact hD
  have ne_6 : mv ≠ q_1 := fun z => hq_q_1 (z ▸ hm_mv)
  have hm_5 : mv ∈ L_3 := by rw [eL_3]; exact List.mem_append_left _ hm_mv
  have he_4 : f_2 mv = .inr (3, [.null, .null, .int mv_ct, .null, .int (bI mv_hp)]) := by rw [ef_2, va_up_ne _ _ ne_6]; exact he_mv
  have hm_8 : q_1 ∈ L_3 := by rw [eL_3]; exact List.mem_append_right _ (List.mem_singleton.mpr rfl)
  have he_7 : f_2 q_1 = .inr (4, [.long 0, .long 0, .int 0]) := by rw [ef_2]; exact va_up_self _ _ _
  refine lv_dup hx hb d_Mv_init_8 rfl ?_
  refine mu_callv (va_runIN (As := []) (rest := [.ref q_1, .ref mv]) ⟨hx, hb, hml, hown, hts⟩ (c_Ap_init l dC dI tys L_3 f_2 H.size q_1 0 0 0 hm_8 he_7) ⟨va_cnB 0 hts (gd_c k_177) rfl rfl rfl (hN _ k_342) (hG _ k_20) (by decide +kernel) ⟨Nat.le_of_ble_eq_true rfl, Nat.le_of_ble_eq_true rfl⟩, rfl, (hG _ k_176)⟩ (mu_preS hK hN hP hD) rfl rfl hl.1 rfl (lv_room (Nat.le_of_ble_eq_true rfl)) d_Mv_init_9 ⟨Nat.le_of_ble_eq_true rfl, Nat.le_of_ble_eq_true rfl⟩) hD hS hA (fun ur_9 H locs hr_9 hP hD hS => ?_)
  subst hr_9
  have hP : va_P (dC, dI) classes (va_pl L_3 f_2) H := by rw []; exact hP
  have hD : va_D A (va_pl L_3 f_2) := by rw []; exact hD
  refine fw_putF (D := (dC, dI)) (ci := 3) (v := .ref q_1) (ty := (.object "FundBook$Approvals")) (C := R_Mv) (T := F_Mv) (N := 5) hx hb hG iG_Mv t_Mv t_Mv_ok n_Mv hown hK hP hD hS hm_5 he_4 rfl 3 (by decide) (hG _ k_346) (fun _ h9 => h9) rfl hin rfl (by decide +kernel) rfl rfl (Nat.le_of_ble_eq_true rfl) d_Mv_init_12 (fun H locs hP hD hS => ?_)
  obtain ⟨f_10, ef_10⟩ : ∃ z, z = va_up f_2 mv (.inr (3, [.null, .null, .int mv_ct, .ref q_1, .int (bI mv_hp)])) := ⟨_, rfl⟩
  have he_11 : f_10 mv = .inr (3, [.null, .null, .int mv_ct, .ref q_1, .int (bI mv_hp)]) := by rw [ef_10]; exact va_up_self _ _ _
  have he_12 : f_10 q_1 = .inr (4, [.long 0, .long 0, .int 0]) := by rw [ef_10, va_up_ne _ _ (Ne.symm ne_6)]; exact he_7
  have hP : va_P (dC, dI) classes (va_pl L_3 f_10) H := by rw [ef_10]; exact hP
  have hD : va_D A (va_pl L_3 f_10) := by rw [ef_10]; exact hD
  refine lv_aload_n hx hb d_Mv_init_15 rfl (lv_at hl 0 rfl) ?_
  refine lv_aload_n hx hb d_Mv_init_16 rfl (lv_at hl 1 rfl) ?_
  refine fw_putF (D := (dC, dI)) (ci := 3) (v := .ref a0) (ty := (.object "FundBook$Account")) (C := R_Mv) (T := F_Mv) (N := 5) hx hb hG iG_Mv t_Mv t_Mv_ok n_Mv hown hK hP hD hS hm_5 he_11 rfl 0 (by decide) (hG _ k_343) (fun _ h9 => h9) rfl hin rfl (by decide +kernel) rfl rfl (Nat.le_of_ble_eq_true rfl) d_Mv_init_17 (fun H locs hP hD hS => ?_)
  obtain ⟨f_13, ef_13⟩ : ∃ z, z = va_up f_10 mv (.inr (3, [.ref a0, .null, .int mv_ct, .ref q_1, .int (bI mv_hp)])) := ⟨_, rfl⟩
  have he_14 : f_13 mv = .inr (3, [.ref a0, .null, .int mv_ct, .ref q_1, .int (bI mv_hp)]) := by rw [ef_13]; exact va_up_self _ _ _
  have he_15 : f_13 q_1 = .inr (4, [.long 0, .long 0, .int 0]) := by rw [ef_13, va_up_ne _ _ (Ne.symm ne_6)]; exact he_12
  have hP : va_P (dC, dI) classes (va_pl L_3 f_13) H := by rw [ef_13]; exact hP
  have hD : va_D A (va_pl L_3 f_13) := by rw [ef_13]; exact hD
  refine lv_aload_n hx hb d_Mv_init_20 rfl (lv_at hl 0 rfl) ?_
  refine lv_aload_n hx hb d_Mv_init_21 rfl (lv_at hl 2 rfl) ?_
  refine fw_putF (D := (dC, dI)) (ci := 3) (v := .ref b0) (ty := (.object "FundBook$Account")) (C := R_Mv) (T := F_Mv) (N := 5) hx hb hG iG_Mv t_Mv t_Mv_ok n_Mv hown hK hP hD hS hm_5 he_14 rfl 1 (by decide) (hG _ k_344) (fun _ h9 => h9) rfl hin rfl (by decide +kernel) rfl rfl (Nat.le_of_ble_eq_true rfl) d_Mv_init_22 (fun H locs hP hD hS => ?_)
  obtain ⟨f_16, ef_16⟩ : ∃ z, z = va_up f_13 mv (.inr (3, [.ref a0, .ref b0, .int mv_ct, .ref q_1, .int (bI mv_hp)])) := ⟨_, rfl⟩
  have he_17 : f_16 mv = .inr (3, [.ref a0, .ref b0, .int mv_ct, .ref q_1, .int (bI mv_hp)]) := by rw [ef_16]; exact va_up_self _ _ _
  have he_18 : f_16 q_1 = .inr (4, [.long 0, .long 0, .int 0]) := by rw [ef_16, va_up_ne _ _ (Ne.symm ne_6)]; exact he_15
  have hP : va_P (dC, dI) classes (va_pl L_3 f_16) H := by rw [ef_16]; exact hP
  have hD : va_D A (va_pl L_3 f_16) := by rw [ef_16]; exact hD
  refine lv_aload_n hx hb d_Mv_init_25 rfl (lv_at hl 0 rfl) ?_
  refine lv_iload_n hx hb d_Mv_init_26 rfl (lv_at hl 3 rfl) ?_
  refine fw_putF (D := (dC, dI)) (ci := 3) (v := .int ct) (ty := .int) (C := R_Mv) (T := F_Mv) (N := 5) hx hb hG iG_Mv t_Mv t_Mv_ok n_Mv hown hK hP hD hS hm_5 he_17 rfl 2 (by decide) (hG _ k_345) (fun _ h9 => h9) rfl hin rfl (by decide +kernel) rfl rfl (Nat.le_of_ble_eq_true rfl) d_Mv_init_27 (fun H locs hP hD hS => ?_)
  obtain ⟨f_19, ef_19⟩ : ∃ z, z = va_up f_16 mv (.inr (3, [.ref a0, .ref b0, .int ct, .ref q_1, .int (bI mv_hp)])) := ⟨_, rfl⟩
  have he_20 : f_19 mv = .inr (3, [.ref a0, .ref b0, .int ct, .ref q_1, .int (bI mv_hp)]) := by rw [ef_19]; exact va_up_self _ _ _
  have he_21 : f_19 q_1 = .inr (4, [.long 0, .long 0, .int 0]) := by rw [ef_19, va_up_ne _ _ (Ne.symm ne_6)]; exact he_18
  have hP : va_P (dC, dI) classes (va_pl L_3 f_19) H := by rw [ef_19]; exact hP
  have hD : va_D A (va_pl L_3 f_19) := by rw [ef_19]; exact hD
  refine W.widen (k := 1) (n := 3) (Nat.le_of_ble_eq_true rfl) (Nat.le_of_ble_eq_true rfl) ?_
  exact W.vret hx hb hr (fun t ht hW => ⟨⟨(L_3, f_19), rfl, ⟨q_1, hq_q_1, (by rw [ef_19, ef_16, ef_13, ef_10, ef_2, eL_3] <;> exact fw_same (by intro z; simp only [va_up] <;> grind))⟩, by rw [ht]; exact hP, va_K.moved hW.alike hK, hD⟩, hS.F ht⟩) hS.2.2 d_Mv_init_30

theorem d_Ra_init_0 : decode b_Ra_init 0 = .ok (.aload_n 0, 1) := by decide +kernel
theorem d_Ra_init_1 : decode b_Ra_init 1 = .ok (.invokespecial 1, 3) := by decide +kernel
theorem d_Ra_init_4 : decode b_Ra_init 4 = .ok (.aload_n 0, 1) := by decide +kernel
theorem d_Ra_init_5 : decode b_Ra_init 5 = .ok (.iload_n 1, 1) := by decide +kernel
theorem d_Ra_init_6 : decode b_Ra_init 6 = .ok (.putfield 7, 3) := by decide +kernel
theorem d_Ra_init_9 : decode b_Ra_init 9 = .ok (.aload_n 0, 1) := by decide +kernel
theorem d_Ra_init_10 : decode b_Ra_init 10 = .ok (.iload_n 2, 1) := by decide +kernel
theorem d_Ra_init_11 : decode b_Ra_init 11 = .ok (.putfield 13, 3) := by decide +kernel
theorem d_Ra_init_14 : decode b_Ra_init 14 = .ok (.aload_n 0, 1) := by decide +kernel
theorem d_Ra_init_15 : decode b_Ra_init 15 = .ok (.iconst 1, 1) := by decide +kernel
theorem d_Ra_init_16 : decode b_Ra_init 16 = .ok (.iload_n 3, 1) := by decide +kernel
theorem d_Ra_init_17 : decode b_Ra_init 17 = .ok (.invokestatic 16, 3) := by decide +kernel
theorem d_Ra_init_20 : decode b_Ra_init 20 = .ok (.putfield 22, 3) := by decide +kernel
theorem d_Ra_init_23 : decode b_Ra_init 23 = .ok (.aload_n 0, 1) := by decide +kernel
theorem d_Ra_init_24 : decode b_Ra_init 24 = .ok (.aload 4, 2) := by decide +kernel
theorem d_Ra_init_26 : decode b_Ra_init 26 = .ok (.putfield 25, 3) := by decide +kernel
theorem d_Ra_init_29 : decode b_Ra_init 29 = .ok (.aload_n 0, 1) := by decide +kernel
theorem d_Ra_init_30 : decode b_Ra_init 30 = .ok (.aload 4, 2) := by decide +kernel
theorem d_Ra_init_32 : decode b_Ra_init 32 = .ok (.ifnonnull 7, 3) := by decide +kernel
theorem d_Ra_init_35 : decode b_Ra_init 35 = .ok (.iconst 1, 1) := by decide +kernel
theorem d_Ra_init_36 : decode b_Ra_init 36 = .ok (.goto 10, 3) := by decide +kernel
theorem d_Ra_init_46 : decode b_Ra_init 46 = .ok (.putfield 29, 3) := by decide +kernel
theorem d_Ra_init_49 : decode b_Ra_init 49 = .ok (.return_, 1) := by decide +kernel
set_option maxHeartbeats 4000000 in
set_option maxRecDepth 100000 in
theorem c_Ra_init0 (l : Launch) (dC : Nat → ClassId) (dI : Nat → Nat → Nat) (tys : List (ClassId × FieldType)) (L : List Nat) (f : Nat → va_E) (sz : Nat) (ra : Nat) (ra_dy ra_up ra_dn ra_rk : Int32) (dy : Int32) (up : Int32) (dn : Int32) (hm_ra : ra ∈ L) (he_ra : f ra = .inr (5, [.int ra_dy, .int ra_up, .int ra_dn, .null, .int ra_rk])) : Met l y_Ra_init w_Ra_init { frames := 1, cells := 0, slots := 0, locals := 14 } (mu_P (dC, dI) classes tys (va_pl L f) sz [.ref ra, .int dy, .int up, .int dn, .null]) (va_Qv (fun u => u = (L, va_up f ra (.inr (5, [.int dy, .int up, .int (if 1 < dn then dn else 1), va_rf none, .int 1])))) (mu_B (dC, dI) classes tys (va_A (va_pl L f) sz) fw_w) (va_A (va_pl L f) sz)) 0 0 (va_A (va_pl L f) sz) := by
  refine Met.ofW (cc := b_Ra_init) (maxL := 5) (ret := none) (by decide) rfl ?_
  intro p e s m args below meth c s₁ B hml hv
  obtain ⟨rfl, hsz, hP, hK, hD0, hN⟩ := hv
  have hx := B.exec
  have hb := B.bytes
  have hr := B.returns
  have hts := atoms_spec (ws := w_Ra_init) B.pre
  have hG := fun (w : Cond) (h : w ∈ wG) => hts w (List.mem_cons_of_mem _ h)
  have hown : s.vm.findClass R_Ra = some m.cls := findClass_of_methodNamed B.named
  have hlocks := B.notSynchronized
  have hin : meth.name = "<init>" := (name_of_methodNamed B.named B.method).1
  subst hsz
  have hD := hD0.self (sz := s.heap.size)
  generalize hAe : va_A (va_pl L f) s.heap.size = A at hD ⊢
  have hA : ∀ q : Nat, s.heap.size ≤ q → A q := fun q h => by rw [← hAe]; exact Or.inr h
  have hS : va_S A s.heap s.heap [] := va_S.rf
  have hP : va_P (dC, dI) classes (va_pl L f) s.heap := hP
  have hl := lv_entry ([.ref ra, .int dy, .int up, .int dn, .null]) (n := 5) (Nat.le_of_ble_eq_true rfl)
  rw [lg_entry_eq]
  generalize (lg_sl ([.ref ra, .int dy, .int up, .int dn, .null]) ++ List.replicate (5 - (lg_sl ([.ref ra, .int dy, .int up, .int dn, .null])).length) Slot.unset).toArray = ls at hl ⊢
  have hl : lv_has ls 5 [(0, .ref ra), (1, .int dy), (2, .int up), (3, .int dn), (4, .null)] := hl
  refine lv_aload_n hx hb d_Ra_init_0 rfl (lv_at hl 0 rfl) ?_
  refine W.objInit hx hb hown (hG _ k_311) (hG _ k_33) (hG _ k_34) rfl (by rw [hml]; exact hl.1) rfl d_Ra_init_1 (Nat.le_of_ble_eq_true rfl) (Nat.le_of_ble_eq_true rfl) ?_
  refine W.eq (g2 := F0 m 4 ls []) rfl ?_
  refine lv_aload_n hx hb d_Ra_init_4 rfl (lv_at hl 0 rfl) ?_
  refine lv_iload_n hx hb d_Ra_init_5 rfl (lv_at hl 1 rfl) ?_
  refine fw_putF (D := (dC, dI)) (ci := 5) (v := .int dy) (ty := .int) (C := R_Ra) (T := F_Ra) (N := 5) hx hb hG iG_Ra t_Ra t_Ra_ok n_Ra hown hK hP hD hS hm_ra he_ra rfl 0 (by decide) (hG _ k_313) (fun _ h9 => h9) rfl hin rfl (by decide +kernel) rfl rfl (Nat.le_of_ble_eq_true rfl) d_Ra_init_6 (fun H locs hP hD hS => ?_)
  obtain ⟨f_1, ef_1⟩ : ∃ z, z = va_up f ra (.inr (5, [.int dy, .int ra_up, .int ra_dn, .null, .int ra_rk])) := ⟨_, rfl⟩
  have he_2 : f_1 ra = .inr (5, [.int dy, .int ra_up, .int ra_dn, .null, .int ra_rk]) := by rw [ef_1]; exact va_up_self _ _ _
  have hP : va_P (dC, dI) classes (va_pl L f_1) H := by rw [ef_1]; exact hP
  have hD : va_D A (va_pl L f_1) := by rw [ef_1]; exact hD
  refine lv_aload_n hx hb d_Ra_init_9 rfl (lv_at hl 0 rfl) ?_
  refine lv_iload_n hx hb d_Ra_init_10 rfl (lv_at hl 2 rfl) ?_
  refine fw_putF (D := (dC, dI)) (ci := 5) (v := .int up) (ty := .int) (C := R_Ra) (T := F_Ra) (N := 5) hx hb hG iG_Ra t_Ra t_Ra_ok n_Ra hown hK hP hD hS hm_ra he_2 rfl 1 (by decide) (hG _ k_315) (fun _ h9 => h9) rfl hin rfl (by decide +kernel) rfl rfl (Nat.le_of_ble_eq_true rfl) d_Ra_init_11 (fun H locs hP hD hS => ?_)
  obtain ⟨f_3, ef_3⟩ : ∃ z, z = va_up f_1 ra (.inr (5, [.int dy, .int up, .int ra_dn, .null, .int ra_rk])) := ⟨_, rfl⟩
  have he_4 : f_3 ra = .inr (5, [.int dy, .int up, .int ra_dn, .null, .int ra_rk]) := by rw [ef_3]; exact va_up_self _ _ _
  have hP : va_P (dC, dI) classes (va_pl L f_3) H := by rw [ef_3]; exact hP
  have hD : va_D A (va_pl L f_3) := by rw [ef_3]; exact hD
  refine lv_aload_n hx hb d_Ra_init_14 rfl (lv_at hl 0 rfl) ?_
  refine lv_iconst (v := 1) hx hb d_Ra_init_15 (by decide) ?_
  refine lv_iload_n hx hb d_Ra_init_16 rfl (lv_at hl 3 rfl) ?_
  refine va_mmax hx hb (by rw [hml]; exact hl.1.symm) hown (hG _ k_312) (hG _ k_65) (hG _ k_16) (hG _ k_66) (Nat.le_of_ble_eq_true rfl) (Nat.le_of_ble_eq_true rfl) (Nat.zero_le _) (Nat.zero_le _) d_Ra_init_17 ?_
  refine fw_putF (D := (dC, dI)) (ci := 5) (v := .int (if 1 < dn then dn else 1)) (ty := .int) (C := R_Ra) (T := F_Ra) (N := 5) hx hb hG iG_Ra t_Ra t_Ra_ok n_Ra hown hK hP hD hS hm_ra he_4 rfl 2 (by decide) (hG _ k_316) (fun _ h9 => h9) rfl hin rfl (by decide +kernel) rfl rfl (Nat.le_of_ble_eq_true rfl) d_Ra_init_20 (fun H locs hP hD hS => ?_)
  obtain ⟨f_5, ef_5⟩ : ∃ z, z = va_up f_3 ra (.inr (5, [.int dy, .int up, .int (if 1 < dn then dn else 1), .null, .int ra_rk])) := ⟨_, rfl⟩
  have he_6 : f_5 ra = .inr (5, [.int dy, .int up, .int (if 1 < dn then dn else 1), .null, .int ra_rk]) := by rw [ef_5]; exact va_up_self _ _ _
  have hP : va_P (dC, dI) classes (va_pl L f_5) H := by rw [ef_5]; exact hP
  have hD : va_D A (va_pl L f_5) := by rw [ef_5]; exact hD
  refine lv_aload_n hx hb d_Ra_init_23 rfl (lv_at hl 0 rfl) ?_
  refine lv_aloadN hx hb d_Ra_init_24 (lv_at hl 4 rfl) ?_
  refine fw_putF (D := (dC, dI)) (ci := 5) (v := .null) (ty := (.object "FundBook$Rate")) (C := R_Ra) (T := F_Ra) (N := 5) hx hb hG iG_Ra t_Ra t_Ra_ok n_Ra hown hK hP hD hS hm_ra he_6 rfl 3 (by decide) (hG _ k_317) (fun _ h9 => h9) rfl hin rfl (by decide +kernel) rfl rfl (Nat.le_of_ble_eq_true rfl) d_Ra_init_26 (fun H locs hP hD hS => ?_)
  obtain ⟨f_7, ef_7⟩ : ∃ z, z = va_up f_5 ra (.inr (5, [.int dy, .int up, .int (if 1 < dn then dn else 1), va_rf none, .int ra_rk])) := ⟨_, rfl⟩
  have he_8 : f_7 ra = .inr (5, [.int dy, .int up, .int (if 1 < dn then dn else 1), va_rf none, .int ra_rk]) := by rw [ef_7]; exact va_up_self _ _ _
  have hP : va_P (dC, dI) classes (va_pl L f_7) H := by rw [ef_7]; exact hP
  have hD : va_D A (va_pl L f_7) := by rw [ef_7]; exact hD
  refine lv_aload_n hx hb d_Ra_init_29 rfl (lv_at hl 0 rfl) ?_
  refine lv_aloadN hx hb d_Ra_init_30 (lv_at hl 4 rfl) ?_
  refine lv_ifnonnullN hx hb d_Ra_init_32 ?_
  refine lv_iconst (v := 1) hx hb d_Ra_init_35 (by decide) ?_
  refine lv_goto (tgt := 46) hx hb d_Ra_init_36 (by decide) ?_
  refine fw_putF (D := (dC, dI)) (ci := 5) (v := .int 1) (ty := .int) (C := R_Ra) (T := F_Ra) (N := 5) hx hb hG iG_Ra t_Ra t_Ra_ok n_Ra hown hK hP hD hS hm_ra he_8 rfl 4 (by decide) (hG _ k_319) (fun _ h9 => h9) rfl hin rfl (by decide +kernel) rfl rfl (Nat.le_of_ble_eq_true rfl) d_Ra_init_46 (fun H locs hP hD hS => ?_)
  obtain ⟨f_9, ef_9⟩ : ∃ z, z = va_up f_7 ra (.inr (5, [.int dy, .int up, .int (if 1 < dn then dn else 1), va_rf none, .int 1])) := ⟨_, rfl⟩
  have he_10 : f_9 ra = .inr (5, [.int dy, .int up, .int (if 1 < dn then dn else 1), va_rf none, .int 1]) := by rw [ef_9]; exact va_up_self _ _ _
  have hP : va_P (dC, dI) classes (va_pl L f_9) H := by rw [ef_9]; exact hP
  have hD : va_D A (va_pl L f_9) := by rw [ef_9]; exact hD
  exact W.vret hx hb hr (fun t ht hW => ⟨⟨(L, f_9), rfl, (by rw [ef_9, ef_7, ef_5, ef_3, ef_1] <;> exact fw_same (by intro z; simp only [va_up] <;> grind)), by rw [ht]; exact hP, va_K.moved hW.alike hK, hD⟩, hS.F ht⟩) hS.2.2 d_Ra_init_49

theorem d_Ra_init_39 : decode b_Ra_init 39 = .ok (.aload 4, 2) := by decide +kernel
theorem d_Ra_init_41 : decode b_Ra_init 41 = .ok (.getfield 29, 3) := by decide +kernel
theorem d_Ra_init_44 : decode b_Ra_init 44 = .ok (.iconst 1, 1) := by decide +kernel
theorem d_Ra_init_45 : decode b_Ra_init 45 = .ok (.iadd, 1) := by decide +kernel
set_option maxHeartbeats 4000000 in
set_option maxRecDepth 100000 in
theorem c_Ra_init1 (l : Launch) (dC : Nat → ClassId) (dI : Nat → Nat → Nat) (tys : List (ClassId × FieldType)) (L : List Nat) (f : Nat → va_E) (sz : Nat) (ra : Nat) (eb : Nat) (ra_dy ra_up ra_dn ra_rk : Int32) (eb_dy eb_up eb_dn eb_rk : Int32) (eb_ea : Option Nat) (dy : Int32) (up : Int32) (dn : Int32) (hm_ra : ra ∈ L) (he_ra : f ra = .inr (5, [.int ra_dy, .int ra_up, .int ra_dn, .null, .int ra_rk])) (hm_eb : eb ∈ L) (he_eb : f eb = .inr (5, [.int eb_dy, .int eb_up, .int eb_dn, va_rf eb_ea, .int eb_rk])) (ne_ra_eb : ra ≠ eb) : Met l y_Ra_init w_Ra_init { frames := 1, cells := 0, slots := 0, locals := 14 } (mu_P (dC, dI) classes tys (va_pl L f) sz [.ref ra, .int dy, .int up, .int dn, .ref eb]) (va_Qv (fun u => u = (L, va_up f ra (.inr (5, [.int dy, .int up, .int (if 1 < dn then dn else 1), va_rf (some eb), .int (eb_rk + 1)])))) (mu_B (dC, dI) classes tys (va_A (va_pl L f) sz) fw_w) (va_A (va_pl L f) sz)) 0 0 (va_A (va_pl L f) sz) := by
  refine Met.ofW (cc := b_Ra_init) (maxL := 5) (ret := none) (by decide) rfl ?_
  intro p e s m args below meth c s₁ B hml hv
  obtain ⟨rfl, hsz, hP, hK, hD0, hN⟩ := hv
  have hx := B.exec
  have hb := B.bytes
  have hr := B.returns
  have hts := atoms_spec (ws := w_Ra_init) B.pre
  have hG := fun (w : Cond) (h : w ∈ wG) => hts w (List.mem_cons_of_mem _ h)
  have hown : s.vm.findClass R_Ra = some m.cls := findClass_of_methodNamed B.named
  have hlocks := B.notSynchronized
  have hin : meth.name = "<init>" := (name_of_methodNamed B.named B.method).1
  subst hsz
  have hD := hD0.self (sz := s.heap.size)
  generalize hAe : va_A (va_pl L f) s.heap.size = A at hD ⊢
  have hA : ∀ q : Nat, s.heap.size ≤ q → A q := fun q h => by rw [← hAe]; exact Or.inr h
  have hS : va_S A s.heap s.heap [] := va_S.rf
  have hP : va_P (dC, dI) classes (va_pl L f) s.heap := hP
  have hl := lv_entry ([.ref ra, .int dy, .int up, .int dn, .ref eb]) (n := 5) (Nat.le_of_ble_eq_true rfl)
  rw [lg_entry_eq]
  generalize (lg_sl ([.ref ra, .int dy, .int up, .int dn, .ref eb]) ++ List.replicate (5 - (lg_sl ([.ref ra, .int dy, .int up, .int dn, .ref eb])).length) Slot.unset).toArray = ls at hl ⊢
  have hl : lv_has ls 5 [(0, .ref ra), (1, .int dy), (2, .int up), (3, .int dn), (4, .ref eb)] := hl
  refine lv_aload_n hx hb d_Ra_init_0 rfl (lv_at hl 0 rfl) ?_
  refine W.objInit hx hb hown (hG _ k_311) (hG _ k_33) (hG _ k_34) rfl (by rw [hml]; exact hl.1) rfl d_Ra_init_1 (Nat.le_of_ble_eq_true rfl) (Nat.le_of_ble_eq_true rfl) ?_
  refine W.eq (g2 := F0 m 4 ls []) rfl ?_
  refine lv_aload_n hx hb d_Ra_init_4 rfl (lv_at hl 0 rfl) ?_
  refine lv_iload_n hx hb d_Ra_init_5 rfl (lv_at hl 1 rfl) ?_
  refine fw_putF (D := (dC, dI)) (ci := 5) (v := .int dy) (ty := .int) (C := R_Ra) (T := F_Ra) (N := 5) hx hb hG iG_Ra t_Ra t_Ra_ok n_Ra hown hK hP hD hS hm_ra he_ra rfl 0 (by decide) (hG _ k_313) (fun _ h9 => h9) rfl hin rfl (by decide +kernel) rfl rfl (Nat.le_of_ble_eq_true rfl) d_Ra_init_6 (fun H locs hP hD hS => ?_)
  obtain ⟨f_1, ef_1⟩ : ∃ z, z = va_up f ra (.inr (5, [.int dy, .int ra_up, .int ra_dn, .null, .int ra_rk])) := ⟨_, rfl⟩
  have he_2 : f_1 ra = .inr (5, [.int dy, .int ra_up, .int ra_dn, .null, .int ra_rk]) := by rw [ef_1]; exact va_up_self _ _ _
  have he_3 : f_1 eb = .inr (5, [.int eb_dy, .int eb_up, .int eb_dn, va_rf eb_ea, .int eb_rk]) := by rw [ef_1, va_up_ne _ _ (Ne.symm ne_ra_eb)]; exact he_eb
  have hP : va_P (dC, dI) classes (va_pl L f_1) H := by rw [ef_1]; exact hP
  have hD : va_D A (va_pl L f_1) := by rw [ef_1]; exact hD
  refine lv_aload_n hx hb d_Ra_init_9 rfl (lv_at hl 0 rfl) ?_
  refine lv_iload_n hx hb d_Ra_init_10 rfl (lv_at hl 2 rfl) ?_
  refine fw_putF (D := (dC, dI)) (ci := 5) (v := .int up) (ty := .int) (C := R_Ra) (T := F_Ra) (N := 5) hx hb hG iG_Ra t_Ra t_Ra_ok n_Ra hown hK hP hD hS hm_ra he_2 rfl 1 (by decide) (hG _ k_315) (fun _ h9 => h9) rfl hin rfl (by decide +kernel) rfl rfl (Nat.le_of_ble_eq_true rfl) d_Ra_init_11 (fun H locs hP hD hS => ?_)
  obtain ⟨f_4, ef_4⟩ : ∃ z, z = va_up f_1 ra (.inr (5, [.int dy, .int up, .int ra_dn, .null, .int ra_rk])) := ⟨_, rfl⟩
  have he_5 : f_4 ra = .inr (5, [.int dy, .int up, .int ra_dn, .null, .int ra_rk]) := by rw [ef_4]; exact va_up_self _ _ _
  have he_6 : f_4 eb = .inr (5, [.int eb_dy, .int eb_up, .int eb_dn, va_rf eb_ea, .int eb_rk]) := by rw [ef_4, va_up_ne _ _ (Ne.symm ne_ra_eb)]; exact he_3
  have hP : va_P (dC, dI) classes (va_pl L f_4) H := by rw [ef_4]; exact hP
  have hD : va_D A (va_pl L f_4) := by rw [ef_4]; exact hD
  refine lv_aload_n hx hb d_Ra_init_14 rfl (lv_at hl 0 rfl) ?_
  refine lv_iconst (v := 1) hx hb d_Ra_init_15 (by decide) ?_
  refine lv_iload_n hx hb d_Ra_init_16 rfl (lv_at hl 3 rfl) ?_
  refine va_mmax hx hb (by rw [hml]; exact hl.1.symm) hown (hG _ k_312) (hG _ k_65) (hG _ k_16) (hG _ k_66) (Nat.le_of_ble_eq_true rfl) (Nat.le_of_ble_eq_true rfl) (Nat.zero_le _) (Nat.zero_le _) d_Ra_init_17 ?_
  refine fw_putF (D := (dC, dI)) (ci := 5) (v := .int (if 1 < dn then dn else 1)) (ty := .int) (C := R_Ra) (T := F_Ra) (N := 5) hx hb hG iG_Ra t_Ra t_Ra_ok n_Ra hown hK hP hD hS hm_ra he_5 rfl 2 (by decide) (hG _ k_316) (fun _ h9 => h9) rfl hin rfl (by decide +kernel) rfl rfl (Nat.le_of_ble_eq_true rfl) d_Ra_init_20 (fun H locs hP hD hS => ?_)
  obtain ⟨f_7, ef_7⟩ : ∃ z, z = va_up f_4 ra (.inr (5, [.int dy, .int up, .int (if 1 < dn then dn else 1), .null, .int ra_rk])) := ⟨_, rfl⟩
  have he_8 : f_7 ra = .inr (5, [.int dy, .int up, .int (if 1 < dn then dn else 1), .null, .int ra_rk]) := by rw [ef_7]; exact va_up_self _ _ _
  have he_9 : f_7 eb = .inr (5, [.int eb_dy, .int eb_up, .int eb_dn, va_rf eb_ea, .int eb_rk]) := by rw [ef_7, va_up_ne _ _ (Ne.symm ne_ra_eb)]; exact he_6
  have hP : va_P (dC, dI) classes (va_pl L f_7) H := by rw [ef_7]; exact hP
  have hD : va_D A (va_pl L f_7) := by rw [ef_7]; exact hD
  refine lv_aload_n hx hb d_Ra_init_23 rfl (lv_at hl 0 rfl) ?_
  refine lv_aload hx hb d_Ra_init_24 (lv_at hl 4 rfl) ?_
  refine fw_putF (D := (dC, dI)) (ci := 5) (v := .ref eb) (ty := (.object "FundBook$Rate")) (C := R_Ra) (T := F_Ra) (N := 5) hx hb hG iG_Ra t_Ra t_Ra_ok n_Ra hown hK hP hD hS hm_ra he_8 rfl 3 (by decide) (hG _ k_317) (fun _ h9 => h9) rfl hin rfl (by decide +kernel) rfl rfl (Nat.le_of_ble_eq_true rfl) d_Ra_init_26 (fun H locs hP hD hS => ?_)
  obtain ⟨f_10, ef_10⟩ : ∃ z, z = va_up f_7 ra (.inr (5, [.int dy, .int up, .int (if 1 < dn then dn else 1), va_rf (some eb), .int ra_rk])) := ⟨_, rfl⟩
  have he_11 : f_10 ra = .inr (5, [.int dy, .int up, .int (if 1 < dn then dn else 1), va_rf (some eb), .int ra_rk]) := by rw [ef_10]; exact va_up_self _ _ _
  have he_12 : f_10 eb = .inr (5, [.int eb_dy, .int eb_up, .int eb_dn, va_rf eb_ea, .int eb_rk]) := by rw [ef_10, va_up_ne _ _ (Ne.symm ne_ra_eb)]; exact he_9
  have hP : va_P (dC, dI) classes (va_pl L f_10) H := by rw [ef_10]; exact hP
  have hD : va_D A (va_pl L f_10) := by rw [ef_10]; exact hD
  refine lv_aload_n hx hb d_Ra_init_29 rfl (lv_at hl 0 rfl) ?_
  refine lv_aload hx hb d_Ra_init_30 (lv_at hl 4 rfl) ?_
  refine lv_ifnonnull (tgt := 39) hx hb d_Ra_init_32 (by decide) ?_
  refine lv_aload hx hb d_Ra_init_39 (lv_at hl 4 rfl) ?_
  refine fw_get (D := (dC, dI)) (ci := 5) (v := .int eb_rk) (C := R_Ra) (T := F_Ra) (N := 5) hx hb hG iG_Ra hown hK hP hm_eb he_12 rfl 4 (by decide) (hG _ k_319) (fun _ h9 => h9) rfl d_Ra_init_41 ?_
  refine lv_iconst (v := 1) hx hb d_Ra_init_44 (by decide) ?_
  refine lv_iadd hx hb d_Ra_init_45 ?_
  refine fw_putF (D := (dC, dI)) (ci := 5) (v := .int (eb_rk + 1)) (ty := .int) (C := R_Ra) (T := F_Ra) (N := 5) hx hb hG iG_Ra t_Ra t_Ra_ok n_Ra hown hK hP hD hS hm_ra he_11 rfl 4 (by decide) (hG _ k_319) (fun _ h9 => h9) rfl hin rfl (by decide +kernel) rfl rfl (Nat.le_of_ble_eq_true rfl) d_Ra_init_46 (fun H locs hP hD hS => ?_)
  obtain ⟨f_13, ef_13⟩ : ∃ z, z = va_up f_10 ra (.inr (5, [.int dy, .int up, .int (if 1 < dn then dn else 1), va_rf (some eb), .int (eb_rk + 1)])) := ⟨_, rfl⟩
  have he_14 : f_13 ra = .inr (5, [.int dy, .int up, .int (if 1 < dn then dn else 1), va_rf (some eb), .int (eb_rk + 1)]) := by rw [ef_13]; exact va_up_self _ _ _
  have he_15 : f_13 eb = .inr (5, [.int eb_dy, .int eb_up, .int eb_dn, va_rf eb_ea, .int eb_rk]) := by rw [ef_13, va_up_ne _ _ (Ne.symm ne_ra_eb)]; exact he_12
  have hP : va_P (dC, dI) classes (va_pl L f_13) H := by rw [ef_13]; exact hP
  have hD : va_D A (va_pl L f_13) := by rw [ef_13]; exact hD
  exact W.vret hx hb hr (fun t ht hW => ⟨⟨(L, f_13), rfl, (by rw [ef_13, ef_10, ef_7, ef_4, ef_1] <;> exact fw_same (by intro z; simp only [va_up] <;> grind)), by rw [ht]; exact hP, va_K.moved hW.alike hK, hD⟩, hS.F ht⟩) hS.2.2 d_Ra_init_49
end
section
theorem d_FB_accountAt_0 : decode b_FB_accountAt 0 = .ok (.iload_n 1, 1) := by decide +kernel
theorem d_FB_accountAt_1 : decode b_FB_accountAt 1 = .ok (.i2l, 1) := by decide +kernel
theorem d_FB_accountAt_2 : decode b_FB_accountAt 2 = .ok (.lconst 0, 1) := by decide +kernel
theorem d_FB_accountAt_3 : decode b_FB_accountAt 3 = .ok (.aload_n 0, 1) := by decide +kernel
theorem d_FB_accountAt_4 : decode b_FB_accountAt 4 = .ok (.getfield 11, 3) := by decide +kernel
theorem d_FB_accountAt_7 : decode b_FB_accountAt 7 = .ok (.arraylength, 1) := by decide +kernel
theorem d_FB_accountAt_8 : decode b_FB_accountAt 8 = .ok (.iconst 1, 1) := by decide +kernel
theorem d_FB_accountAt_9 : decode b_FB_accountAt 9 = .ok (.isub, 1) := by decide +kernel
theorem d_FB_accountAt_10 : decode b_FB_accountAt 10 = .ok (.i2l, 1) := by decide +kernel
theorem d_FB_accountAt_11 : decode b_FB_accountAt 11 = .ok (.invokestatic 61, 3) := by decide +kernel
theorem d_FB_accountAt_14 : decode b_FB_accountAt 14 = .ok (.ifCond .eq 12, 3) := by decide +kernel
theorem d_FB_accountAt_17 : decode b_FB_accountAt 17 = .ok (.aload_n 0, 1) := by decide +kernel
theorem d_FB_accountAt_18 : decode b_FB_accountAt 18 = .ok (.getfield 11, 3) := by decide +kernel
theorem d_FB_accountAt_21 : decode b_FB_accountAt 21 = .ok (.iload_n 1, 1) := by decide +kernel
theorem d_FB_accountAt_22 : decode b_FB_accountAt 22 = .ok (.aaload, 1) := by decide +kernel
theorem d_FB_accountAt_23 : decode b_FB_accountAt 23 = .ok (.goto 4, 3) := by decide +kernel
theorem d_FB_accountAt_26 : decode b_FB_accountAt 26 = .ok (.aconst_null, 1) := by decide +kernel
theorem d_FB_accountAt_27 : decode b_FB_accountAt 27 = .ok (.areturn, 1) := by decide +kernel
set_option maxHeartbeats 4000000 in
set_option maxRecDepth 100000 in
theorem c_FB_accountAt (l : Launch) (dC : Nat → ClassId) (dI : Nat → Nat → Nat) (tys : List (ClassId × FieldType)) (L : List Nat) (f : Nat → va_E) (o : Nat) (x : Nat) (o_na o_np o_nm o_yr o_tl o_fl : Int32) (o_xp o_xm o_xr o_xb : Nat) (x_c : ClassId) (x_g : Nat → Option Nat) (fd : Int32) (hm_o : o ∈ L) (he_o : f o = .inr (0, [.ref x, .ref o_xp, .ref o_xm, .ref o_xr, .ref o_xb, .int o_na, .int o_np, .int o_nm, .int o_yr, .int o_tl, .int o_fl])) (hm_x : x ∈ L) (he_x : f x = .inl (x_c, 30, .inr (.inr (.inr (.inr x_g))))) (ht_x : tys[0]? = some (x_c, .object "FundBook$Account")) : Met l y_FB_accountAt w_FB_accountAt { frames := 1, cells := 0, slots := 0, locals := 25 } (rd_P (dC, dI) classes tys (va_pl L f) [.ref o, .int fd]) (va_Sq (fun r => r = if inN fd 30 = true then x_g fd.toNatClampNeg else none)) 0 0 (fun _ => False) := by
  refine Met.ofW (cc := b_FB_accountAt) (maxL := 2) (ret := (some (.object "FundBook$Account"))) (by decide) rfl ?_
  intro p e s m args below meth c s₁ B hml hv
  obtain ⟨rfl, hP, hK, hN⟩ := hv
  have hx := B.exec
  have hb := B.bytes
  have hr := B.returns
  have hts := atoms_spec (ws := w_FB_accountAt) B.pre
  have hG := fun (w : Cond) (h : w ∈ wG) => hts w (List.mem_cons_of_mem _ h)
  have hown : s.vm.findClass R_FB = some m.cls := findClass_of_methodNamed B.named
  have hlocks := B.notSynchronized
  have hl := lv_entry ([.ref o, .int fd]) (n := 2) (Nat.le_of_ble_eq_true rfl)
  rw [lg_entry_eq]
  generalize (lg_sl ([.ref o, .int fd]) ++ List.replicate (2 - (lg_sl ([.ref o, .int fd])).length) Slot.unset).toArray = ls at hl ⊢
  have hl : lv_has ls 2 [(0, .ref o), (1, .int fd)] := hl
  refine lv_iload_n hx hb d_FB_accountAt_0 rfl (lv_at hl 1 rfl) ?_
  refine lv_i2l hx hb d_FB_accountAt_1 rfl ?_
  refine lv_lconst (v := 0) hx hb d_FB_accountAt_2 (by decide) ?_
  refine lv_aload_n hx hb d_FB_accountAt_3 rfl (lv_at hl 0 rfl) ?_
  refine fw_get (D := (dC, dI)) (ci := 0) (v := .ref x) (C := R_FB) (T := F_FB) (N := 11) hx hb hG iG_FB hown hK hP hm_o he_o rfl 0 (by decide) (hG _ k_67) (fun _ h9 => h9) rfl d_FB_accountAt_4 ?_
  refine fw_alen (D := (dC, dI)) (v := nI 30) hx hb hK hP hm_x 0 he_x ht_x rfl d_FB_accountAt_7 ?_
  refine lv_iconst (v := 1) hx hb d_FB_accountAt_8 (by decide) ?_
  refine lv_isub hx hb d_FB_accountAt_9 ?_
  refine lv_i2l hx hb d_FB_accountAt_10 rfl ?_
  refine rd_calli (va_runS (As := [.long (fd.toInt64), .long 0, .long ((nI 30 - 1).toInt64)]) (rest := []) ⟨hx, hb, hml, hown, hts⟩ (c_FB_isWithin l dC dI tys (va_pl L f) (fd.toInt64) 0 ((nI 30 - 1).toInt64)) (cwS 3 hts (gd_S k_106 k_107 k_14 k_108) rfl rfl rfl (by decide +kernel) ⟨Nat.le_of_ble_eq_true rfl, Nat.le_of_ble_eq_true rfl⟩) (rd_preS hK hN hP) rfl rfl hl.1 rfl (lv_room (Nat.le_of_ble_eq_true rfl)) d_FB_accountAt_11 ⟨Nat.zero_le _, Nat.zero_le _⟩) (fun r_1 hr_1 => ?_)
  subst hr_1
  refine lb_if_eq (tgt := 26) hx hb d_FB_accountAt_14 (by decide) (fun c_2 => ?_) (fun c_2 => ?_)
  · refine lv_null hx hb d_FB_accountAt_26 ?_
    exact W.aret (v := .null) hx hb hr (Or.inl ⟨_, rfl⟩) (Or.inl rfl) (fun t ht hW => ⟨none, rfl, (by simp [inN, c_2]), ht⟩) (fun q h => by cases h) d_FB_accountAt_27
  · refine lv_aload_n hx hb d_FB_accountAt_17 rfl (lv_at hl 0 rfl) ?_
    refine fw_get (D := (dC, dI)) (ci := 0) (v := .ref x) (C := R_FB) (T := F_FB) (N := 11) hx hb hG iG_FB hown hK hP hm_o he_o rfl 0 (by decide) (hG _ k_67) (fun _ h9 => h9) rfl d_FB_accountAt_18 ?_
    refine lv_iload_n hx hb d_FB_accountAt_21 rfl (lv_at hl 1 rfl) ?_
    refine fw_ald (D := (dC, dI)) (C := "FundBook$Account") (n := 30) (g := x_g) hx hb hK hP hm_x 0 he_x ht_x (inN_vp (n := 30) (by decide) c_2) d_FB_accountAt_22 ?_
    refine lv_goto (tgt := 27) hx hb d_FB_accountAt_23 (by decide) ?_
    exact W.aret (v := va_rf (x_g (fd.toNatClampNeg))) hx hb hr (Or.inl ⟨_, rfl⟩) (va_rf_or _) (fun t ht hW => ⟨x_g (fd.toNatClampNeg), rfl, (by simp [inN, c_2]), ht⟩) (fun q h => by cases h) d_FB_accountAt_27

theorem d_FB_purchaseAt_0 : decode b_FB_purchaseAt 0 = .ok (.iload_n 1, 1) := by decide +kernel
theorem d_FB_purchaseAt_1 : decode b_FB_purchaseAt 1 = .ok (.i2l, 1) := by decide +kernel
theorem d_FB_purchaseAt_2 : decode b_FB_purchaseAt 2 = .ok (.lconst 0, 1) := by decide +kernel
theorem d_FB_purchaseAt_3 : decode b_FB_purchaseAt 3 = .ok (.aload_n 0, 1) := by decide +kernel
theorem d_FB_purchaseAt_4 : decode b_FB_purchaseAt 4 = .ok (.getfield 17, 3) := by decide +kernel
theorem d_FB_purchaseAt_7 : decode b_FB_purchaseAt 7 = .ok (.arraylength, 1) := by decide +kernel
theorem d_FB_purchaseAt_8 : decode b_FB_purchaseAt 8 = .ok (.iconst 1, 1) := by decide +kernel
theorem d_FB_purchaseAt_9 : decode b_FB_purchaseAt 9 = .ok (.isub, 1) := by decide +kernel
theorem d_FB_purchaseAt_10 : decode b_FB_purchaseAt 10 = .ok (.i2l, 1) := by decide +kernel
theorem d_FB_purchaseAt_11 : decode b_FB_purchaseAt 11 = .ok (.invokestatic 61, 3) := by decide +kernel
theorem d_FB_purchaseAt_14 : decode b_FB_purchaseAt 14 = .ok (.ifCond .eq 12, 3) := by decide +kernel
theorem d_FB_purchaseAt_17 : decode b_FB_purchaseAt 17 = .ok (.aload_n 0, 1) := by decide +kernel
theorem d_FB_purchaseAt_18 : decode b_FB_purchaseAt 18 = .ok (.getfield 17, 3) := by decide +kernel
theorem d_FB_purchaseAt_21 : decode b_FB_purchaseAt 21 = .ok (.iload_n 1, 1) := by decide +kernel
theorem d_FB_purchaseAt_22 : decode b_FB_purchaseAt 22 = .ok (.aaload, 1) := by decide +kernel
theorem d_FB_purchaseAt_23 : decode b_FB_purchaseAt 23 = .ok (.goto 4, 3) := by decide +kernel
theorem d_FB_purchaseAt_26 : decode b_FB_purchaseAt 26 = .ok (.aconst_null, 1) := by decide +kernel
theorem d_FB_purchaseAt_27 : decode b_FB_purchaseAt 27 = .ok (.areturn, 1) := by decide +kernel
set_option maxHeartbeats 4000000 in
set_option maxRecDepth 100000 in
theorem c_FB_purchaseAt (l : Launch) (dC : Nat → ClassId) (dI : Nat → Nat → Nat) (tys : List (ClassId × FieldType)) (L : List Nat) (f : Nat → va_E) (o : Nat) (x : Nat) (o_na o_np o_nm o_yr o_tl o_fl : Int32) (o_xa o_xm o_xr o_xb : Nat) (x_c : ClassId) (x_g : Nat → Option Nat) (fd : Int32) (hm_o : o ∈ L) (he_o : f o = .inr (0, [.ref o_xa, .ref x, .ref o_xm, .ref o_xr, .ref o_xb, .int o_na, .int o_np, .int o_nm, .int o_yr, .int o_tl, .int o_fl])) (hm_x : x ∈ L) (he_x : f x = .inl (x_c, 300, .inr (.inr (.inr (.inr x_g))))) (ht_x : tys[1]? = some (x_c, .object "FundBook$Purchase")) : Met l y_FB_purchaseAt w_FB_purchaseAt { frames := 1, cells := 0, slots := 0, locals := 25 } (rd_P (dC, dI) classes tys (va_pl L f) [.ref o, .int fd]) (va_Sq (fun r => r = if inN fd 300 = true then x_g fd.toNatClampNeg else none)) 0 0 (fun _ => False) := by
  refine Met.ofW (cc := b_FB_purchaseAt) (maxL := 2) (ret := (some (.object "FundBook$Purchase"))) (by decide) rfl ?_
  intro p e s m args below meth c s₁ B hml hv
  obtain ⟨rfl, hP, hK, hN⟩ := hv
  have hx := B.exec
  have hb := B.bytes
  have hr := B.returns
  have hts := atoms_spec (ws := w_FB_purchaseAt) B.pre
  have hG := fun (w : Cond) (h : w ∈ wG) => hts w (List.mem_cons_of_mem _ h)
  have hown : s.vm.findClass R_FB = some m.cls := findClass_of_methodNamed B.named
  have hlocks := B.notSynchronized
  have hl := lv_entry ([.ref o, .int fd]) (n := 2) (Nat.le_of_ble_eq_true rfl)
  rw [lg_entry_eq]
  generalize (lg_sl ([.ref o, .int fd]) ++ List.replicate (2 - (lg_sl ([.ref o, .int fd])).length) Slot.unset).toArray = ls at hl ⊢
  have hl : lv_has ls 2 [(0, .ref o), (1, .int fd)] := hl
  refine lv_iload_n hx hb d_FB_purchaseAt_0 rfl (lv_at hl 1 rfl) ?_
  refine lv_i2l hx hb d_FB_purchaseAt_1 rfl ?_
  refine lv_lconst (v := 0) hx hb d_FB_purchaseAt_2 (by decide) ?_
  refine lv_aload_n hx hb d_FB_purchaseAt_3 rfl (lv_at hl 0 rfl) ?_
  refine fw_get (D := (dC, dI)) (ci := 0) (v := .ref x) (C := R_FB) (T := F_FB) (N := 11) hx hb hG iG_FB hown hK hP hm_o he_o rfl 1 (by decide) (hG _ k_68) (fun _ h9 => h9) rfl d_FB_purchaseAt_4 ?_
  refine fw_alen (D := (dC, dI)) (v := nI 300) hx hb hK hP hm_x 1 he_x ht_x rfl d_FB_purchaseAt_7 ?_
  refine lv_iconst (v := 1) hx hb d_FB_purchaseAt_8 (by decide) ?_
  refine lv_isub hx hb d_FB_purchaseAt_9 ?_
  refine lv_i2l hx hb d_FB_purchaseAt_10 rfl ?_
  refine rd_calli (va_runS (As := [.long (fd.toInt64), .long 0, .long ((nI 300 - 1).toInt64)]) (rest := []) ⟨hx, hb, hml, hown, hts⟩ (c_FB_isWithin l dC dI tys (va_pl L f) (fd.toInt64) 0 ((nI 300 - 1).toInt64)) (cwS 3 hts (gd_S k_106 k_107 k_14 k_108) rfl rfl rfl (by decide +kernel) ⟨Nat.le_of_ble_eq_true rfl, Nat.le_of_ble_eq_true rfl⟩) (rd_preS hK hN hP) rfl rfl hl.1 rfl (lv_room (Nat.le_of_ble_eq_true rfl)) d_FB_purchaseAt_11 ⟨Nat.zero_le _, Nat.zero_le _⟩) (fun r_1 hr_1 => ?_)
  subst hr_1
  refine lb_if_eq (tgt := 26) hx hb d_FB_purchaseAt_14 (by decide) (fun c_2 => ?_) (fun c_2 => ?_)
  · refine lv_null hx hb d_FB_purchaseAt_26 ?_
    exact W.aret (v := .null) hx hb hr (Or.inl ⟨_, rfl⟩) (Or.inl rfl) (fun t ht hW => ⟨none, rfl, (by simp [inN, c_2]), ht⟩) (fun q h => by cases h) d_FB_purchaseAt_27
  · refine lv_aload_n hx hb d_FB_purchaseAt_17 rfl (lv_at hl 0 rfl) ?_
    refine fw_get (D := (dC, dI)) (ci := 0) (v := .ref x) (C := R_FB) (T := F_FB) (N := 11) hx hb hG iG_FB hown hK hP hm_o he_o rfl 1 (by decide) (hG _ k_68) (fun _ h9 => h9) rfl d_FB_purchaseAt_18 ?_
    refine lv_iload_n hx hb d_FB_purchaseAt_21 rfl (lv_at hl 1 rfl) ?_
    refine fw_ald (D := (dC, dI)) (C := "FundBook$Purchase") (n := 300) (g := x_g) hx hb hK hP hm_x 1 he_x ht_x (inN_vp (n := 300) (by decide) c_2) d_FB_purchaseAt_22 ?_
    refine lv_goto (tgt := 27) hx hb d_FB_purchaseAt_23 (by decide) ?_
    exact W.aret (v := va_rf (x_g (fd.toNatClampNeg))) hx hb hr (Or.inl ⟨_, rfl⟩) (va_rf_or _) (fun t ht hW => ⟨x_g (fd.toNatClampNeg), rfl, (by simp [inN, c_2]), ht⟩) (fun q h => by cases h) d_FB_purchaseAt_27

theorem d_FB_moveAt_0 : decode b_FB_moveAt 0 = .ok (.iload_n 1, 1) := by decide +kernel
theorem d_FB_moveAt_1 : decode b_FB_moveAt 1 = .ok (.i2l, 1) := by decide +kernel
theorem d_FB_moveAt_2 : decode b_FB_moveAt 2 = .ok (.lconst 0, 1) := by decide +kernel
theorem d_FB_moveAt_3 : decode b_FB_moveAt 3 = .ok (.aload_n 0, 1) := by decide +kernel
theorem d_FB_moveAt_4 : decode b_FB_moveAt 4 = .ok (.getfield 23, 3) := by decide +kernel
theorem d_FB_moveAt_7 : decode b_FB_moveAt 7 = .ok (.arraylength, 1) := by decide +kernel
theorem d_FB_moveAt_8 : decode b_FB_moveAt 8 = .ok (.iconst 1, 1) := by decide +kernel
theorem d_FB_moveAt_9 : decode b_FB_moveAt 9 = .ok (.isub, 1) := by decide +kernel
theorem d_FB_moveAt_10 : decode b_FB_moveAt 10 = .ok (.i2l, 1) := by decide +kernel
theorem d_FB_moveAt_11 : decode b_FB_moveAt 11 = .ok (.invokestatic 61, 3) := by decide +kernel
theorem d_FB_moveAt_14 : decode b_FB_moveAt 14 = .ok (.ifCond .eq 12, 3) := by decide +kernel
theorem d_FB_moveAt_17 : decode b_FB_moveAt 17 = .ok (.aload_n 0, 1) := by decide +kernel
theorem d_FB_moveAt_18 : decode b_FB_moveAt 18 = .ok (.getfield 23, 3) := by decide +kernel
theorem d_FB_moveAt_21 : decode b_FB_moveAt 21 = .ok (.iload_n 1, 1) := by decide +kernel
theorem d_FB_moveAt_22 : decode b_FB_moveAt 22 = .ok (.aaload, 1) := by decide +kernel
theorem d_FB_moveAt_23 : decode b_FB_moveAt 23 = .ok (.goto 4, 3) := by decide +kernel
theorem d_FB_moveAt_26 : decode b_FB_moveAt 26 = .ok (.aconst_null, 1) := by decide +kernel
theorem d_FB_moveAt_27 : decode b_FB_moveAt 27 = .ok (.areturn, 1) := by decide +kernel
set_option maxHeartbeats 4000000 in
set_option maxRecDepth 100000 in
theorem c_FB_moveAt (l : Launch) (dC : Nat → ClassId) (dI : Nat → Nat → Nat) (tys : List (ClassId × FieldType)) (L : List Nat) (f : Nat → va_E) (o : Nat) (x : Nat) (o_na o_np o_nm o_yr o_tl o_fl : Int32) (o_xa o_xp o_xr o_xb : Nat) (x_c : ClassId) (x_g : Nat → Option Nat) (fd : Int32) (hm_o : o ∈ L) (he_o : f o = .inr (0, [.ref o_xa, .ref o_xp, .ref x, .ref o_xr, .ref o_xb, .int o_na, .int o_np, .int o_nm, .int o_yr, .int o_tl, .int o_fl])) (hm_x : x ∈ L) (he_x : f x = .inl (x_c, 100, .inr (.inr (.inr (.inr x_g))))) (ht_x : tys[2]? = some (x_c, .object "FundBook$Move")) : Met l y_FB_moveAt w_FB_moveAt { frames := 1, cells := 0, slots := 0, locals := 25 } (rd_P (dC, dI) classes tys (va_pl L f) [.ref o, .int fd]) (va_Sq (fun r => r = if inN fd 100 = true then x_g fd.toNatClampNeg else none)) 0 0 (fun _ => False) := by
  refine Met.ofW (cc := b_FB_moveAt) (maxL := 2) (ret := (some (.object "FundBook$Move"))) (by decide) rfl ?_
  intro p e s m args below meth c s₁ B hml hv
  obtain ⟨rfl, hP, hK, hN⟩ := hv
  have hx := B.exec
  have hb := B.bytes
  have hr := B.returns
  have hts := atoms_spec (ws := w_FB_moveAt) B.pre
  have hG := fun (w : Cond) (h : w ∈ wG) => hts w (List.mem_cons_of_mem _ h)
  have hown : s.vm.findClass R_FB = some m.cls := findClass_of_methodNamed B.named
  have hlocks := B.notSynchronized
  have hl := lv_entry ([.ref o, .int fd]) (n := 2) (Nat.le_of_ble_eq_true rfl)
  rw [lg_entry_eq]
  generalize (lg_sl ([.ref o, .int fd]) ++ List.replicate (2 - (lg_sl ([.ref o, .int fd])).length) Slot.unset).toArray = ls at hl ⊢
  have hl : lv_has ls 2 [(0, .ref o), (1, .int fd)] := hl
  refine lv_iload_n hx hb d_FB_moveAt_0 rfl (lv_at hl 1 rfl) ?_
  refine lv_i2l hx hb d_FB_moveAt_1 rfl ?_
  refine lv_lconst (v := 0) hx hb d_FB_moveAt_2 (by decide) ?_
  refine lv_aload_n hx hb d_FB_moveAt_3 rfl (lv_at hl 0 rfl) ?_
  refine fw_get (D := (dC, dI)) (ci := 0) (v := .ref x) (C := R_FB) (T := F_FB) (N := 11) hx hb hG iG_FB hown hK hP hm_o he_o rfl 2 (by decide) (hG _ k_69) (fun _ h9 => h9) rfl d_FB_moveAt_4 ?_
  refine fw_alen (D := (dC, dI)) (v := nI 100) hx hb hK hP hm_x 2 he_x ht_x rfl d_FB_moveAt_7 ?_
  refine lv_iconst (v := 1) hx hb d_FB_moveAt_8 (by decide) ?_
  refine lv_isub hx hb d_FB_moveAt_9 ?_
  refine lv_i2l hx hb d_FB_moveAt_10 rfl ?_
  refine rd_calli (va_runS (As := [.long (fd.toInt64), .long 0, .long ((nI 100 - 1).toInt64)]) (rest := []) ⟨hx, hb, hml, hown, hts⟩ (c_FB_isWithin l dC dI tys (va_pl L f) (fd.toInt64) 0 ((nI 100 - 1).toInt64)) (cwS 3 hts (gd_S k_106 k_107 k_14 k_108) rfl rfl rfl (by decide +kernel) ⟨Nat.le_of_ble_eq_true rfl, Nat.le_of_ble_eq_true rfl⟩) (rd_preS hK hN hP) rfl rfl hl.1 rfl (lv_room (Nat.le_of_ble_eq_true rfl)) d_FB_moveAt_11 ⟨Nat.zero_le _, Nat.zero_le _⟩) (fun r_1 hr_1 => ?_)
  subst hr_1
  refine lb_if_eq (tgt := 26) hx hb d_FB_moveAt_14 (by decide) (fun c_2 => ?_) (fun c_2 => ?_)
  · refine lv_null hx hb d_FB_moveAt_26 ?_
    exact W.aret (v := .null) hx hb hr (Or.inl ⟨_, rfl⟩) (Or.inl rfl) (fun t ht hW => ⟨none, rfl, (by simp [inN, c_2]), ht⟩) (fun q h => by cases h) d_FB_moveAt_27
  · refine lv_aload_n hx hb d_FB_moveAt_17 rfl (lv_at hl 0 rfl) ?_
    refine fw_get (D := (dC, dI)) (ci := 0) (v := .ref x) (C := R_FB) (T := F_FB) (N := 11) hx hb hG iG_FB hown hK hP hm_o he_o rfl 2 (by decide) (hG _ k_69) (fun _ h9 => h9) rfl d_FB_moveAt_18 ?_
    refine lv_iload_n hx hb d_FB_moveAt_21 rfl (lv_at hl 1 rfl) ?_
    refine fw_ald (D := (dC, dI)) (C := "FundBook$Move") (n := 100) (g := x_g) hx hb hK hP hm_x 2 he_x ht_x (inN_vp (n := 100) (by decide) c_2) d_FB_moveAt_22 ?_
    refine lv_goto (tgt := 27) hx hb d_FB_moveAt_23 (by decide) ?_
    exact W.aret (v := va_rf (x_g (fd.toNatClampNeg))) hx hb hr (Or.inl ⟨_, rfl⟩) (va_rf_or _) (fun t ht hW => ⟨x_g (fd.toNatClampNeg), rfl, (by simp [inN, c_2]), ht⟩) (fun q h => by cases h) d_FB_moveAt_27

theorem d_FB_isCurrency_0 : decode b_FB_isCurrency 0 = .ok (.iload_n 1, 1) := by decide +kernel
theorem d_FB_isCurrency_1 : decode b_FB_isCurrency 1 = .ok (.i2l, 1) := by decide +kernel
theorem d_FB_isCurrency_2 : decode b_FB_isCurrency 2 = .ok (.lconst 0, 1) := by decide +kernel
theorem d_FB_isCurrency_3 : decode b_FB_isCurrency 3 = .ok (.aload_n 0, 1) := by decide +kernel
theorem d_FB_isCurrency_4 : decode b_FB_isCurrency 4 = .ok (.getfield 29, 3) := by decide +kernel
theorem d_FB_isCurrency_7 : decode b_FB_isCurrency 7 = .ok (.arraylength, 1) := by decide +kernel
theorem d_FB_isCurrency_8 : decode b_FB_isCurrency 8 = .ok (.iconst 1, 1) := by decide +kernel
theorem d_FB_isCurrency_9 : decode b_FB_isCurrency 9 = .ok (.isub, 1) := by decide +kernel
theorem d_FB_isCurrency_10 : decode b_FB_isCurrency 10 = .ok (.i2l, 1) := by decide +kernel
theorem d_FB_isCurrency_11 : decode b_FB_isCurrency 11 = .ok (.invokestatic 61, 3) := by decide +kernel
theorem d_FB_isCurrency_14 : decode b_FB_isCurrency 14 = .ok (.ireturn, 1) := by decide +kernel
set_option maxHeartbeats 4000000 in
set_option maxRecDepth 100000 in
theorem c_FB_isCurrency (l : Launch) (dC : Nat → ClassId) (dI : Nat → Nat → Nat) (tys : List (ClassId × FieldType)) (L : List Nat) (f : Nat → va_E) (o : Nat) (x : Nat) (o_na o_np o_nm o_yr o_tl o_fl : Int32) (o_xa o_xp o_xm o_xb : Nat) (x_c : ClassId) (x_g : Nat → Option Nat) (cu : Int32) (hm_o : o ∈ L) (he_o : f o = .inr (0, [.ref o_xa, .ref o_xp, .ref o_xm, .ref x, .ref o_xb, .int o_na, .int o_np, .int o_nm, .int o_yr, .int o_tl, .int o_fl])) (hm_x : x ∈ L) (he_x : f x = .inl (x_c, 10, .inr (.inr (.inr (.inr x_g))))) (ht_x : tys[3]? = some (x_c, .object "FundBook$Rate")) : Met l y_FB_isCurrency w_FB_isCurrency { frames := 1, cells := 0, slots := 0, locals := 25 } (rd_P (dC, dI) classes tys (va_pl L f) [.ref o, .int cu]) (vp_Si (fun r => r = bI (inN cu 10))) 0 0 (fun _ => False) := by
  refine Met.ofW (cc := b_FB_isCurrency) (maxL := 2) (ret := (some .boolean)) (by decide) rfl ?_
  intro p e s m args below meth c s₁ B hml hv
  obtain ⟨rfl, hP, hK, hN⟩ := hv
  have hx := B.exec
  have hb := B.bytes
  have hr := B.returns
  have hts := atoms_spec (ws := w_FB_isCurrency) B.pre
  have hG := fun (w : Cond) (h : w ∈ wG) => hts w (List.mem_cons_of_mem _ h)
  have hown : s.vm.findClass R_FB = some m.cls := findClass_of_methodNamed B.named
  have hlocks := B.notSynchronized
  have hl := lv_entry ([.ref o, .int cu]) (n := 2) (Nat.le_of_ble_eq_true rfl)
  rw [lg_entry_eq]
  generalize (lg_sl ([.ref o, .int cu]) ++ List.replicate (2 - (lg_sl ([.ref o, .int cu])).length) Slot.unset).toArray = ls at hl ⊢
  have hl : lv_has ls 2 [(0, .ref o), (1, .int cu)] := hl
  refine lv_iload_n hx hb d_FB_isCurrency_0 rfl (lv_at hl 1 rfl) ?_
  refine lv_i2l hx hb d_FB_isCurrency_1 rfl ?_
  refine lv_lconst (v := 0) hx hb d_FB_isCurrency_2 (by decide) ?_
  refine lv_aload_n hx hb d_FB_isCurrency_3 rfl (lv_at hl 0 rfl) ?_
  refine fw_get (D := (dC, dI)) (ci := 0) (v := .ref x) (C := R_FB) (T := F_FB) (N := 11) hx hb hG iG_FB hown hK hP hm_o he_o rfl 3 (by decide) (hG _ k_70) (fun _ h9 => h9) rfl d_FB_isCurrency_4 ?_
  refine fw_alen (D := (dC, dI)) (v := nI 10) hx hb hK hP hm_x 3 he_x ht_x rfl d_FB_isCurrency_7 ?_
  refine lv_iconst (v := 1) hx hb d_FB_isCurrency_8 (by decide) ?_
  refine lv_isub hx hb d_FB_isCurrency_9 ?_
  refine lv_i2l hx hb d_FB_isCurrency_10 rfl ?_
  refine rd_calli (va_runS (As := [.long (cu.toInt64), .long 0, .long ((nI 10 - 1).toInt64)]) (rest := []) ⟨hx, hb, hml, hown, hts⟩ (c_FB_isWithin l dC dI tys (va_pl L f) (cu.toInt64) 0 ((nI 10 - 1).toInt64)) (cwS 3 hts (gd_S k_106 k_107 k_14 k_108) rfl rfl rfl (by decide +kernel) ⟨Nat.le_of_ble_eq_true rfl, Nat.le_of_ble_eq_true rfl⟩) (rd_preS hK hN hP) rfl rfl hl.1 rfl (lv_room (Nat.le_of_ble_eq_true rfl)) d_FB_isCurrency_11 ⟨Nat.zero_le _, Nat.zero_le _⟩) (fun r_1 hr_1 => ?_)
  subst hr_1
  exact W.zret (v := (bI (iw (cu.toInt64) 0 ((nI 10 - 1).toInt64)))) (ty := .boolean) hx hb hr (bI_nar _) (fun t ht hW => ⟨_, rfl, rfl, ht⟩) (fun q h => by cases h) d_FB_isCurrency_14

theorem d_FB_failing_0 : decode b_FB_failing 0 = .ok (.aload_n 0, 1) := by decide +kernel
theorem d_FB_failing_1 : decode b_FB_failing 1 = .ok (.getfield 44, 3) := by decide +kernel
theorem d_FB_failing_4 : decode b_FB_failing 4 = .ok (.ireturn, 1) := by decide +kernel
set_option maxHeartbeats 4000000 in
set_option maxRecDepth 100000 in
theorem c_FB_failing (l : Launch) (dC : Nat → ClassId) (dI : Nat → Nat → Nat) (tys : List (ClassId × FieldType)) (L : List Nat) (f : Nat → va_E) (o : Nat) (o_na o_np o_nm o_yr o_tl o_fl : Int32) (o_xa o_xp o_xm o_xr o_xb : Nat) (hm_o : o ∈ L) (he_o : f o = .inr (0, [.ref o_xa, .ref o_xp, .ref o_xm, .ref o_xr, .ref o_xb, .int o_na, .int o_np, .int o_nm, .int o_yr, .int o_tl, .int o_fl])) : Met l y_FB_failing w_FB_failing { frames := 0, cells := 0, slots := 0, locals := 0 } (rd_P (dC, dI) classes tys (va_pl L f) [.ref o]) (vp_Si (fun r => r = o_fl)) 0 0 (fun _ => False) := by
  refine Met.ofW (cc := b_FB_failing) (maxL := 1) (ret := (some .int)) (by decide) rfl ?_
  intro p e s m args below meth c s₁ B hml hv
  obtain ⟨rfl, hP, hK, hN⟩ := hv
  have hx := B.exec
  have hb := B.bytes
  have hr := B.returns
  have hts := atoms_spec (ws := w_FB_failing) B.pre
  have hG := fun (w : Cond) (h : w ∈ wG) => hts w (List.mem_cons_of_mem _ h)
  have hown : s.vm.findClass R_FB = some m.cls := findClass_of_methodNamed B.named
  have hlocks := B.notSynchronized
  have hl := lv_entry ([.ref o]) (n := 1) (Nat.le_of_ble_eq_true rfl)
  rw [lg_entry_eq]
  generalize (lg_sl ([.ref o]) ++ List.replicate (1 - (lg_sl ([.ref o])).length) Slot.unset).toArray = ls at hl ⊢
  have hl : lv_has ls 1 [(0, .ref o)] := hl
  refine lv_aload_n hx hb d_FB_failing_0 rfl (lv_at hl 0 rfl) ?_
  refine fw_get (D := (dC, dI)) (ci := 0) (v := .int o_fl) (C := R_FB) (T := F_FB) (N := 11) hx hb hG iG_FB hown hK hP hm_o he_o rfl 10 (by decide) (hG _ k_77) (fun _ h9 => h9) rfl d_FB_failing_1 ?_
  exact W.iret (v := o_fl) hx hb hr (fun t ht hW => ⟨_, rfl, rfl, ht⟩) (fun q h => by cases h) d_FB_failing_4
end
section
/-- the reference's cells -/
def mw (ad : Nat → Nat) (cA : Nat → ClassId) (th yr : Int32) (nf no nt : Nat) (bd : Int32) (nb : Nat) (fl : Int32) (AI : Nat → Nat → Int32) (AN : Nat → Nat → Nat) (AB : Nat → Nat → Bool) (AL : Nat → Nat → Int64) : va_W := [(ad 0, .inr (7, [.int th, .int yr, .int (nI nf), .ref (ad 1), .ref (ad 2), .ref (ad 3), .int (nI no), .ref (ad 4), .ref (ad 5), .ref (ad 6), .ref (ad 7), .ref (ad 8), .ref (ad 9), .ref (ad 10), .ref (ad 11), .ref (ad 12), .int (nI nt), .ref (ad 13), .ref (ad 14), .ref (ad 15), .ref (ad 16), .ref (ad 17), .int bd, .ref (ad 18), .ref (ad 19), .ref (ad 20), .ref (ad 21), .int (nI nb), .ref (ad 22), .ref (ad 23), .int fl])), (ad 1, .inl (cA 1, 30, .inl (AI 1))), (ad 2, .inl (cA 2, 30, .inr (.inl (AL 2)))), (ad 3, .inl (cA 3, 30, .inr (.inl (AL 3)))), (ad 4, .inl (cA 4, 300, .inl (fun i => nI (AN 4 i)))), (ad 5, .inl (cA 5, 300, .inl (AI 5))), (ad 6, .inl (cA 6, 300, .inl (fun i => bI (AB 6 i)))), (ad 7, .inl (cA 7, 300, .inl (AI 7))), (ad 8, .inl (cA 8, 300, .inl (AI 8))), (ad 9, .inl (cA 9, 300, .inl (AI 9))), (ad 10, .inl (cA 10, 300, .inr (.inl (AL 10)))), (ad 11, .inl (cA 11, 300, .inl (AI 11))), (ad 12, .inl (cA 12, 300, .inl (AI 12))), (ad 13, .inl (cA 13, 100, .inl (fun i => nI (AN 13 i)))), (ad 14, .inl (cA 14, 100, .inl (fun i => nI (AN 14 i)))), (ad 15, .inl (cA 15, 100, .inl (AI 15))), (ad 16, .inl (cA 16, 100, .inl (fun i => bI (AB 16 i)))), (ad 17, .inl (cA 17, 10000, .inl (fun i => bI (AB 17 i)))), (ad 18, .inl (cA 18, 10, .inl (fun i => nI (AN 18 i)))), (ad 19, .inl (cA 19, 100, .inl (AI 19))), (ad 20, .inl (cA 20, 100, .inl (AI 20))), (ad 21, .inl (cA 21, 100, .inl (AI 21))), (ad 22, .inl (cA 22, 20, .inl (fun i => nI (AN 22 i)))), (ad 23, .inl (cA 23, 20, .inl (AI 23)))]
def mtys (cA : Nat → ClassId) : List (ClassId × FieldType) := [(cA 1, .int), (cA 2, .long), (cA 3, .long), (cA 4, .int), (cA 5, .int), (cA 6, .boolean), (cA 7, .int), (cA 8, .int), (cA 9, .int), (cA 10, .long), (cA 11, .int), (cA 12, .int), (cA 13, .int), (cA 14, .int), (cA 15, .int), (cA 16, .boolean), (cA 17, .boolean), (cA 18, .int), (cA 19, .int), (cA 20, .int), (cA 21, .int), (cA 22, .int), (cA 23, .int)]
def mwS (ad : Nat → Nat) (cA : Nat → ClassId) (u : MS) : va_W := match u with
  | (th, yr, nf, no, nt, bd, nb, fl, AI, AN, AB, AL) => mw ad cA th yr nf no nt bd nb fl AI AN AB AL
end
section
theorem d_Mo_in_0 : decode b_Mo_in 0 = .ok (.lload_n 0, 1) := by decide +kernel
theorem d_Mo_in_1 : decode b_Mo_in 1 = .ok (.lload_n 2, 1) := by decide +kernel
theorem d_Mo_in_2 : decode b_Mo_in 2 = .ok (.lcmp, 1) := by decide +kernel
theorem d_Mo_in_3 : decode b_Mo_in 3 = .ok (.ifCond .lt 14, 3) := by decide +kernel
theorem d_Mo_in_6 : decode b_Mo_in 6 = .ok (.lload_n 0, 1) := by decide +kernel
theorem d_Mo_in_7 : decode b_Mo_in 7 = .ok (.lload 4, 2) := by decide +kernel
theorem d_Mo_in_9 : decode b_Mo_in 9 = .ok (.lcmp, 1) := by decide +kernel
theorem d_Mo_in_10 : decode b_Mo_in 10 = .ok (.ifCond .gt 7, 3) := by decide +kernel
theorem d_Mo_in_13 : decode b_Mo_in 13 = .ok (.iconst 1, 1) := by decide +kernel
theorem d_Mo_in_14 : decode b_Mo_in 14 = .ok (.goto 4, 3) := by decide +kernel
theorem d_Mo_in_17 : decode b_Mo_in 17 = .ok (.iconst 0, 1) := by decide +kernel
theorem d_Mo_in_18 : decode b_Mo_in 18 = .ok (.ireturn, 1) := by decide +kernel
set_option maxHeartbeats 4000000 in
set_option maxRecDepth 100000 in
theorem c_Mo_in (l : Launch) (dC : Nat → ClassId) (dI : Nat → Nat → Nat) (tys : List (ClassId × FieldType)) (ws : va_W) (v : Int64) (lo : Int64) (hi : Int64) : Met l y_Mo_in w_Mo_in { frames := 0, cells := 0, slots := 0, locals := 0 } (rd_P (dC, dI) classes tys ws [.long v, .long lo, .long hi]) (vp_Si (fun r => r = bI (iw v lo hi))) 0 0 (fun _ => False) := by
  refine Met.ofW (cc := b_Mo_in) (maxL := 6) (ret := (some .boolean)) (by decide) rfl ?_
  intro p e s m args below meth c s₁ B hml hv
  obtain ⟨rfl, hP, hK, hN⟩ := hv
  have hx := B.exec
  have hb := B.bytes
  have hr := B.returns
  have hts := atoms_spec (ws := w_Mo_in) B.pre
  have hG := fun (w : Cond) (h : w ∈ wG) => hts w (List.mem_cons_of_mem _ h)
  have hown : s.vm.findClass R_Mo = some m.cls := findClass_of_methodNamed B.named
  have hlocks := B.notSynchronized
  have hl := lv_entry ([.long v, .long lo, .long hi]) (n := 6) (Nat.le_of_ble_eq_true rfl)
  rw [lg_entry_eq]
  generalize (lg_sl ([.long v, .long lo, .long hi]) ++ List.replicate (6 - (lg_sl ([.long v, .long lo, .long hi])).length) Slot.unset).toArray = ls at hl ⊢
  have hl : lv_has ls 6 [(0, .long v), (2, .long lo), (4, .long hi)] := hl
  refine lv_lload_n hx hb d_Mo_in_0 rfl (lv_at hl 0 rfl) ?_
  refine lv_lload_n hx hb d_Mo_in_1 rfl (lv_at hl 1 rfl) ?_
  refine lc_lt (tgt := 17) hx hb d_Mo_in_2 d_Mo_in_3 (by decide) (fun c_1 => ?_) (fun c_1 => ?_)
  · refine lv_iconst (v := 0) hx hb d_Mo_in_17 (by decide) ?_
    exact W.zret (v := 0) (ty := .boolean) hx hb hr rfl (fun t ht hW => ⟨_, rfl, (by simp [iw, bI, c_1]), ht⟩) (fun q h => by cases h) d_Mo_in_18
  · refine lv_lload_n hx hb d_Mo_in_6 rfl (lv_at hl 0 rfl) ?_
    refine lv_lload hx hb d_Mo_in_7 (lv_at hl 2 rfl) ?_
    refine lc_gt (tgt := 17) hx hb d_Mo_in_9 d_Mo_in_10 (by decide) (fun c_2 => ?_) (fun c_2 => ?_)
    · refine lv_iconst (v := 0) hx hb d_Mo_in_17 (by decide) ?_
      exact W.zret (v := 0) (ty := .boolean) hx hb hr rfl (fun t ht hW => ⟨_, rfl, (by simp [iw, bI, c_1, c_2]), ht⟩) (fun q h => by cases h) d_Mo_in_18
    · refine lv_iconst (v := 1) hx hb d_Mo_in_13 (by decide) ?_
      refine lv_goto (tgt := 18) hx hb d_Mo_in_14 (by decide) ?_
      exact W.zret (v := 1) (ty := .boolean) hx hb hr rfl (fun t ht hW => ⟨_, rfl, (by simp [iw, bI, c_1, c_2]), ht⟩) (fun q h => by cases h) d_Mo_in_18

theorem d_Mo_isBound_0 : decode b_Mo_isBound 0 = .ok (.lload_n 0, 1) := by decide +kernel
theorem d_Mo_isBound_1 : decode b_Mo_isBound 1 = .ok (.ldc2_w 108, 3) := by decide +kernel
theorem d_Mo_isBound_4 : decode b_Mo_isBound 4 = .ok (.ldc2_w 110, 3) := by decide +kernel
theorem d_Mo_isBound_7 : decode b_Mo_isBound 7 = .ok (.invokestatic 97, 3) := by decide +kernel
theorem d_Mo_isBound_10 : decode b_Mo_isBound 10 = .ok (.ireturn, 1) := by decide +kernel
set_option maxHeartbeats 4000000 in
set_option maxRecDepth 100000 in
theorem c_Mo_isBound (l : Launch) (dC : Nat → ClassId) (dI : Nat → Nat → Nat) (tys : List (ClassId × FieldType)) (ws : va_W) (v : Int64) : Met l y_Mo_isBound w_Mo_isBound { frames := 1, cells := 0, slots := 0, locals := 25 } (rd_P (dC, dI) classes tys ws [.long v]) (vp_Si (fun r => r = bI (bnd v))) 0 0 (fun _ => False) := by
  refine Met.ofW (cc := b_Mo_isBound) (maxL := 2) (ret := (some .boolean)) (by decide) rfl ?_
  intro p e s m args below meth c s₁ B hml hv
  obtain ⟨rfl, hP, hK, hN⟩ := hv
  have hx := B.exec
  have hb := B.bytes
  have hr := B.returns
  have hts := atoms_spec (ws := w_Mo_isBound) B.pre
  have hG := fun (w : Cond) (h : w ∈ wG) => hts w (List.mem_cons_of_mem _ h)
  have hown : s.vm.findClass R_Mo = some m.cls := findClass_of_methodNamed B.named
  have hlocks := B.notSynchronized
  have hl := lv_entry ([.long v]) (n := 2) (Nat.le_of_ble_eq_true rfl)
  rw [lg_entry_eq]
  generalize (lg_sl ([.long v]) ++ List.replicate (2 - (lg_sl ([.long v])).length) Slot.unset).toArray = ls at hl ⊢
  have hl : lv_has ls 2 [(0, .long v)] := hl
  refine lv_lload_n hx hb d_Mo_isBound_0 rfl (lv_at hl 0 rfl) ?_
  refine lv_ldc2 (own := R_Mo) (v := (-1000000000000000)) hx hb hown (hG _ k_652) d_Mo_isBound_1 ?_
  refine lv_ldc2 (own := R_Mo) (v := 1000000000000000) hx hb hown (hG _ k_653) d_Mo_isBound_4 ?_
  refine rd_calli (va_runS (As := [.long v, .long (-1000000000000000), .long 1000000000000000]) (rest := []) ⟨hx, hb, hml, hown, hts⟩ (c_Mo_in l dC dI tys ws v (-1000000000000000) 1000000000000000) (cwS 3 hts (gd_S k_629 k_630 k_17 k_631) rfl rfl rfl (by decide +kernel) ⟨Nat.le_of_ble_eq_true rfl, Nat.le_of_ble_eq_true rfl⟩) (rd_preS hK hN hP) rfl rfl hl.1 rfl (lv_room (Nat.le_of_ble_eq_true rfl)) d_Mo_isBound_7 ⟨Nat.zero_le _, Nat.zero_le _⟩) (fun r_1 hr_1 => ?_)
  subst hr_1
  exact W.zret (v := (bI (iw v (-1000000000000000) 1000000000000000))) (ty := .boolean) hx hb hr (bI_nar _) (fun t ht hW => ⟨_, rfl, rfl, ht⟩) (fun q h => by cases h) d_Mo_isBound_10

theorem d_Mo_thrown_0 : decode b_Mo_thrown 0 = .ok (.aload_n 0, 1) := by decide +kernel
theorem d_Mo_thrown_1 : decode b_Mo_thrown 1 = .ok (.getfield 91, 3) := by decide +kernel
theorem d_Mo_thrown_4 : decode b_Mo_thrown 4 = .ok (.ireturn, 1) := by decide +kernel
set_option maxHeartbeats 4000000 in
set_option maxRecDepth 100000 in
theorem c_Mo_thrown (l : Launch) (dC : Nat → ClassId) (dI : Nat → Nat → Nat) (ad : Nat → Nat) (cA : Nat → ClassId) (th yr : Int32) (nf no nt : Nat) (bd : Int32) (nb : Nat) (fl : Int32) (AI : Nat → Nat → Int32) (AN : Nat → Nat → Nat) (AB : Nat → Nat → Bool) (AL : Nat → Nat → Int64) : Met l y_Mo_thrown w_Mo_thrown { frames := 0, cells := 0, slots := 0, locals := 0 } (rd_P (dC, dI) classes (mtys cA) (mw ad cA th yr nf no nt bd nb fl AI AN AB AL) [.ref (ad 0)]) (vp_Si (fun r => r = th)) 0 0 (fun _ => False) := by
  refine Met.ofW (cc := b_Mo_thrown) (maxL := 1) (ret := (some .int)) (by decide) rfl ?_
  intro p e s m args below meth c s₁ B hml hv
  obtain ⟨rfl, hP, hK, hN⟩ := hv
  have hx := B.exec
  have hb := B.bytes
  have hr := B.returns
  have hts := atoms_spec (ws := w_Mo_thrown) B.pre
  have hG := fun (w : Cond) (h : w ∈ wG) => hts w (List.mem_cons_of_mem _ h)
  have hown : s.vm.findClass R_Mo = some m.cls := findClass_of_methodNamed B.named
  have hlocks := B.notSynchronized
  have hl := lv_entry ([.ref (ad 0)]) (n := 1) (Nat.le_of_ble_eq_true rfl)
  rw [lg_entry_eq]
  generalize (lg_sl ([.ref (ad 0)]) ++ List.replicate (1 - (lg_sl ([.ref (ad 0)])).length) Slot.unset).toArray = ls at hl ⊢
  have hl : lv_has ls 1 [(0, .ref (ad 0))] := hl
  refine lv_aload_n hx hb d_Mo_thrown_0 rfl (lv_at hl 0 rfl) ?_
  refine va_get (D := (dC, dI)) (ci := 7) (v := .int th) (C := R_Mo) (T := F_Mo) (N := 31) hx hb hG iG_Mo hown hK hP 0 rfl rfl 0 (by decide) (hG _ k_523) (fun _ h9 => h9) rfl d_Mo_thrown_1 ?_
  exact W.iret (v := th) hx hb hr (fun t ht hW => ⟨_, rfl, rfl, ht⟩) (fun q h => by cases h) d_Mo_thrown_4

theorem d_Mo_isFund_0 : decode b_Mo_isFund 0 = .ok (.iload_n 1, 1) := by decide +kernel
theorem d_Mo_isFund_1 : decode b_Mo_isFund 1 = .ok (.i2l, 1) := by decide +kernel
theorem d_Mo_isFund_2 : decode b_Mo_isFund 2 = .ok (.lconst 0, 1) := by decide +kernel
theorem d_Mo_isFund_3 : decode b_Mo_isFund 3 = .ok (.aload_n 0, 1) := by decide +kernel
theorem d_Mo_isFund_4 : decode b_Mo_isFund 4 = .ok (.getfield 94, 3) := by decide +kernel
theorem d_Mo_isFund_7 : decode b_Mo_isFund 7 = .ok (.iconst 1, 1) := by decide +kernel
theorem d_Mo_isFund_8 : decode b_Mo_isFund 8 = .ok (.isub, 1) := by decide +kernel
theorem d_Mo_isFund_9 : decode b_Mo_isFund 9 = .ok (.i2l, 1) := by decide +kernel
theorem d_Mo_isFund_10 : decode b_Mo_isFund 10 = .ok (.invokestatic 97, 3) := by decide +kernel
theorem d_Mo_isFund_13 : decode b_Mo_isFund 13 = .ok (.ireturn, 1) := by decide +kernel
set_option maxHeartbeats 4000000 in
set_option maxRecDepth 100000 in
theorem c_Mo_isFund (l : Launch) (dC : Nat → ClassId) (dI : Nat → Nat → Nat) (ad : Nat → Nat) (cA : Nat → ClassId) (th yr : Int32) (nf no nt : Nat) (bd : Int32) (nb : Nat) (fl : Int32) (AI : Nat → Nat → Int32) (AN : Nat → Nat → Nat) (AB : Nat → Nat → Bool) (AL : Nat → Nat → Int64) (fd : Int32) : Met l y_Mo_isFund w_Mo_isFund { frames := 1, cells := 0, slots := 0, locals := 25 } (rd_P (dC, dI) classes (mtys cA) (mw ad cA th yr nf no nt bd nb fl AI AN AB AL) [.ref (ad 0), .int fd]) (vp_Si (fun r => r = bI (inN fd nf))) 0 0 (fun _ => False) := by
  refine Met.ofW (cc := b_Mo_isFund) (maxL := 2) (ret := (some .boolean)) (by decide) rfl ?_
  intro p e s m args below meth c s₁ B hml hv
  obtain ⟨rfl, hP, hK, hN⟩ := hv
  have hx := B.exec
  have hb := B.bytes
  have hr := B.returns
  have hts := atoms_spec (ws := w_Mo_isFund) B.pre
  have hG := fun (w : Cond) (h : w ∈ wG) => hts w (List.mem_cons_of_mem _ h)
  have hown : s.vm.findClass R_Mo = some m.cls := findClass_of_methodNamed B.named
  have hlocks := B.notSynchronized
  have hl := lv_entry ([.ref (ad 0), .int fd]) (n := 2) (Nat.le_of_ble_eq_true rfl)
  rw [lg_entry_eq]
  generalize (lg_sl ([.ref (ad 0), .int fd]) ++ List.replicate (2 - (lg_sl ([.ref (ad 0), .int fd])).length) Slot.unset).toArray = ls at hl ⊢
  have hl : lv_has ls 2 [(0, .ref (ad 0)), (1, .int fd)] := hl
  refine lv_iload_n hx hb d_Mo_isFund_0 rfl (lv_at hl 1 rfl) ?_
  refine lv_i2l hx hb d_Mo_isFund_1 rfl ?_
  refine lv_lconst (v := 0) hx hb d_Mo_isFund_2 (by decide) ?_
  refine lv_aload_n hx hb d_Mo_isFund_3 rfl (lv_at hl 0 rfl) ?_
  refine va_get (D := (dC, dI)) (ci := 7) (v := .int (nI nf)) (C := R_Mo) (T := F_Mo) (N := 31) hx hb hG iG_Mo hown hK hP 0 rfl rfl 2 (by decide) (hG _ k_525) (fun _ h9 => h9) rfl d_Mo_isFund_4 ?_
  refine lv_iconst (v := 1) hx hb d_Mo_isFund_7 (by decide) ?_
  refine lv_isub hx hb d_Mo_isFund_8 ?_
  refine lv_i2l hx hb d_Mo_isFund_9 rfl ?_
  refine rd_calli (va_runS (As := [.long (fd.toInt64), .long 0, .long ((nI nf - 1).toInt64)]) (rest := []) ⟨hx, hb, hml, hown, hts⟩ (c_Mo_in l dC dI (mtys cA) (mw ad cA th yr nf no nt bd nb fl AI AN AB AL) (fd.toInt64) 0 ((nI nf - 1).toInt64)) (cwS 3 hts (gd_S k_629 k_630 k_17 k_631) rfl rfl rfl (by decide +kernel) ⟨Nat.le_of_ble_eq_true rfl, Nat.le_of_ble_eq_true rfl⟩) (rd_preS hK hN hP) rfl rfl hl.1 rfl (lv_room (Nat.le_of_ble_eq_true rfl)) d_Mo_isFund_10 ⟨Nat.zero_le _, Nat.zero_le _⟩) (fun r_1 hr_1 => ?_)
  subst hr_1
  exact W.zret (v := (bI (iw (fd.toInt64) 0 ((nI nf - 1).toInt64)))) (ty := .boolean) hx hb hr (bI_nar _) (fun t ht hW => ⟨_, rfl, rfl, ht⟩) (fun q h => by cases h) d_Mo_isFund_13

theorem d_Mo_encumbered_0 : decode b_Mo_encumbered 0 = .ok (.lconst 0, 1) := by decide +kernel
theorem d_Mo_encumbered_1 : decode b_Mo_encumbered 1 = .ok (.lstore_n 2, 1) := by decide +kernel
theorem d_Mo_encumbered_2 : decode b_Mo_encumbered 2 = .ok (.iconst 0, 1) := by decide +kernel
theorem d_Mo_encumbered_3 : decode b_Mo_encumbered 3 = .ok (.istore 4, 2) := by decide +kernel
theorem d_Mo_encumbered_5 : decode b_Mo_encumbered 5 = .ok (.iload 4, 2) := by decide +kernel
theorem d_Mo_encumbered_7 : decode b_Mo_encumbered 7 = .ok (.aload_n 0, 1) := by decide +kernel
theorem d_Mo_encumbered_8 : decode b_Mo_encumbered 8 = .ok (.getfield 101, 3) := by decide +kernel
theorem d_Mo_encumbered_11 : decode b_Mo_encumbered 11 = .ok (.if_icmp .ge 46, 3) := by decide +kernel
theorem d_Mo_encumbered_14 : decode b_Mo_encumbered 14 = .ok (.lload_n 2, 1) := by decide +kernel
theorem d_Mo_encumbered_15 : decode b_Mo_encumbered 15 = .ok (.aload_n 0, 1) := by decide +kernel
theorem d_Mo_encumbered_16 : decode b_Mo_encumbered 16 = .ok (.getfield 20, 3) := by decide +kernel
theorem d_Mo_encumbered_19 : decode b_Mo_encumbered 19 = .ok (.iload 4, 2) := by decide +kernel
theorem d_Mo_encumbered_21 : decode b_Mo_encumbered 21 = .ok (.iaload, 1) := by decide +kernel
theorem d_Mo_encumbered_22 : decode b_Mo_encumbered 22 = .ok (.iload_n 1, 1) := by decide +kernel
theorem d_Mo_encumbered_23 : decode b_Mo_encumbered 23 = .ok (.if_icmp .ne 25, 3) := by decide +kernel
theorem d_Mo_encumbered_26 : decode b_Mo_encumbered 26 = .ok (.aload_n 0, 1) := by decide +kernel
theorem d_Mo_encumbered_27 : decode b_Mo_encumbered 27 = .ok (.getfield 30, 3) := by decide +kernel
theorem d_Mo_encumbered_30 : decode b_Mo_encumbered 30 = .ok (.iload 4, 2) := by decide +kernel
theorem d_Mo_encumbered_32 : decode b_Mo_encumbered 32 = .ok (.iaload, 1) := by decide +kernel
theorem d_Mo_encumbered_33 : decode b_Mo_encumbered 33 = .ok (.iconst 1, 1) := by decide +kernel
theorem d_Mo_encumbered_34 : decode b_Mo_encumbered 34 = .ok (.if_icmp .ne 14, 3) := by decide +kernel
theorem d_Mo_encumbered_37 : decode b_Mo_encumbered 37 = .ok (.aload_n 0, 1) := by decide +kernel
theorem d_Mo_encumbered_38 : decode b_Mo_encumbered 38 = .ok (.getfield 23, 3) := by decide +kernel
theorem d_Mo_encumbered_41 : decode b_Mo_encumbered 41 = .ok (.iload 4, 2) := by decide +kernel
theorem d_Mo_encumbered_43 : decode b_Mo_encumbered 43 = .ok (.iaload, 1) := by decide +kernel
theorem d_Mo_encumbered_44 : decode b_Mo_encumbered 44 = .ok (.i2l, 1) := by decide +kernel
theorem d_Mo_encumbered_45 : decode b_Mo_encumbered 45 = .ok (.goto 4, 3) := by decide +kernel
theorem d_Mo_encumbered_48 : decode b_Mo_encumbered 48 = .ok (.lconst 0, 1) := by decide +kernel
theorem d_Mo_encumbered_49 : decode b_Mo_encumbered 49 = .ok (.ladd, 1) := by decide +kernel
theorem d_Mo_encumbered_50 : decode b_Mo_encumbered 50 = .ok (.lstore_n 2, 1) := by decide +kernel
theorem d_Mo_encumbered_51 : decode b_Mo_encumbered 51 = .ok (.iinc 4 1, 3) := by decide +kernel
theorem d_Mo_encumbered_54 : decode b_Mo_encumbered 54 = .ok (.goto (-49), 3) := by decide +kernel
theorem d_Mo_encumbered_57 : decode b_Mo_encumbered 57 = .ok (.lload_n 2, 1) := by decide +kernel
theorem d_Mo_encumbered_58 : decode b_Mo_encumbered 58 = .ok (.lreturn, 1) := by decide +kernel
set_option maxHeartbeats 4000000 in
set_option maxRecDepth 100000 in
theorem lp_Mo_encumbered {p : Program} {l : Launch} {e : Env} {s : State} {m : MethodId} {args : Array Value} {below : List Frame} {meth : Method} {c : Code} {Q : State → Prop} {R : Room} {H : Heap} {locs : List Loc} {cells slots : Nat} {dC : Nat → ClassId} {dI : Nat → Nat → Nat} {ad : Nat → Nat} {cA : Nat → ClassId} {th yr : Int32} {nf no nt : Nat} {bd : Int32} {nb : Nat} {fl : Int32} {AI : Nat → Nat → Int32} {AN : Nat → Nat → Nat} {AB : Nat → Nat → Bool} {AL : Nat → Nat → Int64} (hx : p.tables.exec = Jvm.exec) (hb : c.code = b_Mo_encumbered) (hml : c.maxLocals = 5) (hown : s.vm.findClass R_Mo = some m.cls) (hts : ∀ w ∈ w_Mo_encumbered, w.before args s = true) (hK : va_K (dC, dI) classes (mtys cA) s) (hP : va_P (dC, dI) classes (mw ad cA th yr nf no nt bd nb fl AI AN AB AL) H) (hno : no ≤ 300) (fd : Int32)
    (exit : ∀ ls : Array Slot, lv_has ls 5 [(4, .int (nI no)), (2, .long (m_enc AI AN no fd)), (0, .ref (ad 0)), (1, .int fd)] → W p l e R s m args below meth c H locs cells slots Q (F0 m 57 ls [])) :
    ∀ n i : Nat, i ≤ no → no + 1 ≤ i + n → ∀ ls : Array Slot, lv_has ls 5 [(4, .int (nI i)), (2, .long (m_enc AI AN i fd)), (0, .ref (ad 0)), (1, .int fd)] → W p l e R s m args below meth c H locs cells slots Q (F0 m 5 ls []) := by
  have hG := fun (w : Cond) (h : w ∈ wG) => hts w (List.mem_cons_of_mem _ h)
  intro n
  induction n with
  | zero =>
    intro i h1 h2
    omega
  | succ n ih =>
    intro i hi hin ls hl
    refine lv_iload hx hb d_Mo_encumbered_5 (lv_at hl 0 rfl) ?_
    refine lv_aload_n hx hb d_Mo_encumbered_7 rfl (lv_at hl 2 rfl) ?_
    refine va_get (D := (dC, dI)) (ci := 7) (v := .int (nI no)) (C := R_Mo) (T := F_Mo) (N := 31) hx hb hG iG_Mo hown hK hP 0 rfl rfl 6 (by decide) (hG _ k_529) (fun _ h9 => h9) rfl d_Mo_encumbered_8 ?_
    refine lv_icmp_ge (tgt := 57) hx hb d_Mo_encumbered_11 (by decide) (fun c_1 => ?_) (fun c_1 => ?_)
    · obtain rfl : i = no := by have := (nI_leI (by omega) (by omega)).mp c_1; omega
      exact exit ls (lv_sub hl [0, 1, 2, 3] rfl)
    · have hlt : i < no := by have h9 := c_1; rw [nI_leI (by omega) (by omega)] at h9; omega
      refine lv_lload_n hx hb d_Mo_encumbered_14 rfl (lv_at hl 1 rfl) ?_
      refine lv_aload_n hx hb d_Mo_encumbered_15 rfl (lv_at hl 2 rfl) ?_
      refine va_get (D := (dC, dI)) (ci := 7) (v := .ref (ad 4)) (C := R_Mo) (T := F_Mo) (N := 31) hx hb hG iG_Mo hown hK hP 0 rfl rfl 7 (by decide) (hG _ k_530) (fun _ h9 => h9) rfl d_Mo_encumbered_16 ?_
      refine lv_iload hx hb d_Mo_encumbered_19 (lv_at hl 0 rfl) ?_
      refine rn_iald (n := 300) (j := i) (g := AN 4) hx hb hK hP 4 3 rfl rfl (by omega) (by decide) d_Mo_encumbered_21 ?_
      refine lv_iload_n hx hb d_Mo_encumbered_22 rfl (lv_at hl 3 rfl) ?_
      refine lv_icmp_ne (tgt := 48) hx hb d_Mo_encumbered_23 (by decide) (fun c_2 => ?_) (fun c_2 => ?_)
      · refine lv_lconst (v := 0) hx hb d_Mo_encumbered_48 (by decide) ?_
        refine lv_ladd hx hb d_Mo_encumbered_49 ?_
        refine lv_topL (y := m_enc AI AN (i + 1) fd) (by simp [m_enc, sumL, c_2]) ?_
        refine lv_lstore_n (lv' := [(2, .long (m_enc AI AN (i + 1) fd)), (4, .int (nI i)), (0, .ref (ad 0)), (1, .int fd)]) hx hb d_Mo_encumbered_50 rfl hl (by decide) rfl (fun ls hl => ?_)
        refine lv_iinc (v := nI (i + 1)) (lv' := [(4, .int (nI (i + 1))), (2, .long (m_enc AI AN (i + 1) fd)), (0, .ref (ad 0)), (1, .int fd)]) hx hb d_Mo_encumbered_51 hl (k := 1) rfl (nI_1 i) (by decide) rfl (fun ls hl => ?_)
        refine lv_goto (tgt := 5) hx hb d_Mo_encumbered_54 (by decide) ?_
        exact ih (i + 1) (by omega) (by omega) ls (lv_sub hl [0, 1, 2, 3] rfl)
      · refine lv_aload_n hx hb d_Mo_encumbered_26 rfl (lv_at hl 2 rfl) ?_
        refine va_get (D := (dC, dI)) (ci := 7) (v := .ref (ad 7)) (C := R_Mo) (T := F_Mo) (N := 31) hx hb hG iG_Mo hown hK hP 0 rfl rfl 10 (by decide) (hG _ k_533) (fun _ h9 => h9) rfl d_Mo_encumbered_27 ?_
        refine lv_iload hx hb d_Mo_encumbered_30 (lv_at hl 0 rfl) ?_
        refine ra_iald (n := 300) (j := i) (f := AI 7) hx hb hK hP 7 6 rfl rfl (by omega) (by decide) d_Mo_encumbered_32 ?_
        refine lv_iconst (v := 1) hx hb d_Mo_encumbered_33 (by decide) ?_
        refine lv_icmp_ne (tgt := 48) hx hb d_Mo_encumbered_34 (by decide) (fun c_3 => ?_) (fun c_3 => ?_)
        · refine lv_lconst (v := 0) hx hb d_Mo_encumbered_48 (by decide) ?_
          refine lv_ladd hx hb d_Mo_encumbered_49 ?_
          refine lv_topL (y := m_enc AI AN (i + 1) fd) (by simp [m_enc, sumL, c_2, c_3]) ?_
          refine lv_lstore_n (lv' := [(2, .long (m_enc AI AN (i + 1) fd)), (4, .int (nI i)), (0, .ref (ad 0)), (1, .int fd)]) hx hb d_Mo_encumbered_50 rfl hl (by decide) rfl (fun ls hl => ?_)
          refine lv_iinc (v := nI (i + 1)) (lv' := [(4, .int (nI (i + 1))), (2, .long (m_enc AI AN (i + 1) fd)), (0, .ref (ad 0)), (1, .int fd)]) hx hb d_Mo_encumbered_51 hl (k := 1) rfl (nI_1 i) (by decide) rfl (fun ls hl => ?_)
          refine lv_goto (tgt := 5) hx hb d_Mo_encumbered_54 (by decide) ?_
          exact ih (i + 1) (by omega) (by omega) ls (lv_sub hl [0, 1, 2, 3] rfl)
        · refine lv_aload_n hx hb d_Mo_encumbered_37 rfl (lv_at hl 2 rfl) ?_
          refine va_get (D := (dC, dI)) (ci := 7) (v := .ref (ad 5)) (C := R_Mo) (T := F_Mo) (N := 31) hx hb hG iG_Mo hown hK hP 0 rfl rfl 8 (by decide) (hG _ k_531) (fun _ h9 => h9) rfl d_Mo_encumbered_38 ?_
          refine lv_iload hx hb d_Mo_encumbered_41 (lv_at hl 0 rfl) ?_
          refine ra_iald (n := 300) (j := i) (f := AI 5) hx hb hK hP 5 4 rfl rfl (by omega) (by decide) d_Mo_encumbered_43 ?_
          refine lv_i2l hx hb d_Mo_encumbered_44 rfl ?_
          refine lv_goto (tgt := 49) hx hb d_Mo_encumbered_45 (by decide) ?_
          refine lv_ladd hx hb d_Mo_encumbered_49 ?_
          refine lv_topL (y := m_enc AI AN (i + 1) fd) (by simp [m_enc, sumL, c_2, c_3]) ?_
          refine lv_lstore_n (lv' := [(2, .long (m_enc AI AN (i + 1) fd)), (4, .int (nI i)), (0, .ref (ad 0)), (1, .int fd)]) hx hb d_Mo_encumbered_50 rfl hl (by decide) rfl (fun ls hl => ?_)
          refine lv_iinc (v := nI (i + 1)) (lv' := [(4, .int (nI (i + 1))), (2, .long (m_enc AI AN (i + 1) fd)), (0, .ref (ad 0)), (1, .int fd)]) hx hb d_Mo_encumbered_51 hl (k := 1) rfl (nI_1 i) (by decide) rfl (fun ls hl => ?_)
          refine lv_goto (tgt := 5) hx hb d_Mo_encumbered_54 (by decide) ?_
          exact ih (i + 1) (by omega) (by omega) ls (lv_sub hl [0, 1, 2, 3] rfl)
set_option maxHeartbeats 4000000 in
set_option maxRecDepth 100000 in
theorem c_Mo_encumbered (l : Launch) (dC : Nat → ClassId) (dI : Nat → Nat → Nat) (ad : Nat → Nat) (cA : Nat → ClassId) (th yr : Int32) (nf no nt : Nat) (bd : Int32) (nb : Nat) (fl : Int32) (AI : Nat → Nat → Int32) (AN : Nat → Nat → Nat) (AB : Nat → Nat → Bool) (AL : Nat → Nat → Int64) (fd : Int32) (hno : no ≤ 300) : Met l y_Mo_encumbered w_Mo_encumbered { frames := 0, cells := 0, slots := 0, locals := 0 } (rd_P (dC, dI) classes (mtys cA) (mw ad cA th yr nf no nt bd nb fl AI AN AB AL) [.ref (ad 0), .int fd]) (vp_Sl (fun r => r = m_enc AI AN no fd)) 0 0 (fun _ => False) := by
  refine Met.ofW (cc := b_Mo_encumbered) (maxL := 5) (ret := (some .long)) (by decide) rfl ?_
  intro p e s m args below meth c s₁ B hml hv
  obtain ⟨rfl, hP, hK, hN⟩ := hv
  have hx := B.exec
  have hb := B.bytes
  have hr := B.returns
  have hts := atoms_spec (ws := w_Mo_encumbered) B.pre
  have hG := fun (w : Cond) (h : w ∈ wG) => hts w (List.mem_cons_of_mem _ h)
  have hown : s.vm.findClass R_Mo = some m.cls := findClass_of_methodNamed B.named
  have hlocks := B.notSynchronized
  have hl := lv_entry ([.ref (ad 0), .int fd]) (n := 5) (Nat.le_of_ble_eq_true rfl)
  rw [lg_entry_eq]
  generalize (lg_sl ([.ref (ad 0), .int fd]) ++ List.replicate (5 - (lg_sl ([.ref (ad 0), .int fd])).length) Slot.unset).toArray = ls at hl ⊢
  have hl : lv_has ls 5 [(0, .ref (ad 0)), (1, .int fd)] := hl
  refine lv_lconst (v := 0) hx hb d_Mo_encumbered_0 (by decide) ?_
  refine lv_lstore_n (lv' := [(2, .long 0), (0, .ref (ad 0)), (1, .int fd)]) hx hb d_Mo_encumbered_1 rfl hl (by decide) rfl (fun ls hl => ?_)
  refine lv_iconst (v := 0) hx hb d_Mo_encumbered_2 (by decide) ?_
  refine lv_istore (lv' := [(4, .int 0), (2, .long 0), (0, .ref (ad 0)), (1, .int fd)]) hx hb d_Mo_encumbered_3 hl (by decide) rfl (fun ls hl => ?_)
  refine lp_Mo_encumbered hx hb hml hown hts hK hP hno fd (fun ls hl => ?_) (no + 1) 0 (by omega) (by omega) ls (lv_sub hl [0, 1, 2, 3] rfl)
  refine lv_lload_n hx hb d_Mo_encumbered_57 rfl (lv_at hl 1 rfl) ?_
  exact W.lret (v := (m_enc AI AN no fd)) hx hb hr (fun t ht hW => ⟨_, rfl, rfl, ht⟩) (fun q h => by cases h) d_Mo_encumbered_58

theorem d_Mo_batched_0 : decode b_Mo_batched 0 = .ok (.lconst 0, 1) := by decide +kernel
theorem d_Mo_batched_1 : decode b_Mo_batched 1 = .ok (.lstore_n 2, 1) := by decide +kernel
theorem d_Mo_batched_2 : decode b_Mo_batched 2 = .ok (.iconst 0, 1) := by decide +kernel
theorem d_Mo_batched_3 : decode b_Mo_batched 3 = .ok (.istore 4, 2) := by decide +kernel
theorem d_Mo_batched_5 : decode b_Mo_batched 5 = .ok (.iload 4, 2) := by decide +kernel
theorem d_Mo_batched_7 : decode b_Mo_batched 7 = .ok (.aload_n 0, 1) := by decide +kernel
theorem d_Mo_batched_8 : decode b_Mo_batched 8 = .ok (.getfield 164, 3) := by decide +kernel
theorem d_Mo_batched_11 : decode b_Mo_batched 11 = .ok (.if_icmp .ge 35, 3) := by decide +kernel
theorem d_Mo_batched_14 : decode b_Mo_batched 14 = .ok (.lload_n 2, 1) := by decide +kernel
theorem d_Mo_batched_15 : decode b_Mo_batched 15 = .ok (.aload_n 0, 1) := by decide +kernel
theorem d_Mo_batched_16 : decode b_Mo_batched 16 = .ok (.getfield 79, 3) := by decide +kernel
theorem d_Mo_batched_19 : decode b_Mo_batched 19 = .ok (.iload 4, 2) := by decide +kernel
theorem d_Mo_batched_21 : decode b_Mo_batched 21 = .ok (.iaload, 1) := by decide +kernel
theorem d_Mo_batched_22 : decode b_Mo_batched 22 = .ok (.iload_n 1, 1) := by decide +kernel
theorem d_Mo_batched_23 : decode b_Mo_batched 23 = .ok (.if_icmp .ne 14, 3) := by decide +kernel
theorem d_Mo_batched_26 : decode b_Mo_batched 26 = .ok (.aload_n 0, 1) := by decide +kernel
theorem d_Mo_batched_27 : decode b_Mo_batched 27 = .ok (.getfield 82, 3) := by decide +kernel
theorem d_Mo_batched_30 : decode b_Mo_batched 30 = .ok (.iload 4, 2) := by decide +kernel
theorem d_Mo_batched_32 : decode b_Mo_batched 32 = .ok (.iaload, 1) := by decide +kernel
theorem d_Mo_batched_33 : decode b_Mo_batched 33 = .ok (.i2l, 1) := by decide +kernel
theorem d_Mo_batched_34 : decode b_Mo_batched 34 = .ok (.goto 4, 3) := by decide +kernel
theorem d_Mo_batched_37 : decode b_Mo_batched 37 = .ok (.lconst 0, 1) := by decide +kernel
theorem d_Mo_batched_38 : decode b_Mo_batched 38 = .ok (.ladd, 1) := by decide +kernel
theorem d_Mo_batched_39 : decode b_Mo_batched 39 = .ok (.lstore_n 2, 1) := by decide +kernel
theorem d_Mo_batched_40 : decode b_Mo_batched 40 = .ok (.iinc 4 1, 3) := by decide +kernel
theorem d_Mo_batched_43 : decode b_Mo_batched 43 = .ok (.goto (-38), 3) := by decide +kernel
theorem d_Mo_batched_46 : decode b_Mo_batched 46 = .ok (.lload_n 2, 1) := by decide +kernel
theorem d_Mo_batched_47 : decode b_Mo_batched 47 = .ok (.lreturn, 1) := by decide +kernel
set_option maxHeartbeats 4000000 in
set_option maxRecDepth 100000 in
theorem lp_Mo_batched {p : Program} {l : Launch} {e : Env} {s : State} {m : MethodId} {args : Array Value} {below : List Frame} {meth : Method} {c : Code} {Q : State → Prop} {R : Room} {H : Heap} {locs : List Loc} {cells slots : Nat} {dC : Nat → ClassId} {dI : Nat → Nat → Nat} {ad : Nat → Nat} {cA : Nat → ClassId} {th yr : Int32} {nf no nt : Nat} {bd : Int32} {nb : Nat} {fl : Int32} {AI : Nat → Nat → Int32} {AN : Nat → Nat → Nat} {AB : Nat → Nat → Bool} {AL : Nat → Nat → Int64} (hx : p.tables.exec = Jvm.exec) (hb : c.code = b_Mo_batched) (hml : c.maxLocals = 5) (hown : s.vm.findClass R_Mo = some m.cls) (hts : ∀ w ∈ w_Mo_batched, w.before args s = true) (hK : va_K (dC, dI) classes (mtys cA) s) (hP : va_P (dC, dI) classes (mw ad cA th yr nf no nt bd nb fl AI AN AB AL) H) (hnb : nb ≤ 20) (fd : Int32)
    (exit : ∀ ls : Array Slot, lv_has ls 5 [(4, .int (nI nb)), (2, .long (m_bat AI AN nb fd)), (0, .ref (ad 0)), (1, .int fd)] → W p l e R s m args below meth c H locs cells slots Q (F0 m 46 ls [])) :
    ∀ n i : Nat, i ≤ nb → nb + 1 ≤ i + n → ∀ ls : Array Slot, lv_has ls 5 [(4, .int (nI i)), (2, .long (m_bat AI AN i fd)), (0, .ref (ad 0)), (1, .int fd)] → W p l e R s m args below meth c H locs cells slots Q (F0 m 5 ls []) := by
  have hG := fun (w : Cond) (h : w ∈ wG) => hts w (List.mem_cons_of_mem _ h)
  intro n
  induction n with
  | zero =>
    intro i h1 h2
    omega
  | succ n ih =>
    intro i hi hin ls hl
    refine lv_iload hx hb d_Mo_batched_5 (lv_at hl 0 rfl) ?_
    refine lv_aload_n hx hb d_Mo_batched_7 rfl (lv_at hl 2 rfl) ?_
    refine va_get (D := (dC, dI)) (ci := 7) (v := .int (nI nb)) (C := R_Mo) (T := F_Mo) (N := 31) hx hb hG iG_Mo hown hK hP 0 rfl rfl 27 (by decide) (hG _ k_550) (fun _ h9 => h9) rfl d_Mo_batched_8 ?_
    refine lv_icmp_ge (tgt := 46) hx hb d_Mo_batched_11 (by decide) (fun c_1 => ?_) (fun c_1 => ?_)
    · obtain rfl : i = nb := by have := (nI_leI (by omega) (by omega)).mp c_1; omega
      exact exit ls (lv_sub hl [0, 1, 2, 3] rfl)
    · have hlt : i < nb := by have h9 := c_1; rw [nI_leI (by omega) (by omega)] at h9; omega
      refine lv_lload_n hx hb d_Mo_batched_14 rfl (lv_at hl 1 rfl) ?_
      refine lv_aload_n hx hb d_Mo_batched_15 rfl (lv_at hl 2 rfl) ?_
      refine va_get (D := (dC, dI)) (ci := 7) (v := .ref (ad 22)) (C := R_Mo) (T := F_Mo) (N := 31) hx hb hG iG_Mo hown hK hP 0 rfl rfl 28 (by decide) (hG _ k_551) (fun _ h9 => h9) rfl d_Mo_batched_16 ?_
      refine lv_iload hx hb d_Mo_batched_19 (lv_at hl 0 rfl) ?_
      refine rn_iald (n := 20) (j := i) (g := AN 22) hx hb hK hP 22 21 rfl rfl (by omega) (by decide) d_Mo_batched_21 ?_
      refine lv_iload_n hx hb d_Mo_batched_22 rfl (lv_at hl 3 rfl) ?_
      refine lv_icmp_ne (tgt := 37) hx hb d_Mo_batched_23 (by decide) (fun c_2 => ?_) (fun c_2 => ?_)
      · refine lv_lconst (v := 0) hx hb d_Mo_batched_37 (by decide) ?_
        refine lv_ladd hx hb d_Mo_batched_38 ?_
        refine lv_topL (y := m_bat AI AN (i + 1) fd) (by simp [m_bat, sumL, c_2]) ?_
        refine lv_lstore_n (lv' := [(2, .long (m_bat AI AN (i + 1) fd)), (4, .int (nI i)), (0, .ref (ad 0)), (1, .int fd)]) hx hb d_Mo_batched_39 rfl hl (by decide) rfl (fun ls hl => ?_)
        refine lv_iinc (v := nI (i + 1)) (lv' := [(4, .int (nI (i + 1))), (2, .long (m_bat AI AN (i + 1) fd)), (0, .ref (ad 0)), (1, .int fd)]) hx hb d_Mo_batched_40 hl (k := 1) rfl (nI_1 i) (by decide) rfl (fun ls hl => ?_)
        refine lv_goto (tgt := 5) hx hb d_Mo_batched_43 (by decide) ?_
        exact ih (i + 1) (by omega) (by omega) ls (lv_sub hl [0, 1, 2, 3] rfl)
      · refine lv_aload_n hx hb d_Mo_batched_26 rfl (lv_at hl 2 rfl) ?_
        refine va_get (D := (dC, dI)) (ci := 7) (v := .ref (ad 23)) (C := R_Mo) (T := F_Mo) (N := 31) hx hb hG iG_Mo hown hK hP 0 rfl rfl 29 (by decide) (hG _ k_552) (fun _ h9 => h9) rfl d_Mo_batched_27 ?_
        refine lv_iload hx hb d_Mo_batched_30 (lv_at hl 0 rfl) ?_
        refine ra_iald (n := 20) (j := i) (f := AI 23) hx hb hK hP 23 22 rfl rfl (by omega) (by decide) d_Mo_batched_32 ?_
        refine lv_i2l hx hb d_Mo_batched_33 rfl ?_
        refine lv_goto (tgt := 38) hx hb d_Mo_batched_34 (by decide) ?_
        refine lv_ladd hx hb d_Mo_batched_38 ?_
        refine lv_topL (y := m_bat AI AN (i + 1) fd) (by simp [m_bat, sumL, c_2]) ?_
        refine lv_lstore_n (lv' := [(2, .long (m_bat AI AN (i + 1) fd)), (4, .int (nI i)), (0, .ref (ad 0)), (1, .int fd)]) hx hb d_Mo_batched_39 rfl hl (by decide) rfl (fun ls hl => ?_)
        refine lv_iinc (v := nI (i + 1)) (lv' := [(4, .int (nI (i + 1))), (2, .long (m_bat AI AN (i + 1) fd)), (0, .ref (ad 0)), (1, .int fd)]) hx hb d_Mo_batched_40 hl (k := 1) rfl (nI_1 i) (by decide) rfl (fun ls hl => ?_)
        refine lv_goto (tgt := 5) hx hb d_Mo_batched_43 (by decide) ?_
        exact ih (i + 1) (by omega) (by omega) ls (lv_sub hl [0, 1, 2, 3] rfl)
set_option maxHeartbeats 4000000 in
set_option maxRecDepth 100000 in
theorem c_Mo_batched (l : Launch) (dC : Nat → ClassId) (dI : Nat → Nat → Nat) (ad : Nat → Nat) (cA : Nat → ClassId) (th yr : Int32) (nf no nt : Nat) (bd : Int32) (nb : Nat) (fl : Int32) (AI : Nat → Nat → Int32) (AN : Nat → Nat → Nat) (AB : Nat → Nat → Bool) (AL : Nat → Nat → Int64) (fd : Int32) (hnb : nb ≤ 20) : Met l y_Mo_batched w_Mo_batched { frames := 0, cells := 0, slots := 0, locals := 0 } (rd_P (dC, dI) classes (mtys cA) (mw ad cA th yr nf no nt bd nb fl AI AN AB AL) [.ref (ad 0), .int fd]) (vp_Sl (fun r => r = m_bat AI AN nb fd)) 0 0 (fun _ => False) := by
  refine Met.ofW (cc := b_Mo_batched) (maxL := 5) (ret := (some .long)) (by decide) rfl ?_
  intro p e s m args below meth c s₁ B hml hv
  obtain ⟨rfl, hP, hK, hN⟩ := hv
  have hx := B.exec
  have hb := B.bytes
  have hr := B.returns
  have hts := atoms_spec (ws := w_Mo_batched) B.pre
  have hG := fun (w : Cond) (h : w ∈ wG) => hts w (List.mem_cons_of_mem _ h)
  have hown : s.vm.findClass R_Mo = some m.cls := findClass_of_methodNamed B.named
  have hlocks := B.notSynchronized
  have hl := lv_entry ([.ref (ad 0), .int fd]) (n := 5) (Nat.le_of_ble_eq_true rfl)
  rw [lg_entry_eq]
  generalize (lg_sl ([.ref (ad 0), .int fd]) ++ List.replicate (5 - (lg_sl ([.ref (ad 0), .int fd])).length) Slot.unset).toArray = ls at hl ⊢
  have hl : lv_has ls 5 [(0, .ref (ad 0)), (1, .int fd)] := hl
  refine lv_lconst (v := 0) hx hb d_Mo_batched_0 (by decide) ?_
  refine lv_lstore_n (lv' := [(2, .long 0), (0, .ref (ad 0)), (1, .int fd)]) hx hb d_Mo_batched_1 rfl hl (by decide) rfl (fun ls hl => ?_)
  refine lv_iconst (v := 0) hx hb d_Mo_batched_2 (by decide) ?_
  refine lv_istore (lv' := [(4, .int 0), (2, .long 0), (0, .ref (ad 0)), (1, .int fd)]) hx hb d_Mo_batched_3 hl (by decide) rfl (fun ls hl => ?_)
  refine lp_Mo_batched hx hb hml hown hts hK hP hnb fd (fun ls hl => ?_) (nb + 1) 0 (by omega) (by omega) ls (lv_sub hl [0, 1, 2, 3] rfl)
  refine lv_lload_n hx hb d_Mo_batched_46 rfl (lv_at hl 1 rfl) ?_
  exact W.lret (v := (m_bat AI AN nb fd)) hx hb hr (fun t ht hW => ⟨_, rfl, rfl, ht⟩) (fun q h => by cases h) d_Mo_batched_47

theorem d_Mo_free_0 : decode b_Mo_free 0 = .ok (.aload_n 0, 1) := by decide +kernel
theorem d_Mo_free_1 : decode b_Mo_free 1 = .ok (.getfield 13, 3) := by decide +kernel
theorem d_Mo_free_4 : decode b_Mo_free 4 = .ok (.iload_n 1, 1) := by decide +kernel
theorem d_Mo_free_5 : decode b_Mo_free 5 = .ok (.laload, 1) := by decide +kernel
theorem d_Mo_free_6 : decode b_Mo_free 6 = .ok (.aload_n 0, 1) := by decide +kernel
theorem d_Mo_free_7 : decode b_Mo_free 7 = .ok (.iload_n 1, 1) := by decide +kernel
theorem d_Mo_free_8 : decode b_Mo_free 8 = .ok (.invokevirtual 104, 3) := by decide +kernel
theorem d_Mo_free_11 : decode b_Mo_free 11 = .ok (.lsub, 1) := by decide +kernel
theorem d_Mo_free_12 : decode b_Mo_free 12 = .ok (.aload_n 0, 1) := by decide +kernel
theorem d_Mo_free_13 : decode b_Mo_free 13 = .ok (.getfield 17, 3) := by decide +kernel
theorem d_Mo_free_16 : decode b_Mo_free 16 = .ok (.iload_n 1, 1) := by decide +kernel
theorem d_Mo_free_17 : decode b_Mo_free 17 = .ok (.laload, 1) := by decide +kernel
theorem d_Mo_free_18 : decode b_Mo_free 18 = .ok (.lsub, 1) := by decide +kernel
theorem d_Mo_free_19 : decode b_Mo_free 19 = .ok (.lreturn, 1) := by decide +kernel
set_option maxHeartbeats 4000000 in
set_option maxRecDepth 100000 in
theorem c_Mo_free (l : Launch) (dC : Nat → ClassId) (dI : Nat → Nat → Nat) (ad : Nat → Nat) (cA : Nat → ClassId) (th yr : Int32) (nf no nt : Nat) (bd : Int32) (nb : Nat) (fl : Int32) (AI : Nat → Nat → Int32) (AN : Nat → Nat → Nat) (AB : Nat → Nat → Bool) (AL : Nat → Nat → Int64) (j : Nat) (hno : no ≤ 300) (hj : j < 30) : Met l y_Mo_free w_Mo_free { frames := 1, cells := 0, slots := 0, locals := 24 } (rd_P (dC, dI) classes (mtys cA) (mw ad cA th yr nf no nt bd nb fl AI AN AB AL) [.ref (ad 0), .int (nI j)]) (vp_Sl (fun r => r = m_free AI AN AL no j)) 0 0 (fun _ => False) := by
  refine Met.ofW (cc := b_Mo_free) (maxL := 2) (ret := (some .long)) (by decide) rfl ?_
  intro p e s m args below meth c s₁ B hml hv
  obtain ⟨rfl, hP, hK, hN⟩ := hv
  have hx := B.exec
  have hb := B.bytes
  have hr := B.returns
  have hts := atoms_spec (ws := w_Mo_free) B.pre
  have hG := fun (w : Cond) (h : w ∈ wG) => hts w (List.mem_cons_of_mem _ h)
  have hown : s.vm.findClass R_Mo = some m.cls := findClass_of_methodNamed B.named
  have hlocks := B.notSynchronized
  have hl := lv_entry ([.ref (ad 0), .int (nI j)]) (n := 2) (Nat.le_of_ble_eq_true rfl)
  rw [lg_entry_eq]
  generalize (lg_sl ([.ref (ad 0), .int (nI j)]) ++ List.replicate (2 - (lg_sl ([.ref (ad 0), .int (nI j)])).length) Slot.unset).toArray = ls at hl ⊢
  have hl : lv_has ls 2 [(0, .ref (ad 0)), (1, .int (nI j))] := hl
  refine lv_aload_n hx hb d_Mo_free_0 rfl (lv_at hl 0 rfl) ?_
  refine va_get (D := (dC, dI)) (ci := 7) (v := .ref (ad 2)) (C := R_Mo) (T := F_Mo) (N := 31) hx hb hG iG_Mo hown hK hP 0 rfl rfl 4 (by decide) (hG _ k_527) (fun _ h9 => h9) rfl d_Mo_free_1 ?_
  refine lv_iload_n hx hb d_Mo_free_4 rfl (lv_at hl 1 rfl) ?_
  refine ra_lald (n := 30) (j := j) (f := AL 2) hx hb hK hP 2 1 rfl rfl (by omega) (by decide) d_Mo_free_5 ?_
  refine lv_aload_n hx hb d_Mo_free_6 rfl (lv_at hl 0 rfl) ?_
  refine lv_iload_n hx hb d_Mo_free_7 rfl (lv_at hl 1 rfl) ?_
  refine rd_calll (va_runV (As := [.int (nI j)]) (rest := [.long (AL 2 j)]) ⟨hx, hb, hml, hown, hts⟩ (c_Mo_encumbered l dC dI ad cA th yr nf no nt bd nb fl AI AN AB AL (nI j) hno) (cwV 1 hts (gd_V k_645 k_647 k_9 k_17 k_648) rfl rfl rfl (by decide +kernel) ⟨Nat.le_of_ble_eq_true rfl, Nat.le_of_ble_eq_true rfl⟩) (rd_preV 0 hK hN hP rfl rfl) rfl rfl hl.1 rfl (lv_room (Nat.le_of_ble_eq_true rfl)) d_Mo_free_8 ⟨Nat.zero_le _, Nat.zero_le _⟩) (fun r_1 hr_1 => ?_)
  subst hr_1
  refine lv_lsub hx hb d_Mo_free_11 ?_
  refine lv_aload_n hx hb d_Mo_free_12 rfl (lv_at hl 0 rfl) ?_
  refine va_get (D := (dC, dI)) (ci := 7) (v := .ref (ad 3)) (C := R_Mo) (T := F_Mo) (N := 31) hx hb hG iG_Mo hown hK hP 0 rfl rfl 5 (by decide) (hG _ k_528) (fun _ h9 => h9) rfl d_Mo_free_13 ?_
  refine lv_iload_n hx hb d_Mo_free_16 rfl (lv_at hl 1 rfl) ?_
  refine ra_lald (n := 30) (j := j) (f := AL 3) hx hb hK hP 3 2 rfl rfl (by omega) (by decide) d_Mo_free_17 ?_
  refine lv_lsub hx hb d_Mo_free_18 ?_
  exact W.lret (v := (((AL 2 j) - (m_enc AI AN no (nI j))) - (AL 3 j))) hx hb hr (fun t ht hW => ⟨_, rfl, rfl, ht⟩) (fun q h => by cases h) d_Mo_free_19

theorem d_Mo_fits_0 : decode b_Mo_fits 0 = .ok (.aload_n 0, 1) := by decide +kernel
theorem d_Mo_fits_1 : decode b_Mo_fits 1 = .ok (.getfield 13, 3) := by decide +kernel
theorem d_Mo_fits_4 : decode b_Mo_fits 4 = .ok (.iload_n 1, 1) := by decide +kernel
theorem d_Mo_fits_5 : decode b_Mo_fits 5 = .ok (.laload, 1) := by decide +kernel
theorem d_Mo_fits_6 : decode b_Mo_fits 6 = .ok (.lload_n 2, 1) := by decide +kernel
theorem d_Mo_fits_7 : decode b_Mo_fits 7 = .ok (.ladd, 1) := by decide +kernel
theorem d_Mo_fits_8 : decode b_Mo_fits 8 = .ok (.lstore 8, 2) := by decide +kernel
theorem d_Mo_fits_10 : decode b_Mo_fits 10 = .ok (.aload_n 0, 1) := by decide +kernel
theorem d_Mo_fits_11 : decode b_Mo_fits 11 = .ok (.getfield 17, 3) := by decide +kernel
theorem d_Mo_fits_14 : decode b_Mo_fits 14 = .ok (.iload_n 1, 1) := by decide +kernel
theorem d_Mo_fits_15 : decode b_Mo_fits 15 = .ok (.laload, 1) := by decide +kernel
theorem d_Mo_fits_16 : decode b_Mo_fits 16 = .ok (.lload 4, 2) := by decide +kernel
theorem d_Mo_fits_18 : decode b_Mo_fits 18 = .ok (.ladd, 1) := by decide +kernel
theorem d_Mo_fits_19 : decode b_Mo_fits 19 = .ok (.lstore 10, 2) := by decide +kernel
theorem d_Mo_fits_21 : decode b_Mo_fits 21 = .ok (.aload_n 0, 1) := by decide +kernel
theorem d_Mo_fits_22 : decode b_Mo_fits 22 = .ok (.iload_n 1, 1) := by decide +kernel
theorem d_Mo_fits_23 : decode b_Mo_fits 23 = .ok (.invokevirtual 104, 3) := by decide +kernel
theorem d_Mo_fits_26 : decode b_Mo_fits 26 = .ok (.lload 6, 2) := by decide +kernel
theorem d_Mo_fits_28 : decode b_Mo_fits 28 = .ok (.lsub, 1) := by decide +kernel
theorem d_Mo_fits_29 : decode b_Mo_fits 29 = .ok (.lstore 12, 2) := by decide +kernel
theorem d_Mo_fits_31 : decode b_Mo_fits 31 = .ok (.lload 8, 2) := by decide +kernel
theorem d_Mo_fits_33 : decode b_Mo_fits 33 = .ok (.invokestatic 112, 3) := by decide +kernel
theorem d_Mo_fits_36 : decode b_Mo_fits 36 = .ok (.ifCond .eq 29, 3) := by decide +kernel
theorem d_Mo_fits_39 : decode b_Mo_fits 39 = .ok (.lload 10, 2) := by decide +kernel
theorem d_Mo_fits_41 : decode b_Mo_fits 41 = .ok (.invokestatic 112, 3) := by decide +kernel
theorem d_Mo_fits_44 : decode b_Mo_fits 44 = .ok (.ifCond .eq 21, 3) := by decide +kernel
theorem d_Mo_fits_47 : decode b_Mo_fits 47 = .ok (.lload 8, 2) := by decide +kernel
theorem d_Mo_fits_49 : decode b_Mo_fits 49 = .ok (.lload 12, 2) := by decide +kernel
theorem d_Mo_fits_51 : decode b_Mo_fits 51 = .ok (.lsub, 1) := by decide +kernel
theorem d_Mo_fits_52 : decode b_Mo_fits 52 = .ok (.lload 10, 2) := by decide +kernel
theorem d_Mo_fits_54 : decode b_Mo_fits 54 = .ok (.lsub, 1) := by decide +kernel
theorem d_Mo_fits_55 : decode b_Mo_fits 55 = .ok (.invokestatic 112, 3) := by decide +kernel
theorem d_Mo_fits_58 : decode b_Mo_fits 58 = .ok (.ifCond .eq 7, 3) := by decide +kernel
theorem d_Mo_fits_61 : decode b_Mo_fits 61 = .ok (.iconst 1, 1) := by decide +kernel
theorem d_Mo_fits_62 : decode b_Mo_fits 62 = .ok (.goto 4, 3) := by decide +kernel
theorem d_Mo_fits_65 : decode b_Mo_fits 65 = .ok (.iconst 0, 1) := by decide +kernel
theorem d_Mo_fits_66 : decode b_Mo_fits 66 = .ok (.ireturn, 1) := by decide +kernel
set_option maxHeartbeats 4000000 in
set_option maxRecDepth 100000 in
theorem c_Mo_fits (l : Launch) (dC : Nat → ClassId) (dI : Nat → Nat → Nat) (ad : Nat → Nat) (cA : Nat → ClassId) (th yr : Int32) (nf no nt : Nat) (bd : Int32) (nb : Nat) (fl : Int32) (AI : Nat → Nat → Int32) (AN : Nat → Nat → Nat) (AB : Nat → Nat → Bool) (AL : Nat → Nat → Int64) (j : Nat) (mg ms le : Int64) (hno : no ≤ 300) (hj : j < 30) : Met l y_Mo_fits w_Mo_fits { frames := 2, cells := 0, slots := 0, locals := 46 } (rd_P (dC, dI) classes (mtys cA) (mw ad cA th yr nf no nt bd nb fl AI AN AB AL) [.ref (ad 0), .int (nI j), .long mg, .long ms, .long le]) (vp_Si (fun r => r = bI (m_fits AI AN AL no j mg ms le))) 0 0 (fun _ => False) := by
  refine Met.ofW (cc := b_Mo_fits) (maxL := 14) (ret := (some .boolean)) (by decide) rfl ?_
  intro p e s m args below meth c s₁ B hml hv
  obtain ⟨rfl, hP, hK, hN⟩ := hv
  have hx := B.exec
  have hb := B.bytes
  have hr := B.returns
  have hts := atoms_spec (ws := w_Mo_fits) B.pre
  have hG := fun (w : Cond) (h : w ∈ wG) => hts w (List.mem_cons_of_mem _ h)
  have hown : s.vm.findClass R_Mo = some m.cls := findClass_of_methodNamed B.named
  have hlocks := B.notSynchronized
  have hl := lv_entry ([.ref (ad 0), .int (nI j), .long mg, .long ms, .long le]) (n := 14) (Nat.le_of_ble_eq_true rfl)
  rw [lg_entry_eq]
  generalize (lg_sl ([.ref (ad 0), .int (nI j), .long mg, .long ms, .long le]) ++ List.replicate (14 - (lg_sl ([.ref (ad 0), .int (nI j), .long mg, .long ms, .long le])).length) Slot.unset).toArray = ls at hl ⊢
  have hl : lv_has ls 14 [(0, .ref (ad 0)), (1, .int (nI j)), (2, .long mg), (4, .long ms), (6, .long le)] := hl
  refine lv_aload_n hx hb d_Mo_fits_0 rfl (lv_at hl 0 rfl) ?_
  refine va_get (D := (dC, dI)) (ci := 7) (v := .ref (ad 2)) (C := R_Mo) (T := F_Mo) (N := 31) hx hb hG iG_Mo hown hK hP 0 rfl rfl 4 (by decide) (hG _ k_527) (fun _ h9 => h9) rfl d_Mo_fits_1 ?_
  refine lv_iload_n hx hb d_Mo_fits_4 rfl (lv_at hl 1 rfl) ?_
  refine ra_lald (n := 30) (j := j) (f := AL 2) hx hb hK hP 2 1 rfl rfl (by omega) (by decide) d_Mo_fits_5 ?_
  refine lv_lload_n hx hb d_Mo_fits_6 rfl (lv_at hl 2 rfl) ?_
  refine lv_ladd hx hb d_Mo_fits_7 ?_
  refine lv_lstore (lv' := [(8, .long ((AL 2 j) + mg)), (0, .ref (ad 0)), (1, .int (nI j)), (2, .long mg), (4, .long ms), (6, .long le)]) hx hb d_Mo_fits_8 hl (by decide) rfl (fun ls hl => ?_)
  refine lv_aload_n hx hb d_Mo_fits_10 rfl (lv_at hl 1 rfl) ?_
  refine va_get (D := (dC, dI)) (ci := 7) (v := .ref (ad 3)) (C := R_Mo) (T := F_Mo) (N := 31) hx hb hG iG_Mo hown hK hP 0 rfl rfl 5 (by decide) (hG _ k_528) (fun _ h9 => h9) rfl d_Mo_fits_11 ?_
  refine lv_iload_n hx hb d_Mo_fits_14 rfl (lv_at hl 2 rfl) ?_
  refine ra_lald (n := 30) (j := j) (f := AL 3) hx hb hK hP 3 2 rfl rfl (by omega) (by decide) d_Mo_fits_15 ?_
  refine lv_lload hx hb d_Mo_fits_16 (lv_at hl 4 rfl) ?_
  refine lv_ladd hx hb d_Mo_fits_18 ?_
  refine lv_lstore (lv' := [(10, .long ((AL 3 j) + ms)), (8, .long ((AL 2 j) + mg)), (0, .ref (ad 0)), (1, .int (nI j)), (2, .long mg), (4, .long ms), (6, .long le)]) hx hb d_Mo_fits_19 hl (by decide) rfl (fun ls hl => ?_)
  refine lv_aload_n hx hb d_Mo_fits_21 rfl (lv_at hl 2 rfl) ?_
  refine lv_iload_n hx hb d_Mo_fits_22 rfl (lv_at hl 3 rfl) ?_
  refine rd_calll (va_runV (As := [.int (nI j)]) (rest := []) ⟨hx, hb, hml, hown, hts⟩ (c_Mo_encumbered l dC dI ad cA th yr nf no nt bd nb fl AI AN AB AL (nI j) hno) (cwV 1 hts (gd_V k_645 k_647 k_9 k_17 k_648) rfl rfl rfl (by decide +kernel) ⟨Nat.le_of_ble_eq_true rfl, Nat.le_of_ble_eq_true rfl⟩) (rd_preV 0 hK hN hP rfl rfl) rfl rfl hl.1 rfl (lv_room (Nat.le_of_ble_eq_true rfl)) d_Mo_fits_23 ⟨Nat.zero_le _, Nat.zero_le _⟩) (fun r_1 hr_1 => ?_)
  subst hr_1
  refine lv_lload hx hb d_Mo_fits_26 (lv_at hl 6 rfl) ?_
  refine lv_lsub hx hb d_Mo_fits_28 ?_
  refine lv_lstore (lv' := [(12, .long ((m_enc AI AN no (nI j)) - le)), (10, .long ((AL 3 j) + ms)), (8, .long ((AL 2 j) + mg)), (0, .ref (ad 0)), (1, .int (nI j)), (2, .long mg), (4, .long ms), (6, .long le)]) hx hb d_Mo_fits_29 hl (by decide) rfl (fun ls hl => ?_)
  refine lv_lload hx hb d_Mo_fits_31 (lv_at hl 2 rfl) ?_
  refine rd_calli (va_runS (As := [.long ((AL 2 j) + mg)]) (rest := []) ⟨hx, hb, hml, hown, hts⟩ (c_Mo_isBound l dC dI (mtys cA) (mw ad cA th yr nf no nt bd nb fl AI AN AB AL) ((AL 2 j) + mg)) (cwS 1 hts (gd_S k_649 k_650 k_17 k_651) rfl rfl rfl (by decide +kernel) ⟨Nat.le_of_ble_eq_true rfl, Nat.le_of_ble_eq_true rfl⟩) (rd_preS hK hN hP) rfl rfl hl.1 rfl (lv_room (Nat.le_of_ble_eq_true rfl)) d_Mo_fits_33 ⟨Nat.zero_le _, Nat.zero_le _⟩) (fun r_2 hr_2 => ?_)
  subst hr_2
  refine lb_if_eq (tgt := 65) hx hb d_Mo_fits_36 (by decide) (fun c_3 => ?_) (fun c_3 => ?_)
  · refine lv_iconst (v := 0) hx hb d_Mo_fits_65 (by decide) ?_
    exact W.zret (v := 0) (ty := .boolean) hx hb hr rfl (fun t ht hW => ⟨_, rfl, (by unfold m_fits; rw [c_3] <;> rfl), ht⟩) (fun q h => by cases h) d_Mo_fits_66
  · refine lv_lload hx hb d_Mo_fits_39 (lv_at hl 1 rfl) ?_
    refine rd_calli (va_runS (As := [.long ((AL 3 j) + ms)]) (rest := []) ⟨hx, hb, hml, hown, hts⟩ (c_Mo_isBound l dC dI (mtys cA) (mw ad cA th yr nf no nt bd nb fl AI AN AB AL) ((AL 3 j) + ms)) (cwS 1 hts (gd_S k_649 k_650 k_17 k_651) rfl rfl rfl (by decide +kernel) ⟨Nat.le_of_ble_eq_true rfl, Nat.le_of_ble_eq_true rfl⟩) (rd_preS hK hN hP) rfl rfl hl.1 rfl (lv_room (Nat.le_of_ble_eq_true rfl)) d_Mo_fits_41 ⟨Nat.zero_le _, Nat.zero_le _⟩) (fun r_4 hr_4 => ?_)
    subst hr_4
    refine lb_if_eq (tgt := 65) hx hb d_Mo_fits_44 (by decide) (fun c_5 => ?_) (fun c_5 => ?_)
    · refine lv_iconst (v := 0) hx hb d_Mo_fits_65 (by decide) ?_
      exact W.zret (v := 0) (ty := .boolean) hx hb hr rfl (fun t ht hW => ⟨_, rfl, (by unfold m_fits; rw [c_3, c_5] <;> rfl), ht⟩) (fun q h => by cases h) d_Mo_fits_66
    · refine lv_lload hx hb d_Mo_fits_47 (lv_at hl 2 rfl) ?_
      refine lv_lload hx hb d_Mo_fits_49 (lv_at hl 0 rfl) ?_
      refine lv_lsub hx hb d_Mo_fits_51 ?_
      refine lv_lload hx hb d_Mo_fits_52 (lv_at hl 1 rfl) ?_
      refine lv_lsub hx hb d_Mo_fits_54 ?_
      refine rd_calli (va_runS (As := [.long ((((AL 2 j) + mg) - ((m_enc AI AN no (nI j)) - le)) - ((AL 3 j) + ms))]) (rest := []) ⟨hx, hb, hml, hown, hts⟩ (c_Mo_isBound l dC dI (mtys cA) (mw ad cA th yr nf no nt bd nb fl AI AN AB AL) ((((AL 2 j) + mg) - ((m_enc AI AN no (nI j)) - le)) - ((AL 3 j) + ms))) (cwS 1 hts (gd_S k_649 k_650 k_17 k_651) rfl rfl rfl (by decide +kernel) ⟨Nat.le_of_ble_eq_true rfl, Nat.le_of_ble_eq_true rfl⟩) (rd_preS hK hN hP) rfl rfl hl.1 rfl (lv_room (Nat.le_of_ble_eq_true rfl)) d_Mo_fits_55 ⟨Nat.zero_le _, Nat.zero_le _⟩) (fun r_6 hr_6 => ?_)
      subst hr_6
      refine lb_if_eq (tgt := 65) hx hb d_Mo_fits_58 (by decide) (fun c_7 => ?_) (fun c_7 => ?_)
      · refine lv_iconst (v := 0) hx hb d_Mo_fits_65 (by decide) ?_
        exact W.zret (v := 0) (ty := .boolean) hx hb hr rfl (fun t ht hW => ⟨_, rfl, (by unfold m_fits; rw [c_3, c_5, c_7] <;> rfl), ht⟩) (fun q h => by cases h) d_Mo_fits_66
      · refine lv_iconst (v := 1) hx hb d_Mo_fits_61 (by decide) ?_
        refine lv_goto (tgt := 66) hx hb d_Mo_fits_62 (by decide) ?_
        exact W.zret (v := 1) (ty := .boolean) hx hb hr rfl (fun t ht hW => ⟨_, rfl, (by unfold m_fits; rw [c_3, c_5, c_7] <;> rfl), ht⟩) (fun q h => by cases h) d_Mo_fits_66
end
section
theorem in99 {x : Int32} (h : iw x.toInt64 0 99 = true) : ∃ w, w < 100 ∧ x = nI w := inN_of (n := 100) (by decide) (by
  have e : (nI 100 - 1).toInt64 = 99 := by decide
  unfold inN
  rw [e]
  exact h)
theorem in9 {x : Int32} (h : iw x.toInt64 0 9 = true) : ∃ w, w < 10 ∧ x = nI w := inN_of (n := 10) (by decide) (by
  have e : (nI 10 - 1).toInt64 = 9 := by decide
  unfold inN
  rw [e]
  exact h)
theorem nI_30 {n : Nat} (h : n ≤ 30) : nI n = 30 ↔ n = 30 := nI_eq (by omega) (by decide)
theorem nI_300 {n : Nat} (h : n ≤ 300) : nI n = 300 ↔ n = 300 := nI_eq (by omega) (by decide)
theorem nI_100 {n : Nat} (h : n ≤ 100) : nI n = 100 ↔ n = 100 := nI_eq (by omega) (by decide)
theorem nI_20 {n : Nat} (h : n ≤ 20) : nI n = 20 ↔ n = 20 := nI_eq (by omega) (by decide)
theorem nI_10 {n : Nat} (h : n ≤ 10) : nI n = 10 ↔ n = 10 := nI_eq (by omega) (by decide)

theorem d_Mo_fund_0 : decode b_Mo_fund 0 = .ok (.aload_n 0, 1) := by decide +kernel
theorem d_Mo_fund_1 : decode b_Mo_fund 1 = .ok (.iconst 0, 1) := by decide +kernel
theorem d_Mo_fund_2 : decode b_Mo_fund 2 = .ok (.putfield 91, 3) := by decide +kernel
theorem d_Mo_fund_5 : decode b_Mo_fund 5 = .ok (.iload_n 1, 1) := by decide +kernel
theorem d_Mo_fund_6 : decode b_Mo_fund 6 = .ok (.i2l, 1) := by decide +kernel
theorem d_Mo_fund_7 : decode b_Mo_fund 7 = .ok (.lconst 0, 1) := by decide +kernel
theorem d_Mo_fund_8 : decode b_Mo_fund 8 = .ok (.ldc2_w 116, 3) := by decide +kernel
theorem d_Mo_fund_11 : decode b_Mo_fund 11 = .ok (.invokestatic 97, 3) := by decide +kernel
theorem d_Mo_fund_14 : decode b_Mo_fund 14 = .ok (.ifCond .ne 6, 3) := by decide +kernel
theorem d_Mo_fund_17 : decode b_Mo_fund 17 = .ok (.bipush (-2), 2) := by decide +kernel
theorem d_Mo_fund_19 : decode b_Mo_fund 19 = .ok (.ireturn, 1) := by decide +kernel
theorem d_Mo_fund_20 : decode b_Mo_fund 20 = .ok (.aload_n 0, 1) := by decide +kernel
theorem d_Mo_fund_21 : decode b_Mo_fund 21 = .ok (.getfield 94, 3) := by decide +kernel
theorem d_Mo_fund_24 : decode b_Mo_fund 24 = .ok (.bipush 30, 2) := by decide +kernel
theorem d_Mo_fund_26 : decode b_Mo_fund 26 = .ok (.if_icmp .ne 6, 3) := by decide +kernel
theorem d_Mo_fund_29 : decode b_Mo_fund 29 = .ok (.bipush (-4), 2) := by decide +kernel
theorem d_Mo_fund_31 : decode b_Mo_fund 31 = .ok (.ireturn, 1) := by decide +kernel
theorem d_Mo_fund_32 : decode b_Mo_fund 32 = .ok (.aload_n 0, 1) := by decide +kernel
theorem d_Mo_fund_33 : decode b_Mo_fund 33 = .ok (.getfield 7, 3) := by decide +kernel
theorem d_Mo_fund_36 : decode b_Mo_fund 36 = .ok (.aload_n 0, 1) := by decide +kernel
theorem d_Mo_fund_37 : decode b_Mo_fund 37 = .ok (.getfield 94, 3) := by decide +kernel
theorem d_Mo_fund_40 : decode b_Mo_fund 40 = .ok (.iload_n 1, 1) := by decide +kernel
theorem d_Mo_fund_41 : decode b_Mo_fund 41 = .ok (.iastore, 1) := by decide +kernel
theorem d_Mo_fund_42 : decode b_Mo_fund 42 = .ok (.aload_n 0, 1) := by decide +kernel
theorem d_Mo_fund_43 : decode b_Mo_fund 43 = .ok (.dup, 1) := by decide +kernel
theorem d_Mo_fund_44 : decode b_Mo_fund 44 = .ok (.getfield 94, 3) := by decide +kernel
theorem d_Mo_fund_47 : decode b_Mo_fund 47 = .ok (.iconst 1, 1) := by decide +kernel
theorem d_Mo_fund_48 : decode b_Mo_fund 48 = .ok (.iadd, 1) := by decide +kernel
theorem d_Mo_fund_49 : decode b_Mo_fund 49 = .ok (.putfield 94, 3) := by decide +kernel
theorem d_Mo_fund_52 : decode b_Mo_fund 52 = .ok (.aload_n 0, 1) := by decide +kernel
theorem d_Mo_fund_53 : decode b_Mo_fund 53 = .ok (.getfield 94, 3) := by decide +kernel
theorem d_Mo_fund_56 : decode b_Mo_fund 56 = .ok (.iconst 1, 1) := by decide +kernel
theorem d_Mo_fund_57 : decode b_Mo_fund 57 = .ok (.isub, 1) := by decide +kernel
theorem d_Mo_fund_58 : decode b_Mo_fund 58 = .ok (.ireturn, 1) := by decide +kernel
set_option maxHeartbeats 4000000 in
set_option maxRecDepth 100000 in
theorem c_Mo_fund (l : Launch) (dC : Nat → ClassId) (dI : Nat → Nat → Nat) (ad : Nat → Nat) (cA : Nat → ClassId) (th yr : Int32) (nf no nt : Nat) (bd : Int32) (nb : Nat) (fl : Int32) (AI : Nat → Nat → Int32) (AN : Nat → Nat → Nat) (AB : Nat → Nat → Bool) (AL : Nat → Nat → Int64) (sz : Nat) (c0 : Int32) (hI : InvM nf no nt nb AI AN) : Met l y_Mo_fund w_Mo_fund { frames := 1, cells := 0, slots := 0, locals := 25 } (mu_P (dC, dI) classes (mtys cA) (mw ad cA th yr nf no nt bd nb fl AI AN AB AL) sz [.ref (ad 0), .int c0]) (va_Qi (fun r u => (r, u) = m_fund (th, yr, nf, no, nt, bd, nb, fl, AI, AN, AB, AL) c0) (mu_B (dC, dI) classes (mtys cA) (va_A (mw ad cA th yr nf no nt bd nb fl AI AN AB AL) sz) (mwS ad cA)) (va_A (mw ad cA th yr nf no nt bd nb fl AI AN AB AL) sz)) 0 0 (va_A (mw ad cA th yr nf no nt bd nb fl AI AN AB AL) sz) := by
  refine Met.ofW (cc := b_Mo_fund) (maxL := 2) (ret := (some .int)) (by decide) rfl ?_
  intro p e s m args below meth c s₁ B hml hv
  obtain ⟨rfl, hsz, hP, hK, hD0, hN⟩ := hv
  have hx := B.exec
  have hb := B.bytes
  have hr := B.returns
  have hts := atoms_spec (ws := w_Mo_fund) B.pre
  have hG := fun (w : Cond) (h : w ∈ wG) => hts w (List.mem_cons_of_mem _ h)
  have hown : s.vm.findClass R_Mo = some m.cls := findClass_of_methodNamed B.named
  have hlocks := B.notSynchronized
  subst hsz
  have hD := hD0.self (sz := s.heap.size)
  generalize hAe : va_A (mw ad cA th yr nf no nt bd nb fl AI AN AB AL) s.heap.size = A at hD ⊢
  have hA : ∀ q : Nat, s.heap.size ≤ q → A q := fun q h => by rw [← hAe]; exact Or.inr h
  have hS : va_S A s.heap s.heap [] := va_S.rf
  have hP : va_P (dC, dI) classes (mw ad cA th yr nf no nt bd nb fl AI AN AB AL) s.heap := hP
  have hl := lv_entry ([.ref (ad 0), .int c0]) (n := 2) (Nat.le_of_ble_eq_true rfl)
  rw [lg_entry_eq]
  generalize (lg_sl ([.ref (ad 0), .int c0]) ++ List.replicate (2 - (lg_sl ([.ref (ad 0), .int c0])).length) Slot.unset).toArray = ls at hl ⊢
  have hl : lv_has ls 2 [(0, .ref (ad 0)), (1, .int c0)] := hl
  obtain ⟨hnf, hno, hnt, hnb, hfu, hft, hbf, hrw, hce, hdn⟩ := id hI
  refine lv_aload_n hx hb d_Mo_fund_0 rfl (lv_at hl 0 rfl) ?_
  refine lv_iconst (v := 0) hx hb d_Mo_fund_1 (by decide) ?_
  refine va_put (D := (dC, dI)) (ci := 7) (v := .int 0) (ty := .int) (C := R_Mo) (T := F_Mo) (N := 31) hx hb hG iG_Mo t_Mo t_Mo_ok n_Mo hown hK hP hD hS 0 rfl rfl 0 (by decide) (hG _ k_523) (fun _ h9 => h9) rfl (by decide +kernel) rfl rfl (Nat.le_of_ble_eq_true rfl) d_Mo_fund_2 (fun H locs hP hD hS => ?_)
  have hP : va_P (dC, dI) classes (mw ad cA 0 yr nf no nt bd nb fl AI AN AB AL) H := hP
  have hD : va_D A (mw ad cA 0 yr nf no nt bd nb fl AI AN AB AL) := hD
  refine lv_iload_n hx hb d_Mo_fund_5 rfl (lv_at hl 1 rfl) ?_
  refine lv_i2l hx hb d_Mo_fund_6 rfl ?_
  refine lv_lconst (v := 0) hx hb d_Mo_fund_7 (by decide) ?_
  refine lv_ldc2 (own := R_Mo) (v := 2) hx hb hown (hG _ k_628) d_Mo_fund_8 ?_
  refine rd_calli (va_runS (As := [.long (c0.toInt64), .long 0, .long 2]) (rest := []) ⟨hx, hb, hml, hown, hts⟩ (c_Mo_in l dC dI (mtys cA) (mw ad cA 0 yr nf no nt bd nb fl AI AN AB AL) (c0.toInt64) 0 2) (cwS 3 hts (gd_S k_629 k_630 k_17 k_631) rfl rfl rfl (by decide +kernel) ⟨Nat.le_of_ble_eq_true rfl, Nat.le_of_ble_eq_true rfl⟩) (rd_preS hK hN hP) rfl rfl hl.1 rfl (lv_room (Nat.le_of_ble_eq_true rfl)) d_Mo_fund_11 ⟨Nat.zero_le _, Nat.zero_le _⟩) (fun r_1 hr_1 => ?_)
  subst hr_1
  refine lb_if_ne (tgt := 20) hx hb d_Mo_fund_14 (by decide) (fun c_2 => ?_) (fun c_2 => ?_)
  · refine lv_aload_n hx hb d_Mo_fund_20 rfl (lv_at hl 0 rfl) ?_
    refine va_get (D := (dC, dI)) (ci := 7) (v := .int (nI nf)) (C := R_Mo) (T := F_Mo) (N := 31) hx hb hG iG_Mo hown hK hP 0 rfl rfl 2 (by decide) (hG _ k_525) (fun _ h9 => h9) rfl d_Mo_fund_21 ?_
    refine lv_bipush (v := 30) hx hb d_Mo_fund_24 (by decide) ?_
    refine lv_icmp_ne (tgt := 32) hx hb d_Mo_fund_26 (by decide) (fun c_3 => ?_) (fun c_3 => ?_)
    · rw [nI_30 hnf] at c_3
      refine lv_aload_n hx hb d_Mo_fund_32 rfl (lv_at hl 0 rfl) ?_
      refine va_get (D := (dC, dI)) (ci := 7) (v := .ref (ad 1)) (C := R_Mo) (T := F_Mo) (N := 31) hx hb hG iG_Mo hown hK hP 0 rfl rfl 3 (by decide) (hG _ k_526) (fun _ h9 => h9) rfl d_Mo_fund_33 ?_
      refine lv_aload_n hx hb d_Mo_fund_36 rfl (lv_at hl 0 rfl) ?_
      refine va_get (D := (dC, dI)) (ci := 7) (v := .int (nI nf)) (C := R_Mo) (T := F_Mo) (N := 31) hx hb hG iG_Mo hown hK hP 0 rfl rfl 2 (by decide) (hG _ k_525) (fun _ h9 => h9) rfl d_Mo_fund_37 ?_
      refine lv_iload_n hx hb d_Mo_fund_40 rfl (lv_at hl 1 rfl) ?_
      refine ra_iast (n := 30) (j := nf) (f := AI 1) hx hb hK hP hD hS 1 0 rfl rfl (by omega) (by decide) d_Mo_fund_41 (fun H locs hP hD hS => ?_)
      have hP : va_P (dC, dI) classes (mw ad cA 0 yr nf no nt bd nb fl (va_up AI 1 (va_up (AI 1) nf c0)) AN AB AL) H := hP
      have hD : va_D A (mw ad cA 0 yr nf no nt bd nb fl (va_up AI 1 (va_up (AI 1) nf c0)) AN AB AL) := hD
      refine lv_aload_n hx hb d_Mo_fund_42 rfl (lv_at hl 0 rfl) ?_
      refine lv_dup hx hb d_Mo_fund_43 rfl ?_
      refine va_get (D := (dC, dI)) (ci := 7) (v := .int (nI nf)) (C := R_Mo) (T := F_Mo) (N := 31) hx hb hG iG_Mo hown hK hP 0 rfl rfl 2 (by decide) (hG _ k_525) (fun _ h9 => h9) rfl d_Mo_fund_44 ?_
      refine lv_iconst (v := 1) hx hb d_Mo_fund_47 (by decide) ?_
      refine lv_iadd hx hb d_Mo_fund_48 ?_
      refine lv_topI (y := nI (nf + 1)) (nI_add nf 1) ?_
      refine va_put (D := (dC, dI)) (ci := 7) (v := .int (nI (nf + 1))) (ty := .int) (C := R_Mo) (T := F_Mo) (N := 31) hx hb hG iG_Mo t_Mo t_Mo_ok n_Mo hown hK hP hD hS 0 rfl rfl 2 (by decide) (hG _ k_525) (fun _ h9 => h9) rfl (by decide +kernel) rfl rfl (Nat.le_of_ble_eq_true rfl) d_Mo_fund_49 (fun H locs hP hD hS => ?_)
      have hP : va_P (dC, dI) classes (mw ad cA 0 yr (nf + 1) no nt bd nb fl (va_up AI 1 (va_up (AI 1) nf c0)) AN AB AL) H := hP
      have hD : va_D A (mw ad cA 0 yr (nf + 1) no nt bd nb fl (va_up AI 1 (va_up (AI 1) nf c0)) AN AB AL) := hD
      refine lv_aload_n hx hb d_Mo_fund_52 rfl (lv_at hl 0 rfl) ?_
      refine va_get (D := (dC, dI)) (ci := 7) (v := .int (nI (nf + 1))) (C := R_Mo) (T := F_Mo) (N := 31) hx hb hG iG_Mo hown hK hP 0 rfl rfl 2 (by decide) (hG _ k_525) (fun _ h9 => h9) rfl d_Mo_fund_53 ?_
      refine lv_iconst (v := 1) hx hb d_Mo_fund_56 (by decide) ?_
      refine lv_isub hx hb d_Mo_fund_57 ?_
      refine lv_topI (y := nI nf) (nI_pred nf) ?_
      exact W.iret (v := (nI nf)) hx hb hr (fun t ht hW => ⟨⟨_, (0, yr, (nf + 1), no, nt, bd, nb, fl, va_up AI 1 (va_up (AI 1) nf c0), AN, AB, AL), rfl, (by simp [m_fund, ixn, bI, c_2, c_3] <;> (repeat' apply And.intro) <;> rfl), by rw [ht]; exact hP, va_K.moved hW.alike hK, hD⟩, hS.F ht⟩) hS.2.2 d_Mo_fund_58
    · rw [nI_30 hnf] at c_3
      refine lv_bipush (v := (-4)) hx hb d_Mo_fund_29 (by decide) ?_
      exact W.iret (v := (-4)) hx hb hr (fun t ht hW => ⟨⟨_, (0, yr, nf, no, nt, bd, nb, fl, AI, AN, AB, AL), rfl, (by simp [m_fund, ixn, bI, c_2, c_3] <;> (repeat' apply And.intro) <;> rfl), by rw [ht]; exact hP, va_K.moved hW.alike hK, hD⟩, hS.F ht⟩) hS.2.2 d_Mo_fund_31
  · refine lv_bipush (v := (-2)) hx hb d_Mo_fund_17 (by decide) ?_
    exact W.iret (v := (-2)) hx hb hr (fun t ht hW => ⟨⟨_, (0, yr, nf, no, nt, bd, nb, fl, AI, AN, AB, AL), rfl, (by simp [m_fund, ixn, bI, c_2] <;> (repeat' apply And.intro) <;> rfl), by rw [ht]; exact hP, va_K.moved hW.alike hK, hD⟩, hS.F ht⟩) hS.2.2 d_Mo_fund_19

theorem d_Mo_band_0 : decode b_Mo_band 0 = .ok (.aload_n 0, 1) := by decide +kernel
theorem d_Mo_band_1 : decode b_Mo_band 1 = .ok (.iconst 0, 1) := by decide +kernel
theorem d_Mo_band_2 : decode b_Mo_band 2 = .ok (.putfield 91, 3) := by decide +kernel
theorem d_Mo_band_5 : decode b_Mo_band 5 = .ok (.iload_n 1, 1) := by decide +kernel
theorem d_Mo_band_6 : decode b_Mo_band 6 = .ok (.i2l, 1) := by decide +kernel
theorem d_Mo_band_7 : decode b_Mo_band 7 = .ok (.lconst 0, 1) := by decide +kernel
theorem d_Mo_band_8 : decode b_Mo_band 8 = .ok (.ldc2_w 151, 3) := by decide +kernel
theorem d_Mo_band_11 : decode b_Mo_band 11 = .ok (.invokestatic 97, 3) := by decide +kernel
theorem d_Mo_band_14 : decode b_Mo_band 14 = .ok (.ifCond .ne 6, 3) := by decide +kernel
theorem d_Mo_band_17 : decode b_Mo_band 17 = .ok (.bipush (-2), 2) := by decide +kernel
theorem d_Mo_band_19 : decode b_Mo_band 19 = .ok (.ireturn, 1) := by decide +kernel
theorem d_Mo_band_20 : decode b_Mo_band 20 = .ok (.aload_n 0, 1) := by decide +kernel
theorem d_Mo_band_21 : decode b_Mo_band 21 = .ok (.iload_n 1, 1) := by decide +kernel
theorem d_Mo_band_22 : decode b_Mo_band 22 = .ok (.putfield 63, 3) := by decide +kernel
theorem d_Mo_band_25 : decode b_Mo_band 25 = .ok (.iconst 1, 1) := by decide +kernel
theorem d_Mo_band_26 : decode b_Mo_band 26 = .ok (.ireturn, 1) := by decide +kernel
set_option maxHeartbeats 4000000 in
set_option maxRecDepth 100000 in
theorem c_Mo_band (l : Launch) (dC : Nat → ClassId) (dI : Nat → Nat → Nat) (ad : Nat → Nat) (cA : Nat → ClassId) (th yr : Int32) (nf no nt : Nat) (bd : Int32) (nb : Nat) (fl : Int32) (AI : Nat → Nat → Int32) (AN : Nat → Nat → Nat) (AB : Nat → Nat → Bool) (AL : Nat → Nat → Int64) (sz : Nat) (b0 : Int32) (hI : InvM nf no nt nb AI AN) : Met l y_Mo_band w_Mo_band { frames := 1, cells := 0, slots := 0, locals := 25 } (mu_P (dC, dI) classes (mtys cA) (mw ad cA th yr nf no nt bd nb fl AI AN AB AL) sz [.ref (ad 0), .int b0]) (va_Qi (fun r u => (r, u) = m_band (th, yr, nf, no, nt, bd, nb, fl, AI, AN, AB, AL) b0) (mu_B (dC, dI) classes (mtys cA) (va_A (mw ad cA th yr nf no nt bd nb fl AI AN AB AL) sz) (mwS ad cA)) (va_A (mw ad cA th yr nf no nt bd nb fl AI AN AB AL) sz)) 0 0 (va_A (mw ad cA th yr nf no nt bd nb fl AI AN AB AL) sz) := by
  refine Met.ofW (cc := b_Mo_band) (maxL := 2) (ret := (some .int)) (by decide) rfl ?_
  intro p e s m args below meth c s₁ B hml hv
  obtain ⟨rfl, hsz, hP, hK, hD0, hN⟩ := hv
  have hx := B.exec
  have hb := B.bytes
  have hr := B.returns
  have hts := atoms_spec (ws := w_Mo_band) B.pre
  have hG := fun (w : Cond) (h : w ∈ wG) => hts w (List.mem_cons_of_mem _ h)
  have hown : s.vm.findClass R_Mo = some m.cls := findClass_of_methodNamed B.named
  have hlocks := B.notSynchronized
  subst hsz
  have hD := hD0.self (sz := s.heap.size)
  generalize hAe : va_A (mw ad cA th yr nf no nt bd nb fl AI AN AB AL) s.heap.size = A at hD ⊢
  have hA : ∀ q : Nat, s.heap.size ≤ q → A q := fun q h => by rw [← hAe]; exact Or.inr h
  have hS : va_S A s.heap s.heap [] := va_S.rf
  have hP : va_P (dC, dI) classes (mw ad cA th yr nf no nt bd nb fl AI AN AB AL) s.heap := hP
  have hl := lv_entry ([.ref (ad 0), .int b0]) (n := 2) (Nat.le_of_ble_eq_true rfl)
  rw [lg_entry_eq]
  generalize (lg_sl ([.ref (ad 0), .int b0]) ++ List.replicate (2 - (lg_sl ([.ref (ad 0), .int b0])).length) Slot.unset).toArray = ls at hl ⊢
  have hl : lv_has ls 2 [(0, .ref (ad 0)), (1, .int b0)] := hl
  obtain ⟨hnf, hno, hnt, hnb, hfu, hft, hbf, hrw, hce, hdn⟩ := id hI
  refine lv_aload_n hx hb d_Mo_band_0 rfl (lv_at hl 0 rfl) ?_
  refine lv_iconst (v := 0) hx hb d_Mo_band_1 (by decide) ?_
  refine va_put (D := (dC, dI)) (ci := 7) (v := .int 0) (ty := .int) (C := R_Mo) (T := F_Mo) (N := 31) hx hb hG iG_Mo t_Mo t_Mo_ok n_Mo hown hK hP hD hS 0 rfl rfl 0 (by decide) (hG _ k_523) (fun _ h9 => h9) rfl (by decide +kernel) rfl rfl (Nat.le_of_ble_eq_true rfl) d_Mo_band_2 (fun H locs hP hD hS => ?_)
  have hP : va_P (dC, dI) classes (mw ad cA 0 yr nf no nt bd nb fl AI AN AB AL) H := hP
  have hD : va_D A (mw ad cA 0 yr nf no nt bd nb fl AI AN AB AL) := hD
  refine lv_iload_n hx hb d_Mo_band_5 rfl (lv_at hl 1 rfl) ?_
  refine lv_i2l hx hb d_Mo_band_6 rfl ?_
  refine lv_lconst (v := 0) hx hb d_Mo_band_7 (by decide) ?_
  refine lv_ldc2 (own := R_Mo) (v := 1000) hx hb hown (hG _ k_682) d_Mo_band_8 ?_
  refine rd_calli (va_runS (As := [.long (b0.toInt64), .long 0, .long 1000]) (rest := []) ⟨hx, hb, hml, hown, hts⟩ (c_Mo_in l dC dI (mtys cA) (mw ad cA 0 yr nf no nt bd nb fl AI AN AB AL) (b0.toInt64) 0 1000) (cwS 3 hts (gd_S k_629 k_630 k_17 k_631) rfl rfl rfl (by decide +kernel) ⟨Nat.le_of_ble_eq_true rfl, Nat.le_of_ble_eq_true rfl⟩) (rd_preS hK hN hP) rfl rfl hl.1 rfl (lv_room (Nat.le_of_ble_eq_true rfl)) d_Mo_band_11 ⟨Nat.zero_le _, Nat.zero_le _⟩) (fun r_1 hr_1 => ?_)
  subst hr_1
  refine lb_if_ne (tgt := 20) hx hb d_Mo_band_14 (by decide) (fun c_2 => ?_) (fun c_2 => ?_)
  · refine lv_aload_n hx hb d_Mo_band_20 rfl (lv_at hl 0 rfl) ?_
    refine lv_iload_n hx hb d_Mo_band_21 rfl (lv_at hl 1 rfl) ?_
    refine va_put (D := (dC, dI)) (ci := 7) (v := .int b0) (ty := .int) (C := R_Mo) (T := F_Mo) (N := 31) hx hb hG iG_Mo t_Mo t_Mo_ok n_Mo hown hK hP hD hS 0 rfl rfl 22 (by decide) (hG _ k_545) (fun _ h9 => h9) rfl (by decide +kernel) rfl rfl (Nat.le_of_ble_eq_true rfl) d_Mo_band_22 (fun H locs hP hD hS => ?_)
    have hP : va_P (dC, dI) classes (mw ad cA 0 yr nf no nt b0 nb fl AI AN AB AL) H := hP
    have hD : va_D A (mw ad cA 0 yr nf no nt b0 nb fl AI AN AB AL) := hD
    refine lv_iconst (v := 1) hx hb d_Mo_band_25 (by decide) ?_
    exact W.iret (v := 1) hx hb hr (fun t ht hW => ⟨⟨_, (0, yr, nf, no, nt, b0, nb, fl, AI, AN, AB, AL), rfl, (by simp [m_band, ixn, bI, c_2] <;> (repeat' apply And.intro) <;> rfl), by rw [ht]; exact hP, va_K.moved hW.alike hK, hD⟩, hS.F ht⟩) hS.2.2 d_Mo_band_26
  · refine lv_bipush (v := (-2)) hx hb d_Mo_band_17 (by decide) ?_
    exact W.iret (v := (-2)) hx hb hr (fun t ht hW => ⟨⟨_, (0, yr, nf, no, nt, bd, nb, fl, AI, AN, AB, AL), rfl, (by simp [m_band, ixn, bI, c_2] <;> (repeat' apply And.intro) <;> rfl), by rw [ht]; exact hP, va_K.moved hW.alike hK, hD⟩, hS.F ht⟩) hS.2.2 d_Mo_band_19

theorem d_Mo_give_0 : decode b_Mo_give 0 = .ok (.aload_n 0, 1) := by decide +kernel
theorem d_Mo_give_1 : decode b_Mo_give 1 = .ok (.iconst 0, 1) := by decide +kernel
theorem d_Mo_give_2 : decode b_Mo_give 2 = .ok (.putfield 91, 3) := by decide +kernel
theorem d_Mo_give_5 : decode b_Mo_give 5 = .ok (.aload_n 0, 1) := by decide +kernel
theorem d_Mo_give_6 : decode b_Mo_give 6 = .ok (.iload_n 1, 1) := by decide +kernel
theorem d_Mo_give_7 : decode b_Mo_give 7 = .ok (.invokevirtual 118, 3) := by decide +kernel
theorem d_Mo_give_10 : decode b_Mo_give 10 = .ok (.ifCond .ne 5, 3) := by decide +kernel
theorem d_Mo_give_13 : decode b_Mo_give 13 = .ok (.iconst (-1), 1) := by decide +kernel
theorem d_Mo_give_14 : decode b_Mo_give 14 = .ok (.ireturn, 1) := by decide +kernel
theorem d_Mo_give_15 : decode b_Mo_give 15 = .ok (.lload_n 2, 1) := by decide +kernel
theorem d_Mo_give_16 : decode b_Mo_give 16 = .ok (.lconst 1, 1) := by decide +kernel
theorem d_Mo_give_17 : decode b_Mo_give 17 = .ok (.ldc2_w 122, 3) := by decide +kernel
theorem d_Mo_give_20 : decode b_Mo_give 20 = .ok (.invokestatic 97, 3) := by decide +kernel
theorem d_Mo_give_23 : decode b_Mo_give 23 = .ok (.ifCond .ne 6, 3) := by decide +kernel
theorem d_Mo_give_26 : decode b_Mo_give 26 = .ok (.bipush (-2), 2) := by decide +kernel
theorem d_Mo_give_28 : decode b_Mo_give 28 = .ok (.ireturn, 1) := by decide +kernel
theorem d_Mo_give_29 : decode b_Mo_give 29 = .ok (.aload_n 0, 1) := by decide +kernel
theorem d_Mo_give_30 : decode b_Mo_give 30 = .ok (.iload_n 1, 1) := by decide +kernel
theorem d_Mo_give_31 : decode b_Mo_give 31 = .ok (.lload_n 2, 1) := by decide +kernel
theorem d_Mo_give_32 : decode b_Mo_give 32 = .ok (.lconst 0, 1) := by decide +kernel
theorem d_Mo_give_33 : decode b_Mo_give 33 = .ok (.lconst 0, 1) := by decide +kernel
theorem d_Mo_give_34 : decode b_Mo_give 34 = .ok (.invokevirtual 124, 3) := by decide +kernel
theorem d_Mo_give_37 : decode b_Mo_give 37 = .ok (.ifCond .ne 6, 3) := by decide +kernel
theorem d_Mo_give_40 : decode b_Mo_give 40 = .ok (.bipush (-4), 2) := by decide +kernel
theorem d_Mo_give_42 : decode b_Mo_give 42 = .ok (.ireturn, 1) := by decide +kernel
theorem d_Mo_give_43 : decode b_Mo_give 43 = .ok (.aload_n 0, 1) := by decide +kernel
theorem d_Mo_give_44 : decode b_Mo_give 44 = .ok (.getfield 13, 3) := by decide +kernel
theorem d_Mo_give_47 : decode b_Mo_give 47 = .ok (.iload_n 1, 1) := by decide +kernel
theorem d_Mo_give_48 : decode b_Mo_give 48 = .ok (.dup2, 1) := by decide +kernel
theorem d_Mo_give_49 : decode b_Mo_give 49 = .ok (.laload, 1) := by decide +kernel
theorem d_Mo_give_50 : decode b_Mo_give 50 = .ok (.lload_n 2, 1) := by decide +kernel
theorem d_Mo_give_51 : decode b_Mo_give 51 = .ok (.ladd, 1) := by decide +kernel
theorem d_Mo_give_52 : decode b_Mo_give 52 = .ok (.lastore, 1) := by decide +kernel
theorem d_Mo_give_53 : decode b_Mo_give 53 = .ok (.iconst 1, 1) := by decide +kernel
theorem d_Mo_give_54 : decode b_Mo_give 54 = .ok (.ireturn, 1) := by decide +kernel
set_option maxHeartbeats 4000000 in
set_option maxRecDepth 100000 in
theorem c_Mo_give (l : Launch) (dC : Nat → ClassId) (dI : Nat → Nat → Nat) (ad : Nat → Nat) (cA : Nat → ClassId) (th yr : Int32) (nf no nt : Nat) (bd : Int32) (nb : Nat) (fl : Int32) (AI : Nat → Nat → Int32) (AN : Nat → Nat → Nat) (AB : Nat → Nat → Bool) (AL : Nat → Nat → Int64) (sz : Nat) (fd : Int32) (mr : Int64) (hI : InvM nf no nt nb AI AN) : Met l y_Mo_give w_Mo_give { frames := 3, cells := 0, slots := 0, locals := 79 } (mu_P (dC, dI) classes (mtys cA) (mw ad cA th yr nf no nt bd nb fl AI AN AB AL) sz [.ref (ad 0), .int fd, .long mr]) (va_Qi (fun r u => (r, u) = m_give (th, yr, nf, no, nt, bd, nb, fl, AI, AN, AB, AL) fd mr) (mu_B (dC, dI) classes (mtys cA) (va_A (mw ad cA th yr nf no nt bd nb fl AI AN AB AL) sz) (mwS ad cA)) (va_A (mw ad cA th yr nf no nt bd nb fl AI AN AB AL) sz)) 0 0 (va_A (mw ad cA th yr nf no nt bd nb fl AI AN AB AL) sz) := by
  refine Met.ofW (cc := b_Mo_give) (maxL := 4) (ret := (some .int)) (by decide) rfl ?_
  intro p e s m args below meth c s₁ B hml hv
  obtain ⟨rfl, hsz, hP, hK, hD0, hN⟩ := hv
  have hx := B.exec
  have hb := B.bytes
  have hr := B.returns
  have hts := atoms_spec (ws := w_Mo_give) B.pre
  have hG := fun (w : Cond) (h : w ∈ wG) => hts w (List.mem_cons_of_mem _ h)
  have hown : s.vm.findClass R_Mo = some m.cls := findClass_of_methodNamed B.named
  have hlocks := B.notSynchronized
  subst hsz
  have hD := hD0.self (sz := s.heap.size)
  generalize hAe : va_A (mw ad cA th yr nf no nt bd nb fl AI AN AB AL) s.heap.size = A at hD ⊢
  have hA : ∀ q : Nat, s.heap.size ≤ q → A q := fun q h => by rw [← hAe]; exact Or.inr h
  have hS : va_S A s.heap s.heap [] := va_S.rf
  have hP : va_P (dC, dI) classes (mw ad cA th yr nf no nt bd nb fl AI AN AB AL) s.heap := hP
  have hl := lv_entry ([.ref (ad 0), .int fd, .long mr]) (n := 4) (Nat.le_of_ble_eq_true rfl)
  rw [lg_entry_eq]
  generalize (lg_sl ([.ref (ad 0), .int fd, .long mr]) ++ List.replicate (4 - (lg_sl ([.ref (ad 0), .int fd, .long mr])).length) Slot.unset).toArray = ls at hl ⊢
  have hl : lv_has ls 4 [(0, .ref (ad 0)), (1, .int fd), (2, .long mr)] := hl
  obtain ⟨hnf, hno, hnt, hnb, hfu, hft, hbf, hrw, hce, hdn⟩ := id hI
  refine lv_aload_n hx hb d_Mo_give_0 rfl (lv_at hl 0 rfl) ?_
  refine lv_iconst (v := 0) hx hb d_Mo_give_1 (by decide) ?_
  refine va_put (D := (dC, dI)) (ci := 7) (v := .int 0) (ty := .int) (C := R_Mo) (T := F_Mo) (N := 31) hx hb hG iG_Mo t_Mo t_Mo_ok n_Mo hown hK hP hD hS 0 rfl rfl 0 (by decide) (hG _ k_523) (fun _ h9 => h9) rfl (by decide +kernel) rfl rfl (Nat.le_of_ble_eq_true rfl) d_Mo_give_2 (fun H locs hP hD hS => ?_)
  have hP : va_P (dC, dI) classes (mw ad cA 0 yr nf no nt bd nb fl AI AN AB AL) H := hP
  have hD : va_D A (mw ad cA 0 yr nf no nt bd nb fl AI AN AB AL) := hD
  refine lv_aload_n hx hb d_Mo_give_5 rfl (lv_at hl 0 rfl) ?_
  refine lv_iload_n hx hb d_Mo_give_6 rfl (lv_at hl 1 rfl) ?_
  refine rd_calli (va_runV (As := [.int fd]) (rest := []) ⟨hx, hb, hml, hown, hts⟩ (c_Mo_isFund l dC dI ad cA 0 yr nf no nt bd nb fl AI AN AB AL fd) (cwV 1 hts (gd_V k_636 k_638 k_7 k_17 k_639) rfl rfl rfl (by decide +kernel) ⟨Nat.le_of_ble_eq_true rfl, Nat.le_of_ble_eq_true rfl⟩) (rd_preV 0 hK hN hP rfl rfl) rfl rfl hl.1 rfl (lv_room (Nat.le_of_ble_eq_true rfl)) d_Mo_give_7 ⟨Nat.zero_le _, Nat.zero_le _⟩) (fun r_1 hr_1 => ?_)
  subst hr_1
  refine lb_if_ne (tgt := 15) hx hb d_Mo_give_10 (by decide) (fun c_2 => ?_) (fun c_2 => ?_)
  · obtain ⟨j, hj, rfl⟩ := inN_of (n := nf) (by omega) c_2
    have ej : (nI j).toNatClampNeg = j := nI_clamp (by omega)
    refine lv_lload_n hx hb d_Mo_give_15 rfl (lv_at hl 2 rfl) ?_
    refine lv_lconst (v := 1) hx hb d_Mo_give_16 (by decide) ?_
    refine lv_ldc2 (own := R_Mo) (v := 1000000000000) hx hb hown (hG _ k_640) d_Mo_give_17 ?_
    refine rd_calli (va_runS (As := [.long mr, .long 1, .long 1000000000000]) (rest := []) ⟨hx, hb, hml, hown, hts⟩ (c_Mo_in l dC dI (mtys cA) (mw ad cA 0 yr nf no nt bd nb fl AI AN AB AL) mr 1 1000000000000) (cwS 3 hts (gd_S k_629 k_630 k_17 k_631) rfl rfl rfl (by decide +kernel) ⟨Nat.le_of_ble_eq_true rfl, Nat.le_of_ble_eq_true rfl⟩) (rd_preS hK hN hP) rfl rfl hl.1 rfl (lv_room (Nat.le_of_ble_eq_true rfl)) d_Mo_give_20 ⟨Nat.zero_le _, Nat.zero_le _⟩) (fun r_3 hr_3 => ?_)
    subst hr_3
    refine lb_if_ne (tgt := 29) hx hb d_Mo_give_23 (by decide) (fun c_4 => ?_) (fun c_4 => ?_)
    · refine lv_aload_n hx hb d_Mo_give_29 rfl (lv_at hl 0 rfl) ?_
      refine lv_iload_n hx hb d_Mo_give_30 rfl (lv_at hl 1 rfl) ?_
      refine lv_lload_n hx hb d_Mo_give_31 rfl (lv_at hl 2 rfl) ?_
      refine lv_lconst (v := 0) hx hb d_Mo_give_32 (by decide) ?_
      refine lv_lconst (v := 0) hx hb d_Mo_give_33 (by decide) ?_
      refine rd_calli (va_runV (As := [.int (nI j), .long mr, .long 0, .long 0]) (rest := []) ⟨hx, hb, hml, hown, hts⟩ (c_Mo_fits l dC dI ad cA 0 yr nf no nt bd nb fl AI AN AB AL j mr 0 0 hno (by omega)) (cwV 4 hts (gd_V k_641 k_643 k_8 k_17 k_644) rfl rfl rfl (by decide +kernel) ⟨Nat.le_of_ble_eq_true rfl, Nat.le_of_ble_eq_true rfl⟩) (rd_preV 0 hK hN hP rfl rfl) rfl rfl hl.1 rfl (lv_room (Nat.le_of_ble_eq_true rfl)) d_Mo_give_34 ⟨Nat.zero_le _, Nat.zero_le _⟩) (fun r_5 hr_5 => ?_)
      subst hr_5
      refine lb_if_ne (tgt := 43) hx hb d_Mo_give_37 (by decide) (fun c_6 => ?_) (fun c_6 => ?_)
      · refine lv_aload_n hx hb d_Mo_give_43 rfl (lv_at hl 0 rfl) ?_
        refine va_get (D := (dC, dI)) (ci := 7) (v := .ref (ad 2)) (C := R_Mo) (T := F_Mo) (N := 31) hx hb hG iG_Mo hown hK hP 0 rfl rfl 4 (by decide) (hG _ k_527) (fun _ h9 => h9) rfl d_Mo_give_44 ?_
        refine lv_iload_n hx hb d_Mo_give_47 rfl (lv_at hl 1 rfl) ?_
        refine lv_dup2_11 hx hb d_Mo_give_48 rfl rfl ?_
        refine ra_lald (n := 30) (j := j) (f := AL 2) hx hb hK hP 2 1 rfl rfl (by omega) (by decide) d_Mo_give_49 ?_
        refine lv_lload_n hx hb d_Mo_give_50 rfl (lv_at hl 2 rfl) ?_
        refine lv_ladd hx hb d_Mo_give_51 ?_
        refine ra_last (n := 30) (j := j) (f := AL 2) hx hb hK hP hD hS 2 1 rfl rfl (by omega) (by decide) d_Mo_give_52 (fun H locs hP hD hS => ?_)
        have hP : va_P (dC, dI) classes (mw ad cA 0 yr nf no nt bd nb fl AI AN AB (va_up AL 2 (va_up (AL 2) j ((AL 2 j) + mr)))) H := hP
        have hD : va_D A (mw ad cA 0 yr nf no nt bd nb fl AI AN AB (va_up AL 2 (va_up (AL 2) j ((AL 2 j) + mr)))) := hD
        refine lv_iconst (v := 1) hx hb d_Mo_give_53 (by decide) ?_
        exact W.iret (v := 1) hx hb hr (fun t ht hW => ⟨⟨_, (0, yr, nf, no, nt, bd, nb, fl, AI, AN, AB, va_up AL 2 (va_up (AL 2) j ((AL 2 j) + mr))), rfl, (by simp [m_give, ixn, bI, ej, c_2, c_4, c_6] <;> (repeat' apply And.intro) <;> rfl), by rw [ht]; exact hP, va_K.moved hW.alike hK, hD⟩, hS.F ht⟩) hS.2.2 d_Mo_give_54
      · refine lv_bipush (v := (-4)) hx hb d_Mo_give_40 (by decide) ?_
        exact W.iret (v := (-4)) hx hb hr (fun t ht hW => ⟨⟨_, (0, yr, nf, no, nt, bd, nb, fl, AI, AN, AB, AL), rfl, (by simp [m_give, ixn, bI, ej, c_2, c_4, c_6] <;> (repeat' apply And.intro) <;> rfl), by rw [ht]; exact hP, va_K.moved hW.alike hK, hD⟩, hS.F ht⟩) hS.2.2 d_Mo_give_42
    · refine lv_bipush (v := (-2)) hx hb d_Mo_give_26 (by decide) ?_
      exact W.iret (v := (-2)) hx hb hr (fun t ht hW => ⟨⟨_, (0, yr, nf, no, nt, bd, nb, fl, AI, AN, AB, AL), rfl, (by simp [m_give, ixn, bI, ej, c_2, c_4] <;> (repeat' apply And.intro) <;> rfl), by rw [ht]; exact hP, va_K.moved hW.alike hK, hD⟩, hS.F ht⟩) hS.2.2 d_Mo_give_28
  · refine lv_iconst (v := (-1)) hx hb d_Mo_give_13 (by decide) ?_
    exact W.iret (v := (-1)) hx hb hr (fun t ht hW => ⟨⟨_, (0, yr, nf, no, nt, bd, nb, fl, AI, AN, AB, AL), rfl, (by simp [m_give, ixn, bI, c_2] <;> (repeat' apply And.intro) <;> rfl), by rw [ht]; exact hP, va_K.moved hW.alike hK, hD⟩, hS.F ht⟩) hS.2.2 d_Mo_give_14

theorem d_Mo_failing_0 : decode b_Mo_failing 0 = .ok (.aload_n 0, 1) := by decide +kernel
theorem d_Mo_failing_1 : decode b_Mo_failing 1 = .ok (.iconst 0, 1) := by decide +kernel
theorem d_Mo_failing_2 : decode b_Mo_failing 2 = .ok (.putfield 91, 3) := by decide +kernel
theorem d_Mo_failing_5 : decode b_Mo_failing 5 = .ok (.aload_n 0, 1) := by decide +kernel
theorem d_Mo_failing_6 : decode b_Mo_failing 6 = .ok (.getfield 85, 3) := by decide +kernel
theorem d_Mo_failing_9 : decode b_Mo_failing 9 = .ok (.ireturn, 1) := by decide +kernel
set_option maxHeartbeats 4000000 in
set_option maxRecDepth 100000 in
theorem c_Mo_failing (l : Launch) (dC : Nat → ClassId) (dI : Nat → Nat → Nat) (ad : Nat → Nat) (cA : Nat → ClassId) (th yr : Int32) (nf no nt : Nat) (bd : Int32) (nb : Nat) (fl : Int32) (AI : Nat → Nat → Int32) (AN : Nat → Nat → Nat) (AB : Nat → Nat → Bool) (AL : Nat → Nat → Int64) (sz : Nat) (hI : InvM nf no nt nb AI AN) : Met l y_Mo_failing w_Mo_failing { frames := 0, cells := 0, slots := 0, locals := 0 } (mu_P (dC, dI) classes (mtys cA) (mw ad cA th yr nf no nt bd nb fl AI AN AB AL) sz [.ref (ad 0)]) (va_Qi (fun r u => (r, u) = m_failing (th, yr, nf, no, nt, bd, nb, fl, AI, AN, AB, AL) ) (mu_B (dC, dI) classes (mtys cA) (va_A (mw ad cA th yr nf no nt bd nb fl AI AN AB AL) sz) (mwS ad cA)) (va_A (mw ad cA th yr nf no nt bd nb fl AI AN AB AL) sz)) 0 0 (va_A (mw ad cA th yr nf no nt bd nb fl AI AN AB AL) sz) := by
  refine Met.ofW (cc := b_Mo_failing) (maxL := 1) (ret := (some .int)) (by decide) rfl ?_
  intro p e s m args below meth c s₁ B hml hv
  obtain ⟨rfl, hsz, hP, hK, hD0, hN⟩ := hv
  have hx := B.exec
  have hb := B.bytes
  have hr := B.returns
  have hts := atoms_spec (ws := w_Mo_failing) B.pre
  have hG := fun (w : Cond) (h : w ∈ wG) => hts w (List.mem_cons_of_mem _ h)
  have hown : s.vm.findClass R_Mo = some m.cls := findClass_of_methodNamed B.named
  have hlocks := B.notSynchronized
  subst hsz
  have hD := hD0.self (sz := s.heap.size)
  generalize hAe : va_A (mw ad cA th yr nf no nt bd nb fl AI AN AB AL) s.heap.size = A at hD ⊢
  have hA : ∀ q : Nat, s.heap.size ≤ q → A q := fun q h => by rw [← hAe]; exact Or.inr h
  have hS : va_S A s.heap s.heap [] := va_S.rf
  have hP : va_P (dC, dI) classes (mw ad cA th yr nf no nt bd nb fl AI AN AB AL) s.heap := hP
  have hl := lv_entry ([.ref (ad 0)]) (n := 1) (Nat.le_of_ble_eq_true rfl)
  rw [lg_entry_eq]
  generalize (lg_sl ([.ref (ad 0)]) ++ List.replicate (1 - (lg_sl ([.ref (ad 0)])).length) Slot.unset).toArray = ls at hl ⊢
  have hl : lv_has ls 1 [(0, .ref (ad 0))] := hl
  obtain ⟨hnf, hno, hnt, hnb, hfu, hft, hbf, hrw, hce, hdn⟩ := id hI
  refine lv_aload_n hx hb d_Mo_failing_0 rfl (lv_at hl 0 rfl) ?_
  refine lv_iconst (v := 0) hx hb d_Mo_failing_1 (by decide) ?_
  refine va_put (D := (dC, dI)) (ci := 7) (v := .int 0) (ty := .int) (C := R_Mo) (T := F_Mo) (N := 31) hx hb hG iG_Mo t_Mo t_Mo_ok n_Mo hown hK hP hD hS 0 rfl rfl 0 (by decide) (hG _ k_523) (fun _ h9 => h9) rfl (by decide +kernel) rfl rfl (Nat.le_of_ble_eq_true rfl) d_Mo_failing_2 (fun H locs hP hD hS => ?_)
  have hP : va_P (dC, dI) classes (mw ad cA 0 yr nf no nt bd nb fl AI AN AB AL) H := hP
  have hD : va_D A (mw ad cA 0 yr nf no nt bd nb fl AI AN AB AL) := hD
  refine lv_aload_n hx hb d_Mo_failing_5 rfl (lv_at hl 0 rfl) ?_
  refine va_get (D := (dC, dI)) (ci := 7) (v := .int fl) (C := R_Mo) (T := F_Mo) (N := 31) hx hb hG iG_Mo hown hK hP 0 rfl rfl 30 (by decide) (hG _ k_553) (fun _ h9 => h9) rfl d_Mo_failing_6 ?_
  exact W.iret (v := fl) hx hb hr (fun t ht hW => ⟨⟨_, (0, yr, nf, no, nt, bd, nb, fl, AI, AN, AB, AL), rfl, (by simp [m_failing, ixn, bI] <;> (repeat' apply And.intro) <;> rfl), by rw [ht]; exact hP, va_K.moved hW.alike hK, hD⟩, hS.F ht⟩) hS.2.2 d_Mo_failing_9
end
section
theorem d_Mo_order_0 : decode b_Mo_order 0 = .ok (.aload_n 0, 1) := by decide +kernel
theorem d_Mo_order_1 : decode b_Mo_order 1 = .ok (.iconst 0, 1) := by decide +kernel
theorem d_Mo_order_2 : decode b_Mo_order 2 = .ok (.putfield 91, 3) := by decide +kernel
theorem d_Mo_order_5 : decode b_Mo_order 5 = .ok (.aload_n 0, 1) := by decide +kernel
theorem d_Mo_order_6 : decode b_Mo_order 6 = .ok (.iload_n 1, 1) := by decide +kernel
theorem d_Mo_order_7 : decode b_Mo_order 7 = .ok (.invokevirtual 118, 3) := by decide +kernel
theorem d_Mo_order_10 : decode b_Mo_order 10 = .ok (.ifCond .ne 5, 3) := by decide +kernel
theorem d_Mo_order_13 : decode b_Mo_order 13 = .ok (.iconst (-1), 1) := by decide +kernel
theorem d_Mo_order_14 : decode b_Mo_order 14 = .ok (.ireturn, 1) := by decide +kernel
theorem d_Mo_order_15 : decode b_Mo_order 15 = .ok (.iload_n 2, 1) := by decide +kernel
theorem d_Mo_order_16 : decode b_Mo_order 16 = .ok (.i2l, 1) := by decide +kernel
theorem d_Mo_order_17 : decode b_Mo_order 17 = .ok (.lconst 1, 1) := by decide +kernel
theorem d_Mo_order_18 : decode b_Mo_order 18 = .ok (.ldc2_w 128, 3) := by decide +kernel
theorem d_Mo_order_21 : decode b_Mo_order 21 = .ok (.invokestatic 97, 3) := by decide +kernel
theorem d_Mo_order_24 : decode b_Mo_order 24 = .ok (.ifCond .ne 6, 3) := by decide +kernel
theorem d_Mo_order_27 : decode b_Mo_order 27 = .ok (.bipush (-2), 2) := by decide +kernel
theorem d_Mo_order_29 : decode b_Mo_order 29 = .ok (.ireturn, 1) := by decide +kernel
theorem d_Mo_order_30 : decode b_Mo_order 30 = .ok (.aload_n 0, 1) := by decide +kernel
theorem d_Mo_order_31 : decode b_Mo_order 31 = .ok (.getfield 101, 3) := by decide +kernel
theorem d_Mo_order_34 : decode b_Mo_order 34 = .ok (.sipush 300, 3) := by decide +kernel
theorem d_Mo_order_37 : decode b_Mo_order 37 = .ok (.if_icmp .ne 6, 3) := by decide +kernel
theorem d_Mo_order_40 : decode b_Mo_order 40 = .ok (.bipush (-4), 2) := by decide +kernel
theorem d_Mo_order_42 : decode b_Mo_order 42 = .ok (.ireturn, 1) := by decide +kernel
theorem d_Mo_order_43 : decode b_Mo_order 43 = .ok (.iload_n 2, 1) := by decide +kernel
theorem d_Mo_order_44 : decode b_Mo_order 44 = .ok (.i2l, 1) := by decide +kernel
theorem d_Mo_order_45 : decode b_Mo_order 45 = .ok (.aload_n 0, 1) := by decide +kernel
theorem d_Mo_order_46 : decode b_Mo_order 46 = .ok (.iload_n 1, 1) := by decide +kernel
theorem d_Mo_order_47 : decode b_Mo_order 47 = .ok (.invokevirtual 130, 3) := by decide +kernel
theorem d_Mo_order_50 : decode b_Mo_order 50 = .ok (.lcmp, 1) := by decide +kernel
theorem d_Mo_order_51 : decode b_Mo_order 51 = .ok (.ifCond .gt 7, 3) := by decide +kernel
theorem d_Mo_order_54 : decode b_Mo_order 54 = .ok (.iconst 1, 1) := by decide +kernel
theorem d_Mo_order_55 : decode b_Mo_order 55 = .ok (.goto 4, 3) := by decide +kernel
theorem d_Mo_order_58 : decode b_Mo_order 58 = .ok (.iconst 0, 1) := by decide +kernel
theorem d_Mo_order_59 : decode b_Mo_order 59 = .ok (.istore 4, 2) := by decide +kernel
theorem d_Mo_order_61 : decode b_Mo_order 61 = .ok (.aload_n 0, 1) := by decide +kernel
theorem d_Mo_order_62 : decode b_Mo_order 62 = .ok (.getfield 20, 3) := by decide +kernel
theorem d_Mo_order_65 : decode b_Mo_order 65 = .ok (.aload_n 0, 1) := by decide +kernel
theorem d_Mo_order_66 : decode b_Mo_order 66 = .ok (.getfield 101, 3) := by decide +kernel
theorem d_Mo_order_69 : decode b_Mo_order 69 = .ok (.iload_n 1, 1) := by decide +kernel
theorem d_Mo_order_70 : decode b_Mo_order 70 = .ok (.iastore, 1) := by decide +kernel
theorem d_Mo_order_71 : decode b_Mo_order 71 = .ok (.aload_n 0, 1) := by decide +kernel
theorem d_Mo_order_72 : decode b_Mo_order 72 = .ok (.getfield 23, 3) := by decide +kernel
theorem d_Mo_order_75 : decode b_Mo_order 75 = .ok (.aload_n 0, 1) := by decide +kernel
theorem d_Mo_order_76 : decode b_Mo_order 76 = .ok (.getfield 101, 3) := by decide +kernel
theorem d_Mo_order_79 : decode b_Mo_order 79 = .ok (.iload_n 2, 1) := by decide +kernel
theorem d_Mo_order_80 : decode b_Mo_order 80 = .ok (.iastore, 1) := by decide +kernel
theorem d_Mo_order_81 : decode b_Mo_order 81 = .ok (.aload_n 0, 1) := by decide +kernel
theorem d_Mo_order_82 : decode b_Mo_order 82 = .ok (.getfield 26, 3) := by decide +kernel
theorem d_Mo_order_85 : decode b_Mo_order 85 = .ok (.aload_n 0, 1) := by decide +kernel
theorem d_Mo_order_86 : decode b_Mo_order 86 = .ok (.getfield 101, 3) := by decide +kernel
theorem d_Mo_order_89 : decode b_Mo_order 89 = .ok (.iload_n 3, 1) := by decide +kernel
theorem d_Mo_order_90 : decode b_Mo_order 90 = .ok (.bastore, 1) := by decide +kernel
theorem d_Mo_order_91 : decode b_Mo_order 91 = .ok (.aload_n 0, 1) := by decide +kernel
theorem d_Mo_order_92 : decode b_Mo_order 92 = .ok (.getfield 30, 3) := by decide +kernel
theorem d_Mo_order_95 : decode b_Mo_order 95 = .ok (.aload_n 0, 1) := by decide +kernel
theorem d_Mo_order_96 : decode b_Mo_order 96 = .ok (.getfield 101, 3) := by decide +kernel
theorem d_Mo_order_99 : decode b_Mo_order 99 = .ok (.iload 4, 2) := by decide +kernel
theorem d_Mo_order_101 : decode b_Mo_order 101 = .ok (.iastore, 1) := by decide +kernel
theorem d_Mo_order_102 : decode b_Mo_order 102 = .ok (.aload_n 0, 1) := by decide +kernel
theorem d_Mo_order_103 : decode b_Mo_order 103 = .ok (.getfield 36, 3) := by decide +kernel
theorem d_Mo_order_106 : decode b_Mo_order 106 = .ok (.aload_n 0, 1) := by decide +kernel
theorem d_Mo_order_107 : decode b_Mo_order 107 = .ok (.getfield 101, 3) := by decide +kernel
theorem d_Mo_order_110 : decode b_Mo_order 110 = .ok (.iconst 0, 1) := by decide +kernel
theorem d_Mo_order_111 : decode b_Mo_order 111 = .ok (.iastore, 1) := by decide +kernel
theorem d_Mo_order_112 : decode b_Mo_order 112 = .ok (.aload_n 0, 1) := by decide +kernel
theorem d_Mo_order_113 : decode b_Mo_order 113 = .ok (.getfield 39, 3) := by decide +kernel
theorem d_Mo_order_116 : decode b_Mo_order 116 = .ok (.aload_n 0, 1) := by decide +kernel
theorem d_Mo_order_117 : decode b_Mo_order 117 = .ok (.getfield 101, 3) := by decide +kernel
theorem d_Mo_order_120 : decode b_Mo_order 120 = .ok (.lconst 0, 1) := by decide +kernel
theorem d_Mo_order_121 : decode b_Mo_order 121 = .ok (.lastore, 1) := by decide +kernel
theorem d_Mo_order_122 : decode b_Mo_order 122 = .ok (.aload_n 0, 1) := by decide +kernel
theorem d_Mo_order_123 : decode b_Mo_order 123 = .ok (.getfield 42, 3) := by decide +kernel
theorem d_Mo_order_126 : decode b_Mo_order 126 = .ok (.aload_n 0, 1) := by decide +kernel
theorem d_Mo_order_127 : decode b_Mo_order 127 = .ok (.getfield 101, 3) := by decide +kernel
theorem d_Mo_order_130 : decode b_Mo_order 130 = .ok (.iconst 0, 1) := by decide +kernel
theorem d_Mo_order_131 : decode b_Mo_order 131 = .ok (.iastore, 1) := by decide +kernel
theorem d_Mo_order_132 : decode b_Mo_order 132 = .ok (.aload_n 0, 1) := by decide +kernel
theorem d_Mo_order_133 : decode b_Mo_order 133 = .ok (.getfield 45, 3) := by decide +kernel
theorem d_Mo_order_136 : decode b_Mo_order 136 = .ok (.aload_n 0, 1) := by decide +kernel
theorem d_Mo_order_137 : decode b_Mo_order 137 = .ok (.getfield 101, 3) := by decide +kernel
theorem d_Mo_order_140 : decode b_Mo_order 140 = .ok (.iconst (-1), 1) := by decide +kernel
theorem d_Mo_order_141 : decode b_Mo_order 141 = .ok (.iastore, 1) := by decide +kernel
theorem d_Mo_order_142 : decode b_Mo_order 142 = .ok (.aload_n 0, 1) := by decide +kernel
theorem d_Mo_order_143 : decode b_Mo_order 143 = .ok (.dup, 1) := by decide +kernel
theorem d_Mo_order_144 : decode b_Mo_order 144 = .ok (.getfield 101, 3) := by decide +kernel
theorem d_Mo_order_147 : decode b_Mo_order 147 = .ok (.iconst 1, 1) := by decide +kernel
theorem d_Mo_order_148 : decode b_Mo_order 148 = .ok (.iadd, 1) := by decide +kernel
theorem d_Mo_order_149 : decode b_Mo_order 149 = .ok (.putfield 101, 3) := by decide +kernel
theorem d_Mo_order_152 : decode b_Mo_order 152 = .ok (.iload 4, 2) := by decide +kernel
theorem d_Mo_order_154 : decode b_Mo_order 154 = .ok (.iconst 1, 1) := by decide +kernel
theorem d_Mo_order_155 : decode b_Mo_order 155 = .ok (.if_icmp .ne 12, 3) := by decide +kernel
theorem d_Mo_order_158 : decode b_Mo_order 158 = .ok (.aload_n 0, 1) := by decide +kernel
theorem d_Mo_order_159 : decode b_Mo_order 159 = .ok (.getfield 101, 3) := by decide +kernel
theorem d_Mo_order_162 : decode b_Mo_order 162 = .ok (.iconst 1, 1) := by decide +kernel
theorem d_Mo_order_163 : decode b_Mo_order 163 = .ok (.isub, 1) := by decide +kernel
theorem d_Mo_order_164 : decode b_Mo_order 164 = .ok (.goto 12, 3) := by decide +kernel
theorem d_Mo_order_167 : decode b_Mo_order 167 = .ok (.bipush (-10), 2) := by decide +kernel
theorem d_Mo_order_169 : decode b_Mo_order 169 = .ok (.aload_n 0, 1) := by decide +kernel
theorem d_Mo_order_170 : decode b_Mo_order 170 = .ok (.getfield 101, 3) := by decide +kernel
theorem d_Mo_order_173 : decode b_Mo_order 173 = .ok (.iconst 1, 1) := by decide +kernel
theorem d_Mo_order_174 : decode b_Mo_order 174 = .ok (.isub, 1) := by decide +kernel
theorem d_Mo_order_175 : decode b_Mo_order 175 = .ok (.isub, 1) := by decide +kernel
theorem d_Mo_order_176 : decode b_Mo_order 176 = .ok (.ireturn, 1) := by decide +kernel
set_option maxHeartbeats 4000000 in
set_option maxRecDepth 100000 in
theorem c_Mo_order (l : Launch) (dC : Nat → ClassId) (dI : Nat → Nat → Nat) (ad : Nat → Nat) (cA : Nat → ClassId) (th yr : Int32) (nf no nt : Nat) (bd : Int32) (nb : Nat) (fl : Int32) (AI : Nat → Nat → Int32) (AN : Nat → Nat → Nat) (AB : Nat → Nat → Bool) (AL : Nat → Nat → Int64) (sz : Nat) (fd c0 : Int32) (st : Bool) (hI : InvM nf no nt nb AI AN) : Met l y_Mo_order w_Mo_order { frames := 2, cells := 0, slots := 0, locals := 46 } (mu_P (dC, dI) classes (mtys cA) (mw ad cA th yr nf no nt bd nb fl AI AN AB AL) sz [.ref (ad 0), .int fd, .int c0, .int (bI st)]) (va_Qi (fun r u => (r, u) = m_order (th, yr, nf, no, nt, bd, nb, fl, AI, AN, AB, AL) fd c0 st) (mu_B (dC, dI) classes (mtys cA) (va_A (mw ad cA th yr nf no nt bd nb fl AI AN AB AL) sz) (mwS ad cA)) (va_A (mw ad cA th yr nf no nt bd nb fl AI AN AB AL) sz)) 0 0 (va_A (mw ad cA th yr nf no nt bd nb fl AI AN AB AL) sz) := by
  refine Met.ofW (cc := b_Mo_order) (maxL := 5) (ret := (some .int)) (by decide) rfl ?_
  intro p e s m args below meth c s₁ B hml hv
  obtain ⟨rfl, hsz, hP, hK, hD0, hN⟩ := hv
  have hx := B.exec
  have hb := B.bytes
  have hr := B.returns
  have hts := atoms_spec (ws := w_Mo_order) B.pre
  have hG := fun (w : Cond) (h : w ∈ wG) => hts w (List.mem_cons_of_mem _ h)
  have hown : s.vm.findClass R_Mo = some m.cls := findClass_of_methodNamed B.named
  have hlocks := B.notSynchronized
  subst hsz
  have hD := hD0.self (sz := s.heap.size)
  generalize hAe : va_A (mw ad cA th yr nf no nt bd nb fl AI AN AB AL) s.heap.size = A at hD ⊢
  have hA : ∀ q : Nat, s.heap.size ≤ q → A q := fun q h => by rw [← hAe]; exact Or.inr h
  have hS : va_S A s.heap s.heap [] := va_S.rf
  have hP : va_P (dC, dI) classes (mw ad cA th yr nf no nt bd nb fl AI AN AB AL) s.heap := hP
  have hl := lv_entry ([.ref (ad 0), .int fd, .int c0, .int (bI st)]) (n := 5) (Nat.le_of_ble_eq_true rfl)
  rw [lg_entry_eq]
  generalize (lg_sl ([.ref (ad 0), .int fd, .int c0, .int (bI st)]) ++ List.replicate (5 - (lg_sl ([.ref (ad 0), .int fd, .int c0, .int (bI st)])).length) Slot.unset).toArray = ls at hl ⊢
  have hl : lv_has ls 5 [(0, .ref (ad 0)), (1, .int fd), (2, .int c0), (3, .int (bI st))] := hl
  obtain ⟨hnf, hno, hnt, hnb, hfu, hft, hbf, hrw, hce, hdn⟩ := id hI
  refine lv_aload_n hx hb d_Mo_order_0 rfl (lv_at hl 0 rfl) ?_
  refine lv_iconst (v := 0) hx hb d_Mo_order_1 (by decide) ?_
  refine va_put (D := (dC, dI)) (ci := 7) (v := .int 0) (ty := .int) (C := R_Mo) (T := F_Mo) (N := 31) hx hb hG iG_Mo t_Mo t_Mo_ok n_Mo hown hK hP hD hS 0 rfl rfl 0 (by decide) (hG _ k_523) (fun _ h9 => h9) rfl (by decide +kernel) rfl rfl (Nat.le_of_ble_eq_true rfl) d_Mo_order_2 (fun H locs hP hD hS => ?_)
  have hP : va_P (dC, dI) classes (mw ad cA 0 yr nf no nt bd nb fl AI AN AB AL) H := hP
  have hD : va_D A (mw ad cA 0 yr nf no nt bd nb fl AI AN AB AL) := hD
  refine lv_aload_n hx hb d_Mo_order_5 rfl (lv_at hl 0 rfl) ?_
  refine lv_iload_n hx hb d_Mo_order_6 rfl (lv_at hl 1 rfl) ?_
  refine rd_calli (va_runV (As := [.int fd]) (rest := []) ⟨hx, hb, hml, hown, hts⟩ (c_Mo_isFund l dC dI ad cA 0 yr nf no nt bd nb fl AI AN AB AL fd) (cwV 1 hts (gd_V k_636 k_638 k_7 k_17 k_639) rfl rfl rfl (by decide +kernel) ⟨Nat.le_of_ble_eq_true rfl, Nat.le_of_ble_eq_true rfl⟩) (rd_preV 0 hK hN hP rfl rfl) rfl rfl hl.1 rfl (lv_room (Nat.le_of_ble_eq_true rfl)) d_Mo_order_7 ⟨Nat.zero_le _, Nat.zero_le _⟩) (fun r_1 hr_1 => ?_)
  subst hr_1
  refine lb_if_ne (tgt := 15) hx hb d_Mo_order_10 (by decide) (fun c_2 => ?_) (fun c_2 => ?_)
  · obtain ⟨j, hj, rfl⟩ := inN_of (n := nf) (by omega) c_2
    have ej : (nI j).toNatClampNeg = j := nI_clamp (by omega)
    refine lv_iload_n hx hb d_Mo_order_15 rfl (lv_at hl 2 rfl) ?_
    refine lv_i2l hx hb d_Mo_order_16 rfl ?_
    refine lv_lconst (v := 1) hx hb d_Mo_order_17 (by decide) ?_
    refine lv_ldc2 (own := R_Mo) (v := 1000000000) hx hb hown (hG _ k_658) d_Mo_order_18 ?_
    refine rd_calli (va_runS (As := [.long (c0.toInt64), .long 1, .long 1000000000]) (rest := []) ⟨hx, hb, hml, hown, hts⟩ (c_Mo_in l dC dI (mtys cA) (mw ad cA 0 yr nf no nt bd nb fl AI AN AB AL) (c0.toInt64) 1 1000000000) (cwS 3 hts (gd_S k_629 k_630 k_17 k_631) rfl rfl rfl (by decide +kernel) ⟨Nat.le_of_ble_eq_true rfl, Nat.le_of_ble_eq_true rfl⟩) (rd_preS hK hN hP) rfl rfl hl.1 rfl (lv_room (Nat.le_of_ble_eq_true rfl)) d_Mo_order_21 ⟨Nat.zero_le _, Nat.zero_le _⟩) (fun r_3 hr_3 => ?_)
    subst hr_3
    refine lb_if_ne (tgt := 30) hx hb d_Mo_order_24 (by decide) (fun c_4 => ?_) (fun c_4 => ?_)
    · refine lv_aload_n hx hb d_Mo_order_30 rfl (lv_at hl 0 rfl) ?_
      refine va_get (D := (dC, dI)) (ci := 7) (v := .int (nI no)) (C := R_Mo) (T := F_Mo) (N := 31) hx hb hG iG_Mo hown hK hP 0 rfl rfl 6 (by decide) (hG _ k_529) (fun _ h9 => h9) rfl d_Mo_order_31 ?_
      refine lv_sipush (v := 300) hx hb d_Mo_order_34 (by decide) ?_
      refine lv_icmp_ne (tgt := 43) hx hb d_Mo_order_37 (by decide) (fun c_5 => ?_) (fun c_5 => ?_)
      · rw [nI_300 hno] at c_5
        refine lv_iload_n hx hb d_Mo_order_43 rfl (lv_at hl 2 rfl) ?_
        refine lv_i2l hx hb d_Mo_order_44 rfl ?_
        refine lv_aload_n hx hb d_Mo_order_45 rfl (lv_at hl 0 rfl) ?_
        refine lv_iload_n hx hb d_Mo_order_46 rfl (lv_at hl 1 rfl) ?_
        refine rd_calll (va_runV (As := [.int (nI j)]) (rest := [.long (c0.toInt64)]) ⟨hx, hb, hml, hown, hts⟩ (c_Mo_free l dC dI ad cA 0 yr nf no nt bd nb fl AI AN AB AL j hno (by omega)) (cwV 1 hts (gd_V k_659 k_661 k_10 k_17 k_662) rfl rfl rfl (by decide +kernel) ⟨Nat.le_of_ble_eq_true rfl, Nat.le_of_ble_eq_true rfl⟩) (rd_preV 0 hK hN hP rfl rfl) rfl rfl hl.1 rfl (lv_room (Nat.le_of_ble_eq_true rfl)) d_Mo_order_47 ⟨Nat.zero_le _, Nat.zero_le _⟩) (fun r_6 hr_6 => ?_)
        subst hr_6
        refine lc_gt (tgt := 58) hx hb d_Mo_order_50 d_Mo_order_51 (by decide) (fun c_7 => ?_) (fun c_7 => ?_)
        · rw [← Int64.not_le] at c_7
          refine lv_iconst (v := 0) hx hb d_Mo_order_58 (by decide) ?_
          refine lv_istore (lv' := [(4, .int 0), (0, .ref (ad 0)), (1, .int (nI j)), (2, .int c0), (3, .int (bI st))]) hx hb d_Mo_order_59 hl (by decide) rfl (fun ls hl => ?_)
          refine lv_aload_n hx hb d_Mo_order_61 rfl (lv_at hl 1 rfl) ?_
          refine va_get (D := (dC, dI)) (ci := 7) (v := .ref (ad 4)) (C := R_Mo) (T := F_Mo) (N := 31) hx hb hG iG_Mo hown hK hP 0 rfl rfl 7 (by decide) (hG _ k_530) (fun _ h9 => h9) rfl d_Mo_order_62 ?_
          refine lv_aload_n hx hb d_Mo_order_65 rfl (lv_at hl 1 rfl) ?_
          refine va_get (D := (dC, dI)) (ci := 7) (v := .int (nI no)) (C := R_Mo) (T := F_Mo) (N := 31) hx hb hG iG_Mo hown hK hP 0 rfl rfl 6 (by decide) (hG _ k_529) (fun _ h9 => h9) rfl d_Mo_order_66 ?_
          refine lv_iload_n hx hb d_Mo_order_69 rfl (lv_at hl 2 rfl) ?_
          refine rn_iast (n := 300) (j := no) (g := AN 4) (b := j) hx hb hK hP hD hS 4 3 rfl rfl (by omega) (by decide) d_Mo_order_70 (fun H locs hP hD hS => ?_)
          have hP : va_P (dC, dI) classes (mw ad cA 0 yr nf no nt bd nb fl AI (va_up AN 4 (va_up (AN 4) no j)) AB AL) H := hP
          have hD : va_D A (mw ad cA 0 yr nf no nt bd nb fl AI (va_up AN 4 (va_up (AN 4) no j)) AB AL) := hD
          refine lv_aload_n hx hb d_Mo_order_71 rfl (lv_at hl 1 rfl) ?_
          refine va_get (D := (dC, dI)) (ci := 7) (v := .ref (ad 5)) (C := R_Mo) (T := F_Mo) (N := 31) hx hb hG iG_Mo hown hK hP 0 rfl rfl 8 (by decide) (hG _ k_531) (fun _ h9 => h9) rfl d_Mo_order_72 ?_
          refine lv_aload_n hx hb d_Mo_order_75 rfl (lv_at hl 1 rfl) ?_
          refine va_get (D := (dC, dI)) (ci := 7) (v := .int (nI no)) (C := R_Mo) (T := F_Mo) (N := 31) hx hb hG iG_Mo hown hK hP 0 rfl rfl 6 (by decide) (hG _ k_529) (fun _ h9 => h9) rfl d_Mo_order_76 ?_
          refine lv_iload_n hx hb d_Mo_order_79 rfl (lv_at hl 3 rfl) ?_
          refine ra_iast (n := 300) (j := no) (f := AI 5) hx hb hK hP hD hS 5 4 rfl rfl (by omega) (by decide) d_Mo_order_80 (fun H locs hP hD hS => ?_)
          have hP : va_P (dC, dI) classes (mw ad cA 0 yr nf no nt bd nb fl (va_up AI 5 (va_up (AI 5) no c0)) (va_up AN 4 (va_up (AN 4) no j)) AB AL) H := hP
          have hD : va_D A (mw ad cA 0 yr nf no nt bd nb fl (va_up AI 5 (va_up (AI 5) no c0)) (va_up AN 4 (va_up (AN 4) no j)) AB AL) := hD
          refine lv_aload_n hx hb d_Mo_order_81 rfl (lv_at hl 1 rfl) ?_
          refine va_get (D := (dC, dI)) (ci := 7) (v := .ref (ad 6)) (C := R_Mo) (T := F_Mo) (N := 31) hx hb hG iG_Mo hown hK hP 0 rfl rfl 9 (by decide) (hG _ k_532) (fun _ h9 => h9) rfl d_Mo_order_82 ?_
          refine lv_aload_n hx hb d_Mo_order_85 rfl (lv_at hl 1 rfl) ?_
          refine va_get (D := (dC, dI)) (ci := 7) (v := .int (nI no)) (C := R_Mo) (T := F_Mo) (N := 31) hx hb hG iG_Mo hown hK hP 0 rfl rfl 6 (by decide) (hG _ k_529) (fun _ h9 => h9) rfl d_Mo_order_86 ?_
          refine lv_iload_n hx hb d_Mo_order_89 rfl (lv_at hl 4 rfl) ?_
          refine rb_zast (n := 300) (j := no) (g := AB 6) (b := st) hx hb hK hP hD hS 6 5 rfl rfl (by omega) (by decide) d_Mo_order_90 (fun H locs hP hD hS => ?_)
          have hP : va_P (dC, dI) classes (mw ad cA 0 yr nf no nt bd nb fl (va_up AI 5 (va_up (AI 5) no c0)) (va_up AN 4 (va_up (AN 4) no j)) (va_up AB 6 (va_up (AB 6) no st)) AL) H := hP
          have hD : va_D A (mw ad cA 0 yr nf no nt bd nb fl (va_up AI 5 (va_up (AI 5) no c0)) (va_up AN 4 (va_up (AN 4) no j)) (va_up AB 6 (va_up (AB 6) no st)) AL) := hD
          refine lv_aload_n hx hb d_Mo_order_91 rfl (lv_at hl 1 rfl) ?_
          refine va_get (D := (dC, dI)) (ci := 7) (v := .ref (ad 7)) (C := R_Mo) (T := F_Mo) (N := 31) hx hb hG iG_Mo hown hK hP 0 rfl rfl 10 (by decide) (hG _ k_533) (fun _ h9 => h9) rfl d_Mo_order_92 ?_
          refine lv_aload_n hx hb d_Mo_order_95 rfl (lv_at hl 1 rfl) ?_
          refine va_get (D := (dC, dI)) (ci := 7) (v := .int (nI no)) (C := R_Mo) (T := F_Mo) (N := 31) hx hb hG iG_Mo hown hK hP 0 rfl rfl 6 (by decide) (hG _ k_529) (fun _ h9 => h9) rfl d_Mo_order_96 ?_
          refine lv_iload hx hb d_Mo_order_99 (lv_at hl 0 rfl) ?_
          refine ra_iast (n := 300) (j := no) (f := AI 7) hx hb hK hP hD hS 7 6 rfl rfl (by omega) (by decide) d_Mo_order_101 (fun H locs hP hD hS => ?_)
          have hP : va_P (dC, dI) classes (mw ad cA 0 yr nf no nt bd nb fl (va_up (va_up AI 5 (va_up (AI 5) no c0)) 7 (va_up (AI 7) no 0)) (va_up AN 4 (va_up (AN 4) no j)) (va_up AB 6 (va_up (AB 6) no st)) AL) H := hP
          have hD : va_D A (mw ad cA 0 yr nf no nt bd nb fl (va_up (va_up AI 5 (va_up (AI 5) no c0)) 7 (va_up (AI 7) no 0)) (va_up AN 4 (va_up (AN 4) no j)) (va_up AB 6 (va_up (AB 6) no st)) AL) := hD
          refine lv_aload_n hx hb d_Mo_order_102 rfl (lv_at hl 1 rfl) ?_
          refine va_get (D := (dC, dI)) (ci := 7) (v := .ref (ad 9)) (C := R_Mo) (T := F_Mo) (N := 31) hx hb hG iG_Mo hown hK hP 0 rfl rfl 12 (by decide) (hG _ k_535) (fun _ h9 => h9) rfl d_Mo_order_103 ?_
          refine lv_aload_n hx hb d_Mo_order_106 rfl (lv_at hl 1 rfl) ?_
          refine va_get (D := (dC, dI)) (ci := 7) (v := .int (nI no)) (C := R_Mo) (T := F_Mo) (N := 31) hx hb hG iG_Mo hown hK hP 0 rfl rfl 6 (by decide) (hG _ k_529) (fun _ h9 => h9) rfl d_Mo_order_107 ?_
          refine lv_iconst (v := 0) hx hb d_Mo_order_110 (by decide) ?_
          refine ra_iast (n := 300) (j := no) (f := AI 9) hx hb hK hP hD hS 9 8 rfl rfl (by omega) (by decide) d_Mo_order_111 (fun H locs hP hD hS => ?_)
          have hP : va_P (dC, dI) classes (mw ad cA 0 yr nf no nt bd nb fl (va_up (va_up (va_up AI 5 (va_up (AI 5) no c0)) 7 (va_up (AI 7) no 0)) 9 (va_up (AI 9) no 0)) (va_up AN 4 (va_up (AN 4) no j)) (va_up AB 6 (va_up (AB 6) no st)) AL) H := hP
          have hD : va_D A (mw ad cA 0 yr nf no nt bd nb fl (va_up (va_up (va_up AI 5 (va_up (AI 5) no c0)) 7 (va_up (AI 7) no 0)) 9 (va_up (AI 9) no 0)) (va_up AN 4 (va_up (AN 4) no j)) (va_up AB 6 (va_up (AB 6) no st)) AL) := hD
          refine lv_aload_n hx hb d_Mo_order_112 rfl (lv_at hl 1 rfl) ?_
          refine va_get (D := (dC, dI)) (ci := 7) (v := .ref (ad 10)) (C := R_Mo) (T := F_Mo) (N := 31) hx hb hG iG_Mo hown hK hP 0 rfl rfl 13 (by decide) (hG _ k_536) (fun _ h9 => h9) rfl d_Mo_order_113 ?_
          refine lv_aload_n hx hb d_Mo_order_116 rfl (lv_at hl 1 rfl) ?_
          refine va_get (D := (dC, dI)) (ci := 7) (v := .int (nI no)) (C := R_Mo) (T := F_Mo) (N := 31) hx hb hG iG_Mo hown hK hP 0 rfl rfl 6 (by decide) (hG _ k_529) (fun _ h9 => h9) rfl d_Mo_order_117 ?_
          refine lv_lconst (v := 0) hx hb d_Mo_order_120 (by decide) ?_
          refine ra_last (n := 300) (j := no) (f := AL 10) hx hb hK hP hD hS 10 9 rfl rfl (by omega) (by decide) d_Mo_order_121 (fun H locs hP hD hS => ?_)
          have hP : va_P (dC, dI) classes (mw ad cA 0 yr nf no nt bd nb fl (va_up (va_up (va_up AI 5 (va_up (AI 5) no c0)) 7 (va_up (AI 7) no 0)) 9 (va_up (AI 9) no 0)) (va_up AN 4 (va_up (AN 4) no j)) (va_up AB 6 (va_up (AB 6) no st)) (va_up AL 10 (va_up (AL 10) no 0))) H := hP
          have hD : va_D A (mw ad cA 0 yr nf no nt bd nb fl (va_up (va_up (va_up AI 5 (va_up (AI 5) no c0)) 7 (va_up (AI 7) no 0)) 9 (va_up (AI 9) no 0)) (va_up AN 4 (va_up (AN 4) no j)) (va_up AB 6 (va_up (AB 6) no st)) (va_up AL 10 (va_up (AL 10) no 0))) := hD
          refine lv_aload_n hx hb d_Mo_order_122 rfl (lv_at hl 1 rfl) ?_
          refine va_get (D := (dC, dI)) (ci := 7) (v := .ref (ad 11)) (C := R_Mo) (T := F_Mo) (N := 31) hx hb hG iG_Mo hown hK hP 0 rfl rfl 14 (by decide) (hG _ k_537) (fun _ h9 => h9) rfl d_Mo_order_123 ?_
          refine lv_aload_n hx hb d_Mo_order_126 rfl (lv_at hl 1 rfl) ?_
          refine va_get (D := (dC, dI)) (ci := 7) (v := .int (nI no)) (C := R_Mo) (T := F_Mo) (N := 31) hx hb hG iG_Mo hown hK hP 0 rfl rfl 6 (by decide) (hG _ k_529) (fun _ h9 => h9) rfl d_Mo_order_127 ?_
          refine lv_iconst (v := 0) hx hb d_Mo_order_130 (by decide) ?_
          refine ra_iast (n := 300) (j := no) (f := AI 11) hx hb hK hP hD hS 11 10 rfl rfl (by omega) (by decide) d_Mo_order_131 (fun H locs hP hD hS => ?_)
          have hP : va_P (dC, dI) classes (mw ad cA 0 yr nf no nt bd nb fl (va_up (va_up (va_up (va_up AI 5 (va_up (AI 5) no c0)) 7 (va_up (AI 7) no 0)) 9 (va_up (AI 9) no 0)) 11 (va_up (AI 11) no 0)) (va_up AN 4 (va_up (AN 4) no j)) (va_up AB 6 (va_up (AB 6) no st)) (va_up AL 10 (va_up (AL 10) no 0))) H := hP
          have hD : va_D A (mw ad cA 0 yr nf no nt bd nb fl (va_up (va_up (va_up (va_up AI 5 (va_up (AI 5) no c0)) 7 (va_up (AI 7) no 0)) 9 (va_up (AI 9) no 0)) 11 (va_up (AI 11) no 0)) (va_up AN 4 (va_up (AN 4) no j)) (va_up AB 6 (va_up (AB 6) no st)) (va_up AL 10 (va_up (AL 10) no 0))) := hD
          refine lv_aload_n hx hb d_Mo_order_132 rfl (lv_at hl 1 rfl) ?_
          refine va_get (D := (dC, dI)) (ci := 7) (v := .ref (ad 12)) (C := R_Mo) (T := F_Mo) (N := 31) hx hb hG iG_Mo hown hK hP 0 rfl rfl 15 (by decide) (hG _ k_538) (fun _ h9 => h9) rfl d_Mo_order_133 ?_
          refine lv_aload_n hx hb d_Mo_order_136 rfl (lv_at hl 1 rfl) ?_
          refine va_get (D := (dC, dI)) (ci := 7) (v := .int (nI no)) (C := R_Mo) (T := F_Mo) (N := 31) hx hb hG iG_Mo hown hK hP 0 rfl rfl 6 (by decide) (hG _ k_529) (fun _ h9 => h9) rfl d_Mo_order_137 ?_
          refine lv_iconst (v := (-1)) hx hb d_Mo_order_140 (by decide) ?_
          refine ra_iast (n := 300) (j := no) (f := AI 12) hx hb hK hP hD hS 12 11 rfl rfl (by omega) (by decide) d_Mo_order_141 (fun H locs hP hD hS => ?_)
          have hP : va_P (dC, dI) classes (mw ad cA 0 yr nf no nt bd nb fl (va_up (va_up (va_up (va_up (va_up AI 5 (va_up (AI 5) no c0)) 7 (va_up (AI 7) no 0)) 9 (va_up (AI 9) no 0)) 11 (va_up (AI 11) no 0)) 12 (va_up (AI 12) no (-1))) (va_up AN 4 (va_up (AN 4) no j)) (va_up AB 6 (va_up (AB 6) no st)) (va_up AL 10 (va_up (AL 10) no 0))) H := hP
          have hD : va_D A (mw ad cA 0 yr nf no nt bd nb fl (va_up (va_up (va_up (va_up (va_up AI 5 (va_up (AI 5) no c0)) 7 (va_up (AI 7) no 0)) 9 (va_up (AI 9) no 0)) 11 (va_up (AI 11) no 0)) 12 (va_up (AI 12) no (-1))) (va_up AN 4 (va_up (AN 4) no j)) (va_up AB 6 (va_up (AB 6) no st)) (va_up AL 10 (va_up (AL 10) no 0))) := hD
          refine lv_aload_n hx hb d_Mo_order_142 rfl (lv_at hl 1 rfl) ?_
          refine lv_dup hx hb d_Mo_order_143 rfl ?_
          refine va_get (D := (dC, dI)) (ci := 7) (v := .int (nI no)) (C := R_Mo) (T := F_Mo) (N := 31) hx hb hG iG_Mo hown hK hP 0 rfl rfl 6 (by decide) (hG _ k_529) (fun _ h9 => h9) rfl d_Mo_order_144 ?_
          refine lv_iconst (v := 1) hx hb d_Mo_order_147 (by decide) ?_
          refine lv_iadd hx hb d_Mo_order_148 ?_
          refine lv_topI (y := nI (no + 1)) (nI_add no 1) ?_
          refine va_put (D := (dC, dI)) (ci := 7) (v := .int (nI (no + 1))) (ty := .int) (C := R_Mo) (T := F_Mo) (N := 31) hx hb hG iG_Mo t_Mo t_Mo_ok n_Mo hown hK hP hD hS 0 rfl rfl 6 (by decide) (hG _ k_529) (fun _ h9 => h9) rfl (by decide +kernel) rfl rfl (Nat.le_of_ble_eq_true rfl) d_Mo_order_149 (fun H locs hP hD hS => ?_)
          have hP : va_P (dC, dI) classes (mw ad cA 0 yr nf (no + 1) nt bd nb fl (va_up (va_up (va_up (va_up (va_up AI 5 (va_up (AI 5) no c0)) 7 (va_up (AI 7) no 0)) 9 (va_up (AI 9) no 0)) 11 (va_up (AI 11) no 0)) 12 (va_up (AI 12) no (-1))) (va_up AN 4 (va_up (AN 4) no j)) (va_up AB 6 (va_up (AB 6) no st)) (va_up AL 10 (va_up (AL 10) no 0))) H := hP
          have hD : va_D A (mw ad cA 0 yr nf (no + 1) nt bd nb fl (va_up (va_up (va_up (va_up (va_up AI 5 (va_up (AI 5) no c0)) 7 (va_up (AI 7) no 0)) 9 (va_up (AI 9) no 0)) 11 (va_up (AI 11) no 0)) 12 (va_up (AI 12) no (-1))) (va_up AN 4 (va_up (AN 4) no j)) (va_up AB 6 (va_up (AB 6) no st)) (va_up AL 10 (va_up (AL 10) no 0))) := hD
          refine lv_iload hx hb d_Mo_order_152 (lv_at hl 0 rfl) ?_
          refine lv_iconst (v := 1) hx hb d_Mo_order_154 (by decide) ?_
          refine lv_icmp_ne (tgt := 167) hx hb d_Mo_order_155 (by decide) (fun c_8 => ?_) (fun c_8 => ?_)
          · refine lv_bipush (v := (-10)) hx hb d_Mo_order_167 (by decide) ?_
            refine lv_aload_n hx hb d_Mo_order_169 rfl (lv_at hl 1 rfl) ?_
            refine va_get (D := (dC, dI)) (ci := 7) (v := .int (nI (no + 1))) (C := R_Mo) (T := F_Mo) (N := 31) hx hb hG iG_Mo hown hK hP 0 rfl rfl 6 (by decide) (hG _ k_529) (fun _ h9 => h9) rfl d_Mo_order_170 ?_
            refine lv_iconst (v := 1) hx hb d_Mo_order_173 (by decide) ?_
            refine lv_isub hx hb d_Mo_order_174 ?_
            refine lv_topI (y := nI no) (nI_pred no) ?_
            refine lv_isub hx hb d_Mo_order_175 ?_
            exact W.iret (v := ((-10) - nI no)) hx hb hr (fun t ht hW => ⟨⟨_, (0, yr, nf, (no + 1), nt, bd, nb, fl, va_up (va_up (va_up (va_up (va_up AI 5 (va_up (AI 5) no c0)) 7 (va_up (AI 7) no 0)) 9 (va_up (AI 9) no 0)) 11 (va_up (AI 11) no 0)) 12 (va_up (AI 12) no (-1)), va_up AN 4 (va_up (AN 4) no j), va_up AB 6 (va_up (AB 6) no st), va_up AL 10 (va_up (AL 10) no 0)), rfl, (by simp [m_order, ixn, bI, ej, c_2, c_4, c_5, c_7] <;> (repeat' apply And.intro) <;> rfl), by rw [ht]; exact hP, va_K.moved hW.alike hK, hD⟩, hS.F ht⟩) hS.2.2 d_Mo_order_176
          · exact absurd c_8 (by decide)
        · rw [Int64.not_lt] at c_7
          refine lv_iconst (v := 1) hx hb d_Mo_order_54 (by decide) ?_
          refine lv_goto (tgt := 59) hx hb d_Mo_order_55 (by decide) ?_
          refine lv_istore (lv' := [(4, .int 1), (0, .ref (ad 0)), (1, .int (nI j)), (2, .int c0), (3, .int (bI st))]) hx hb d_Mo_order_59 hl (by decide) rfl (fun ls hl => ?_)
          refine lv_aload_n hx hb d_Mo_order_61 rfl (lv_at hl 1 rfl) ?_
          refine va_get (D := (dC, dI)) (ci := 7) (v := .ref (ad 4)) (C := R_Mo) (T := F_Mo) (N := 31) hx hb hG iG_Mo hown hK hP 0 rfl rfl 7 (by decide) (hG _ k_530) (fun _ h9 => h9) rfl d_Mo_order_62 ?_
          refine lv_aload_n hx hb d_Mo_order_65 rfl (lv_at hl 1 rfl) ?_
          refine va_get (D := (dC, dI)) (ci := 7) (v := .int (nI no)) (C := R_Mo) (T := F_Mo) (N := 31) hx hb hG iG_Mo hown hK hP 0 rfl rfl 6 (by decide) (hG _ k_529) (fun _ h9 => h9) rfl d_Mo_order_66 ?_
          refine lv_iload_n hx hb d_Mo_order_69 rfl (lv_at hl 2 rfl) ?_
          refine rn_iast (n := 300) (j := no) (g := AN 4) (b := j) hx hb hK hP hD hS 4 3 rfl rfl (by omega) (by decide) d_Mo_order_70 (fun H locs hP hD hS => ?_)
          have hP : va_P (dC, dI) classes (mw ad cA 0 yr nf no nt bd nb fl AI (va_up AN 4 (va_up (AN 4) no j)) AB AL) H := hP
          have hD : va_D A (mw ad cA 0 yr nf no nt bd nb fl AI (va_up AN 4 (va_up (AN 4) no j)) AB AL) := hD
          refine lv_aload_n hx hb d_Mo_order_71 rfl (lv_at hl 1 rfl) ?_
          refine va_get (D := (dC, dI)) (ci := 7) (v := .ref (ad 5)) (C := R_Mo) (T := F_Mo) (N := 31) hx hb hG iG_Mo hown hK hP 0 rfl rfl 8 (by decide) (hG _ k_531) (fun _ h9 => h9) rfl d_Mo_order_72 ?_
          refine lv_aload_n hx hb d_Mo_order_75 rfl (lv_at hl 1 rfl) ?_
          refine va_get (D := (dC, dI)) (ci := 7) (v := .int (nI no)) (C := R_Mo) (T := F_Mo) (N := 31) hx hb hG iG_Mo hown hK hP 0 rfl rfl 6 (by decide) (hG _ k_529) (fun _ h9 => h9) rfl d_Mo_order_76 ?_
          refine lv_iload_n hx hb d_Mo_order_79 rfl (lv_at hl 3 rfl) ?_
          refine ra_iast (n := 300) (j := no) (f := AI 5) hx hb hK hP hD hS 5 4 rfl rfl (by omega) (by decide) d_Mo_order_80 (fun H locs hP hD hS => ?_)
          have hP : va_P (dC, dI) classes (mw ad cA 0 yr nf no nt bd nb fl (va_up AI 5 (va_up (AI 5) no c0)) (va_up AN 4 (va_up (AN 4) no j)) AB AL) H := hP
          have hD : va_D A (mw ad cA 0 yr nf no nt bd nb fl (va_up AI 5 (va_up (AI 5) no c0)) (va_up AN 4 (va_up (AN 4) no j)) AB AL) := hD
          refine lv_aload_n hx hb d_Mo_order_81 rfl (lv_at hl 1 rfl) ?_
          refine va_get (D := (dC, dI)) (ci := 7) (v := .ref (ad 6)) (C := R_Mo) (T := F_Mo) (N := 31) hx hb hG iG_Mo hown hK hP 0 rfl rfl 9 (by decide) (hG _ k_532) (fun _ h9 => h9) rfl d_Mo_order_82 ?_
          refine lv_aload_n hx hb d_Mo_order_85 rfl (lv_at hl 1 rfl) ?_
          refine va_get (D := (dC, dI)) (ci := 7) (v := .int (nI no)) (C := R_Mo) (T := F_Mo) (N := 31) hx hb hG iG_Mo hown hK hP 0 rfl rfl 6 (by decide) (hG _ k_529) (fun _ h9 => h9) rfl d_Mo_order_86 ?_
          refine lv_iload_n hx hb d_Mo_order_89 rfl (lv_at hl 4 rfl) ?_
          refine rb_zast (n := 300) (j := no) (g := AB 6) (b := st) hx hb hK hP hD hS 6 5 rfl rfl (by omega) (by decide) d_Mo_order_90 (fun H locs hP hD hS => ?_)
          have hP : va_P (dC, dI) classes (mw ad cA 0 yr nf no nt bd nb fl (va_up AI 5 (va_up (AI 5) no c0)) (va_up AN 4 (va_up (AN 4) no j)) (va_up AB 6 (va_up (AB 6) no st)) AL) H := hP
          have hD : va_D A (mw ad cA 0 yr nf no nt bd nb fl (va_up AI 5 (va_up (AI 5) no c0)) (va_up AN 4 (va_up (AN 4) no j)) (va_up AB 6 (va_up (AB 6) no st)) AL) := hD
          refine lv_aload_n hx hb d_Mo_order_91 rfl (lv_at hl 1 rfl) ?_
          refine va_get (D := (dC, dI)) (ci := 7) (v := .ref (ad 7)) (C := R_Mo) (T := F_Mo) (N := 31) hx hb hG iG_Mo hown hK hP 0 rfl rfl 10 (by decide) (hG _ k_533) (fun _ h9 => h9) rfl d_Mo_order_92 ?_
          refine lv_aload_n hx hb d_Mo_order_95 rfl (lv_at hl 1 rfl) ?_
          refine va_get (D := (dC, dI)) (ci := 7) (v := .int (nI no)) (C := R_Mo) (T := F_Mo) (N := 31) hx hb hG iG_Mo hown hK hP 0 rfl rfl 6 (by decide) (hG _ k_529) (fun _ h9 => h9) rfl d_Mo_order_96 ?_
          refine lv_iload hx hb d_Mo_order_99 (lv_at hl 0 rfl) ?_
          refine ra_iast (n := 300) (j := no) (f := AI 7) hx hb hK hP hD hS 7 6 rfl rfl (by omega) (by decide) d_Mo_order_101 (fun H locs hP hD hS => ?_)
          have hP : va_P (dC, dI) classes (mw ad cA 0 yr nf no nt bd nb fl (va_up (va_up AI 5 (va_up (AI 5) no c0)) 7 (va_up (AI 7) no 1)) (va_up AN 4 (va_up (AN 4) no j)) (va_up AB 6 (va_up (AB 6) no st)) AL) H := hP
          have hD : va_D A (mw ad cA 0 yr nf no nt bd nb fl (va_up (va_up AI 5 (va_up (AI 5) no c0)) 7 (va_up (AI 7) no 1)) (va_up AN 4 (va_up (AN 4) no j)) (va_up AB 6 (va_up (AB 6) no st)) AL) := hD
          refine lv_aload_n hx hb d_Mo_order_102 rfl (lv_at hl 1 rfl) ?_
          refine va_get (D := (dC, dI)) (ci := 7) (v := .ref (ad 9)) (C := R_Mo) (T := F_Mo) (N := 31) hx hb hG iG_Mo hown hK hP 0 rfl rfl 12 (by decide) (hG _ k_535) (fun _ h9 => h9) rfl d_Mo_order_103 ?_
          refine lv_aload_n hx hb d_Mo_order_106 rfl (lv_at hl 1 rfl) ?_
          refine va_get (D := (dC, dI)) (ci := 7) (v := .int (nI no)) (C := R_Mo) (T := F_Mo) (N := 31) hx hb hG iG_Mo hown hK hP 0 rfl rfl 6 (by decide) (hG _ k_529) (fun _ h9 => h9) rfl d_Mo_order_107 ?_
          refine lv_iconst (v := 0) hx hb d_Mo_order_110 (by decide) ?_
          refine ra_iast (n := 300) (j := no) (f := AI 9) hx hb hK hP hD hS 9 8 rfl rfl (by omega) (by decide) d_Mo_order_111 (fun H locs hP hD hS => ?_)
          have hP : va_P (dC, dI) classes (mw ad cA 0 yr nf no nt bd nb fl (va_up (va_up (va_up AI 5 (va_up (AI 5) no c0)) 7 (va_up (AI 7) no 1)) 9 (va_up (AI 9) no 0)) (va_up AN 4 (va_up (AN 4) no j)) (va_up AB 6 (va_up (AB 6) no st)) AL) H := hP
          have hD : va_D A (mw ad cA 0 yr nf no nt bd nb fl (va_up (va_up (va_up AI 5 (va_up (AI 5) no c0)) 7 (va_up (AI 7) no 1)) 9 (va_up (AI 9) no 0)) (va_up AN 4 (va_up (AN 4) no j)) (va_up AB 6 (va_up (AB 6) no st)) AL) := hD
          refine lv_aload_n hx hb d_Mo_order_112 rfl (lv_at hl 1 rfl) ?_
          refine va_get (D := (dC, dI)) (ci := 7) (v := .ref (ad 10)) (C := R_Mo) (T := F_Mo) (N := 31) hx hb hG iG_Mo hown hK hP 0 rfl rfl 13 (by decide) (hG _ k_536) (fun _ h9 => h9) rfl d_Mo_order_113 ?_
          refine lv_aload_n hx hb d_Mo_order_116 rfl (lv_at hl 1 rfl) ?_
          refine va_get (D := (dC, dI)) (ci := 7) (v := .int (nI no)) (C := R_Mo) (T := F_Mo) (N := 31) hx hb hG iG_Mo hown hK hP 0 rfl rfl 6 (by decide) (hG _ k_529) (fun _ h9 => h9) rfl d_Mo_order_117 ?_
          refine lv_lconst (v := 0) hx hb d_Mo_order_120 (by decide) ?_
          refine ra_last (n := 300) (j := no) (f := AL 10) hx hb hK hP hD hS 10 9 rfl rfl (by omega) (by decide) d_Mo_order_121 (fun H locs hP hD hS => ?_)
          have hP : va_P (dC, dI) classes (mw ad cA 0 yr nf no nt bd nb fl (va_up (va_up (va_up AI 5 (va_up (AI 5) no c0)) 7 (va_up (AI 7) no 1)) 9 (va_up (AI 9) no 0)) (va_up AN 4 (va_up (AN 4) no j)) (va_up AB 6 (va_up (AB 6) no st)) (va_up AL 10 (va_up (AL 10) no 0))) H := hP
          have hD : va_D A (mw ad cA 0 yr nf no nt bd nb fl (va_up (va_up (va_up AI 5 (va_up (AI 5) no c0)) 7 (va_up (AI 7) no 1)) 9 (va_up (AI 9) no 0)) (va_up AN 4 (va_up (AN 4) no j)) (va_up AB 6 (va_up (AB 6) no st)) (va_up AL 10 (va_up (AL 10) no 0))) := hD
          refine lv_aload_n hx hb d_Mo_order_122 rfl (lv_at hl 1 rfl) ?_
          refine va_get (D := (dC, dI)) (ci := 7) (v := .ref (ad 11)) (C := R_Mo) (T := F_Mo) (N := 31) hx hb hG iG_Mo hown hK hP 0 rfl rfl 14 (by decide) (hG _ k_537) (fun _ h9 => h9) rfl d_Mo_order_123 ?_
          refine lv_aload_n hx hb d_Mo_order_126 rfl (lv_at hl 1 rfl) ?_
          refine va_get (D := (dC, dI)) (ci := 7) (v := .int (nI no)) (C := R_Mo) (T := F_Mo) (N := 31) hx hb hG iG_Mo hown hK hP 0 rfl rfl 6 (by decide) (hG _ k_529) (fun _ h9 => h9) rfl d_Mo_order_127 ?_
          refine lv_iconst (v := 0) hx hb d_Mo_order_130 (by decide) ?_
          refine ra_iast (n := 300) (j := no) (f := AI 11) hx hb hK hP hD hS 11 10 rfl rfl (by omega) (by decide) d_Mo_order_131 (fun H locs hP hD hS => ?_)
          have hP : va_P (dC, dI) classes (mw ad cA 0 yr nf no nt bd nb fl (va_up (va_up (va_up (va_up AI 5 (va_up (AI 5) no c0)) 7 (va_up (AI 7) no 1)) 9 (va_up (AI 9) no 0)) 11 (va_up (AI 11) no 0)) (va_up AN 4 (va_up (AN 4) no j)) (va_up AB 6 (va_up (AB 6) no st)) (va_up AL 10 (va_up (AL 10) no 0))) H := hP
          have hD : va_D A (mw ad cA 0 yr nf no nt bd nb fl (va_up (va_up (va_up (va_up AI 5 (va_up (AI 5) no c0)) 7 (va_up (AI 7) no 1)) 9 (va_up (AI 9) no 0)) 11 (va_up (AI 11) no 0)) (va_up AN 4 (va_up (AN 4) no j)) (va_up AB 6 (va_up (AB 6) no st)) (va_up AL 10 (va_up (AL 10) no 0))) := hD
          refine lv_aload_n hx hb d_Mo_order_132 rfl (lv_at hl 1 rfl) ?_
          refine va_get (D := (dC, dI)) (ci := 7) (v := .ref (ad 12)) (C := R_Mo) (T := F_Mo) (N := 31) hx hb hG iG_Mo hown hK hP 0 rfl rfl 15 (by decide) (hG _ k_538) (fun _ h9 => h9) rfl d_Mo_order_133 ?_
          refine lv_aload_n hx hb d_Mo_order_136 rfl (lv_at hl 1 rfl) ?_
          refine va_get (D := (dC, dI)) (ci := 7) (v := .int (nI no)) (C := R_Mo) (T := F_Mo) (N := 31) hx hb hG iG_Mo hown hK hP 0 rfl rfl 6 (by decide) (hG _ k_529) (fun _ h9 => h9) rfl d_Mo_order_137 ?_
          refine lv_iconst (v := (-1)) hx hb d_Mo_order_140 (by decide) ?_
          refine ra_iast (n := 300) (j := no) (f := AI 12) hx hb hK hP hD hS 12 11 rfl rfl (by omega) (by decide) d_Mo_order_141 (fun H locs hP hD hS => ?_)
          have hP : va_P (dC, dI) classes (mw ad cA 0 yr nf no nt bd nb fl (va_up (va_up (va_up (va_up (va_up AI 5 (va_up (AI 5) no c0)) 7 (va_up (AI 7) no 1)) 9 (va_up (AI 9) no 0)) 11 (va_up (AI 11) no 0)) 12 (va_up (AI 12) no (-1))) (va_up AN 4 (va_up (AN 4) no j)) (va_up AB 6 (va_up (AB 6) no st)) (va_up AL 10 (va_up (AL 10) no 0))) H := hP
          have hD : va_D A (mw ad cA 0 yr nf no nt bd nb fl (va_up (va_up (va_up (va_up (va_up AI 5 (va_up (AI 5) no c0)) 7 (va_up (AI 7) no 1)) 9 (va_up (AI 9) no 0)) 11 (va_up (AI 11) no 0)) 12 (va_up (AI 12) no (-1))) (va_up AN 4 (va_up (AN 4) no j)) (va_up AB 6 (va_up (AB 6) no st)) (va_up AL 10 (va_up (AL 10) no 0))) := hD
          refine lv_aload_n hx hb d_Mo_order_142 rfl (lv_at hl 1 rfl) ?_
          refine lv_dup hx hb d_Mo_order_143 rfl ?_
          refine va_get (D := (dC, dI)) (ci := 7) (v := .int (nI no)) (C := R_Mo) (T := F_Mo) (N := 31) hx hb hG iG_Mo hown hK hP 0 rfl rfl 6 (by decide) (hG _ k_529) (fun _ h9 => h9) rfl d_Mo_order_144 ?_
          refine lv_iconst (v := 1) hx hb d_Mo_order_147 (by decide) ?_
          refine lv_iadd hx hb d_Mo_order_148 ?_
          refine lv_topI (y := nI (no + 1)) (nI_add no 1) ?_
          refine va_put (D := (dC, dI)) (ci := 7) (v := .int (nI (no + 1))) (ty := .int) (C := R_Mo) (T := F_Mo) (N := 31) hx hb hG iG_Mo t_Mo t_Mo_ok n_Mo hown hK hP hD hS 0 rfl rfl 6 (by decide) (hG _ k_529) (fun _ h9 => h9) rfl (by decide +kernel) rfl rfl (Nat.le_of_ble_eq_true rfl) d_Mo_order_149 (fun H locs hP hD hS => ?_)
          have hP : va_P (dC, dI) classes (mw ad cA 0 yr nf (no + 1) nt bd nb fl (va_up (va_up (va_up (va_up (va_up AI 5 (va_up (AI 5) no c0)) 7 (va_up (AI 7) no 1)) 9 (va_up (AI 9) no 0)) 11 (va_up (AI 11) no 0)) 12 (va_up (AI 12) no (-1))) (va_up AN 4 (va_up (AN 4) no j)) (va_up AB 6 (va_up (AB 6) no st)) (va_up AL 10 (va_up (AL 10) no 0))) H := hP
          have hD : va_D A (mw ad cA 0 yr nf (no + 1) nt bd nb fl (va_up (va_up (va_up (va_up (va_up AI 5 (va_up (AI 5) no c0)) 7 (va_up (AI 7) no 1)) 9 (va_up (AI 9) no 0)) 11 (va_up (AI 11) no 0)) 12 (va_up (AI 12) no (-1))) (va_up AN 4 (va_up (AN 4) no j)) (va_up AB 6 (va_up (AB 6) no st)) (va_up AL 10 (va_up (AL 10) no 0))) := hD
          refine lv_iload hx hb d_Mo_order_152 (lv_at hl 0 rfl) ?_
          refine lv_iconst (v := 1) hx hb d_Mo_order_154 (by decide) ?_
          refine lv_icmp_ne (tgt := 167) hx hb d_Mo_order_155 (by decide) (fun c_9 => ?_) (fun c_9 => ?_)
          · exact absurd c_9 (by decide)
          · refine lv_aload_n hx hb d_Mo_order_158 rfl (lv_at hl 1 rfl) ?_
            refine va_get (D := (dC, dI)) (ci := 7) (v := .int (nI (no + 1))) (C := R_Mo) (T := F_Mo) (N := 31) hx hb hG iG_Mo hown hK hP 0 rfl rfl 6 (by decide) (hG _ k_529) (fun _ h9 => h9) rfl d_Mo_order_159 ?_
            refine lv_iconst (v := 1) hx hb d_Mo_order_162 (by decide) ?_
            refine lv_isub hx hb d_Mo_order_163 ?_
            refine lv_topI (y := nI no) (nI_pred no) ?_
            refine lv_goto (tgt := 176) hx hb d_Mo_order_164 (by decide) ?_
            exact W.iret (v := (nI no)) hx hb hr (fun t ht hW => ⟨⟨_, (0, yr, nf, (no + 1), nt, bd, nb, fl, va_up (va_up (va_up (va_up (va_up AI 5 (va_up (AI 5) no c0)) 7 (va_up (AI 7) no 1)) 9 (va_up (AI 9) no 0)) 11 (va_up (AI 11) no 0)) 12 (va_up (AI 12) no (-1)), va_up AN 4 (va_up (AN 4) no j), va_up AB 6 (va_up (AB 6) no st), va_up AL 10 (va_up (AL 10) no 0)), rfl, (by simp [m_order, ixn, bI, ej, c_2, c_4, c_5, c_7] <;> (repeat' apply And.intro) <;> rfl), by rw [ht]; exact hP, va_K.moved hW.alike hK, hD⟩, hS.F ht⟩) hS.2.2 d_Mo_order_176
      · rw [nI_300 hno] at c_5
        refine lv_bipush (v := (-4)) hx hb d_Mo_order_40 (by decide) ?_
        exact W.iret (v := (-4)) hx hb hr (fun t ht hW => ⟨⟨_, (0, yr, nf, no, nt, bd, nb, fl, AI, AN, AB, AL), rfl, (by simp [m_order, ixn, bI, ej, c_2, c_4, c_5] <;> (repeat' apply And.intro) <;> rfl), by rw [ht]; exact hP, va_K.moved hW.alike hK, hD⟩, hS.F ht⟩) hS.2.2 d_Mo_order_42
    · refine lv_bipush (v := (-2)) hx hb d_Mo_order_27 (by decide) ?_
      exact W.iret (v := (-2)) hx hb hr (fun t ht hW => ⟨⟨_, (0, yr, nf, no, nt, bd, nb, fl, AI, AN, AB, AL), rfl, (by simp [m_order, ixn, bI, ej, c_2, c_4] <;> (repeat' apply And.intro) <;> rfl), by rw [ht]; exact hP, va_K.moved hW.alike hK, hD⟩, hS.F ht⟩) hS.2.2 d_Mo_order_29
  · refine lv_iconst (v := (-1)) hx hb d_Mo_order_13 (by decide) ?_
    exact W.iret (v := (-1)) hx hb hr (fun t ht hW => ⟨⟨_, (0, yr, nf, no, nt, bd, nb, fl, AI, AN, AB, AL), rfl, (by simp [m_order, ixn, bI, c_2] <;> (repeat' apply And.intro) <;> rfl), by rw [ht]; exact hP, va_K.moved hW.alike hK, hD⟩, hS.F ht⟩) hS.2.2 d_Mo_order_14
end
section
theorem d_Mo_approve_0 : decode b_Mo_approve 0 = .ok (.aload_n 0, 1) := by decide +kernel
theorem d_Mo_approve_1 : decode b_Mo_approve 1 = .ok (.iconst 0, 1) := by decide +kernel
theorem d_Mo_approve_2 : decode b_Mo_approve 2 = .ok (.putfield 91, 3) := by decide +kernel
theorem d_Mo_approve_5 : decode b_Mo_approve 5 = .ok (.iload_n 1, 1) := by decide +kernel
theorem d_Mo_approve_6 : decode b_Mo_approve 6 = .ok (.i2l, 1) := by decide +kernel
theorem d_Mo_approve_7 : decode b_Mo_approve 7 = .ok (.lconst 0, 1) := by decide +kernel
theorem d_Mo_approve_8 : decode b_Mo_approve 8 = .ok (.aload_n 0, 1) := by decide +kernel
theorem d_Mo_approve_9 : decode b_Mo_approve 9 = .ok (.getfield 101, 3) := by decide +kernel
theorem d_Mo_approve_12 : decode b_Mo_approve 12 = .ok (.iconst 1, 1) := by decide +kernel
theorem d_Mo_approve_13 : decode b_Mo_approve 13 = .ok (.isub, 1) := by decide +kernel
theorem d_Mo_approve_14 : decode b_Mo_approve 14 = .ok (.i2l, 1) := by decide +kernel
theorem d_Mo_approve_15 : decode b_Mo_approve 15 = .ok (.invokestatic 97, 3) := by decide +kernel
theorem d_Mo_approve_18 : decode b_Mo_approve 18 = .ok (.ifCond .ne 5, 3) := by decide +kernel
theorem d_Mo_approve_21 : decode b_Mo_approve 21 = .ok (.iconst (-1), 1) := by decide +kernel
theorem d_Mo_approve_22 : decode b_Mo_approve 22 = .ok (.ireturn, 1) := by decide +kernel
theorem d_Mo_approve_23 : decode b_Mo_approve 23 = .ok (.iload_n 2, 1) := by decide +kernel
theorem d_Mo_approve_24 : decode b_Mo_approve 24 = .ok (.i2l, 1) := by decide +kernel
theorem d_Mo_approve_25 : decode b_Mo_approve 25 = .ok (.lconst 0, 1) := by decide +kernel
theorem d_Mo_approve_26 : decode b_Mo_approve 26 = .ok (.ldc2_w 133, 3) := by decide +kernel
theorem d_Mo_approve_29 : decode b_Mo_approve 29 = .ok (.invokestatic 97, 3) := by decide +kernel
theorem d_Mo_approve_32 : decode b_Mo_approve 32 = .ok (.ifCond .ne 6, 3) := by decide +kernel
theorem d_Mo_approve_35 : decode b_Mo_approve 35 = .ok (.bipush (-2), 2) := by decide +kernel
theorem d_Mo_approve_37 : decode b_Mo_approve 37 = .ok (.ireturn, 1) := by decide +kernel
theorem d_Mo_approve_38 : decode b_Mo_approve 38 = .ok (.aload_n 0, 1) := by decide +kernel
theorem d_Mo_approve_39 : decode b_Mo_approve 39 = .ok (.getfield 30, 3) := by decide +kernel
theorem d_Mo_approve_42 : decode b_Mo_approve 42 = .ok (.iload_n 1, 1) := by decide +kernel
theorem d_Mo_approve_43 : decode b_Mo_approve 43 = .ok (.iaload, 1) := by decide +kernel
theorem d_Mo_approve_44 : decode b_Mo_approve 44 = .ok (.ifCond .ne 23, 3) := by decide +kernel
theorem d_Mo_approve_47 : decode b_Mo_approve 47 = .ok (.aload_n 0, 1) := by decide +kernel
theorem d_Mo_approve_48 : decode b_Mo_approve 48 = .ok (.getfield 36, 3) := by decide +kernel
theorem d_Mo_approve_51 : decode b_Mo_approve 51 = .ok (.iload_n 1, 1) := by decide +kernel
theorem d_Mo_approve_52 : decode b_Mo_approve 52 = .ok (.iaload, 1) := by decide +kernel
theorem d_Mo_approve_53 : decode b_Mo_approve 53 = .ok (.iconst 1, 1) := by decide +kernel
theorem d_Mo_approve_54 : decode b_Mo_approve 54 = .ok (.if_icmp .ne 16, 3) := by decide +kernel
theorem d_Mo_approve_57 : decode b_Mo_approve 57 = .ok (.aload_n 0, 1) := by decide +kernel
theorem d_Mo_approve_58 : decode b_Mo_approve 58 = .ok (.getfield 33, 3) := by decide +kernel
theorem d_Mo_approve_61 : decode b_Mo_approve 61 = .ok (.iload_n 1, 1) := by decide +kernel
theorem d_Mo_approve_62 : decode b_Mo_approve 62 = .ok (.iaload, 1) := by decide +kernel
theorem d_Mo_approve_63 : decode b_Mo_approve 63 = .ok (.iload_n 2, 1) := by decide +kernel
theorem d_Mo_approve_64 : decode b_Mo_approve 64 = .ok (.if_icmp .ne 6, 3) := by decide +kernel
theorem d_Mo_approve_67 : decode b_Mo_approve 67 = .ok (.bipush (-3), 2) := by decide +kernel
theorem d_Mo_approve_69 : decode b_Mo_approve 69 = .ok (.ireturn, 1) := by decide +kernel
theorem d_Mo_approve_70 : decode b_Mo_approve 70 = .ok (.aload_n 0, 1) := by decide +kernel
theorem d_Mo_approve_71 : decode b_Mo_approve 71 = .ok (.getfield 33, 3) := by decide +kernel
theorem d_Mo_approve_74 : decode b_Mo_approve 74 = .ok (.iload_n 1, 1) := by decide +kernel
theorem d_Mo_approve_75 : decode b_Mo_approve 75 = .ok (.aload_n 0, 1) := by decide +kernel
theorem d_Mo_approve_76 : decode b_Mo_approve 76 = .ok (.getfield 36, 3) := by decide +kernel
theorem d_Mo_approve_79 : decode b_Mo_approve 79 = .ok (.iload_n 1, 1) := by decide +kernel
theorem d_Mo_approve_80 : decode b_Mo_approve 80 = .ok (.iaload, 1) := by decide +kernel
theorem d_Mo_approve_81 : decode b_Mo_approve 81 = .ok (.ifCond .ne 7, 3) := by decide +kernel
theorem d_Mo_approve_84 : decode b_Mo_approve 84 = .ok (.iload_n 2, 1) := by decide +kernel
theorem d_Mo_approve_85 : decode b_Mo_approve 85 = .ok (.goto 9, 3) := by decide +kernel
theorem d_Mo_approve_88 : decode b_Mo_approve 88 = .ok (.aload_n 0, 1) := by decide +kernel
theorem d_Mo_approve_89 : decode b_Mo_approve 89 = .ok (.getfield 33, 3) := by decide +kernel
theorem d_Mo_approve_92 : decode b_Mo_approve 92 = .ok (.iload_n 1, 1) := by decide +kernel
theorem d_Mo_approve_93 : decode b_Mo_approve 93 = .ok (.iaload, 1) := by decide +kernel
theorem d_Mo_approve_94 : decode b_Mo_approve 94 = .ok (.iastore, 1) := by decide +kernel
theorem d_Mo_approve_95 : decode b_Mo_approve 95 = .ok (.aload_n 0, 1) := by decide +kernel
theorem d_Mo_approve_96 : decode b_Mo_approve 96 = .ok (.getfield 36, 3) := by decide +kernel
theorem d_Mo_approve_99 : decode b_Mo_approve 99 = .ok (.iload_n 1, 1) := by decide +kernel
theorem d_Mo_approve_100 : decode b_Mo_approve 100 = .ok (.dup2, 1) := by decide +kernel
theorem d_Mo_approve_101 : decode b_Mo_approve 101 = .ok (.iaload, 1) := by decide +kernel
theorem d_Mo_approve_102 : decode b_Mo_approve 102 = .ok (.iconst 1, 1) := by decide +kernel
theorem d_Mo_approve_103 : decode b_Mo_approve 103 = .ok (.iadd, 1) := by decide +kernel
theorem d_Mo_approve_104 : decode b_Mo_approve 104 = .ok (.iastore, 1) := by decide +kernel
theorem d_Mo_approve_105 : decode b_Mo_approve 105 = .ok (.aload_n 0, 1) := by decide +kernel
theorem d_Mo_approve_106 : decode b_Mo_approve 106 = .ok (.getfield 36, 3) := by decide +kernel
theorem d_Mo_approve_109 : decode b_Mo_approve 109 = .ok (.iload_n 1, 1) := by decide +kernel
theorem d_Mo_approve_110 : decode b_Mo_approve 110 = .ok (.iaload, 1) := by decide +kernel
theorem d_Mo_approve_111 : decode b_Mo_approve 111 = .ok (.iconst 2, 1) := by decide +kernel
theorem d_Mo_approve_112 : decode b_Mo_approve 112 = .ok (.if_icmp .ne 10, 3) := by decide +kernel
theorem d_Mo_approve_115 : decode b_Mo_approve 115 = .ok (.aload_n 0, 1) := by decide +kernel
theorem d_Mo_approve_116 : decode b_Mo_approve 116 = .ok (.getfield 30, 3) := by decide +kernel
theorem d_Mo_approve_119 : decode b_Mo_approve 119 = .ok (.iload_n 1, 1) := by decide +kernel
theorem d_Mo_approve_120 : decode b_Mo_approve 120 = .ok (.iconst 1, 1) := by decide +kernel
theorem d_Mo_approve_121 : decode b_Mo_approve 121 = .ok (.iastore, 1) := by decide +kernel
theorem d_Mo_approve_122 : decode b_Mo_approve 122 = .ok (.aload_n 0, 1) := by decide +kernel
theorem d_Mo_approve_123 : decode b_Mo_approve 123 = .ok (.getfield 36, 3) := by decide +kernel
theorem d_Mo_approve_126 : decode b_Mo_approve 126 = .ok (.iload_n 1, 1) := by decide +kernel
theorem d_Mo_approve_127 : decode b_Mo_approve 127 = .ok (.iaload, 1) := by decide +kernel
theorem d_Mo_approve_128 : decode b_Mo_approve 128 = .ok (.ireturn, 1) := by decide +kernel
set_option maxHeartbeats 4000000 in
set_option maxRecDepth 100000 in
theorem c_Mo_approve (l : Launch) (dC : Nat → ClassId) (dI : Nat → Nat → Nat) (ad : Nat → Nat) (cA : Nat → ClassId) (th yr : Int32) (nf no nt : Nat) (bd : Int32) (nb : Nat) (fl : Int32) (AI : Nat → Nat → Int32) (AN : Nat → Nat → Nat) (AB : Nat → Nat → Bool) (AL : Nat → Nat → Int64) (sz : Nat) (i0 w0 : Int32) (hI : InvM nf no nt nb AI AN) : Met l y_Mo_approve w_Mo_approve { frames := 1, cells := 0, slots := 0, locals := 25 } (mu_P (dC, dI) classes (mtys cA) (mw ad cA th yr nf no nt bd nb fl AI AN AB AL) sz [.ref (ad 0), .int i0, .int w0]) (va_Qi (fun r u => (r, u) = m_approve (th, yr, nf, no, nt, bd, nb, fl, AI, AN, AB, AL) i0 w0) (mu_B (dC, dI) classes (mtys cA) (va_A (mw ad cA th yr nf no nt bd nb fl AI AN AB AL) sz) (mwS ad cA)) (va_A (mw ad cA th yr nf no nt bd nb fl AI AN AB AL) sz)) 0 0 (va_A (mw ad cA th yr nf no nt bd nb fl AI AN AB AL) sz) := by
  refine Met.ofW (cc := b_Mo_approve) (maxL := 3) (ret := (some .int)) (by decide) rfl ?_
  intro p e s m args below meth c s₁ B hml hv
  obtain ⟨rfl, hsz, hP, hK, hD0, hN⟩ := hv
  have hx := B.exec
  have hb := B.bytes
  have hr := B.returns
  have hts := atoms_spec (ws := w_Mo_approve) B.pre
  have hG := fun (w : Cond) (h : w ∈ wG) => hts w (List.mem_cons_of_mem _ h)
  have hown : s.vm.findClass R_Mo = some m.cls := findClass_of_methodNamed B.named
  have hlocks := B.notSynchronized
  subst hsz
  have hD := hD0.self (sz := s.heap.size)
  generalize hAe : va_A (mw ad cA th yr nf no nt bd nb fl AI AN AB AL) s.heap.size = A at hD ⊢
  have hA : ∀ q : Nat, s.heap.size ≤ q → A q := fun q h => by rw [← hAe]; exact Or.inr h
  have hS : va_S A s.heap s.heap [] := va_S.rf
  have hP : va_P (dC, dI) classes (mw ad cA th yr nf no nt bd nb fl AI AN AB AL) s.heap := hP
  have hl := lv_entry ([.ref (ad 0), .int i0, .int w0]) (n := 3) (Nat.le_of_ble_eq_true rfl)
  rw [lg_entry_eq]
  generalize (lg_sl ([.ref (ad 0), .int i0, .int w0]) ++ List.replicate (3 - (lg_sl ([.ref (ad 0), .int i0, .int w0])).length) Slot.unset).toArray = ls at hl ⊢
  have hl : lv_has ls 3 [(0, .ref (ad 0)), (1, .int i0), (2, .int w0)] := hl
  obtain ⟨hnf, hno, hnt, hnb, hfu, hft, hbf, hrw, hce, hdn⟩ := id hI
  refine lv_aload_n hx hb d_Mo_approve_0 rfl (lv_at hl 0 rfl) ?_
  refine lv_iconst (v := 0) hx hb d_Mo_approve_1 (by decide) ?_
  refine va_put (D := (dC, dI)) (ci := 7) (v := .int 0) (ty := .int) (C := R_Mo) (T := F_Mo) (N := 31) hx hb hG iG_Mo t_Mo t_Mo_ok n_Mo hown hK hP hD hS 0 rfl rfl 0 (by decide) (hG _ k_523) (fun _ h9 => h9) rfl (by decide +kernel) rfl rfl (Nat.le_of_ble_eq_true rfl) d_Mo_approve_2 (fun H locs hP hD hS => ?_)
  have hP : va_P (dC, dI) classes (mw ad cA 0 yr nf no nt bd nb fl AI AN AB AL) H := hP
  have hD : va_D A (mw ad cA 0 yr nf no nt bd nb fl AI AN AB AL) := hD
  refine lv_iload_n hx hb d_Mo_approve_5 rfl (lv_at hl 1 rfl) ?_
  refine lv_i2l hx hb d_Mo_approve_6 rfl ?_
  refine lv_lconst (v := 0) hx hb d_Mo_approve_7 (by decide) ?_
  refine lv_aload_n hx hb d_Mo_approve_8 rfl (lv_at hl 0 rfl) ?_
  refine va_get (D := (dC, dI)) (ci := 7) (v := .int (nI no)) (C := R_Mo) (T := F_Mo) (N := 31) hx hb hG iG_Mo hown hK hP 0 rfl rfl 6 (by decide) (hG _ k_529) (fun _ h9 => h9) rfl d_Mo_approve_9 ?_
  refine lv_iconst (v := 1) hx hb d_Mo_approve_12 (by decide) ?_
  refine lv_isub hx hb d_Mo_approve_13 ?_
  refine lv_i2l hx hb d_Mo_approve_14 rfl ?_
  refine rd_calli (va_runS (As := [.long (i0.toInt64), .long 0, .long ((nI no - 1).toInt64)]) (rest := []) ⟨hx, hb, hml, hown, hts⟩ (c_Mo_in l dC dI (mtys cA) (mw ad cA 0 yr nf no nt bd nb fl AI AN AB AL) (i0.toInt64) 0 ((nI no - 1).toInt64)) (cwS 3 hts (gd_S k_629 k_630 k_17 k_631) rfl rfl rfl (by decide +kernel) ⟨Nat.le_of_ble_eq_true rfl, Nat.le_of_ble_eq_true rfl⟩) (rd_preS hK hN hP) rfl rfl hl.1 rfl (lv_room (Nat.le_of_ble_eq_true rfl)) d_Mo_approve_15 ⟨Nat.zero_le _, Nat.zero_le _⟩) (fun r_1 hr_1 => ?_)
  subst hr_1
  refine lb_if_ne (tgt := 23) hx hb d_Mo_approve_18 (by decide) (fun c_2 => ?_) (fun c_2 => ?_)
  · obtain ⟨j, hj, rfl⟩ := inN_of (n := no) (by omega) c_2
    have ej : (nI j).toNatClampNeg = j := nI_clamp (by omega)
    have c_2n : inN (nI j) no = true := c_2
    refine lv_iload_n hx hb d_Mo_approve_23 rfl (lv_at hl 2 rfl) ?_
    refine lv_i2l hx hb d_Mo_approve_24 rfl ?_
    refine lv_lconst (v := 0) hx hb d_Mo_approve_25 (by decide) ?_
    refine lv_ldc2 (own := R_Mo) (v := 99) hx hb hown (hG _ k_667) d_Mo_approve_26 ?_
    refine rd_calli (va_runS (As := [.long (w0.toInt64), .long 0, .long 99]) (rest := []) ⟨hx, hb, hml, hown, hts⟩ (c_Mo_in l dC dI (mtys cA) (mw ad cA 0 yr nf no nt bd nb fl AI AN AB AL) (w0.toInt64) 0 99) (cwS 3 hts (gd_S k_629 k_630 k_17 k_631) rfl rfl rfl (by decide +kernel) ⟨Nat.le_of_ble_eq_true rfl, Nat.le_of_ble_eq_true rfl⟩) (rd_preS hK hN hP) rfl rfl hl.1 rfl (lv_room (Nat.le_of_ble_eq_true rfl)) d_Mo_approve_29 ⟨Nat.zero_le _, Nat.zero_le _⟩) (fun r_3 hr_3 => ?_)
    subst hr_3
    refine lb_if_ne (tgt := 38) hx hb d_Mo_approve_32 (by decide) (fun c_4 => ?_) (fun c_4 => ?_)
    · refine lv_aload_n hx hb d_Mo_approve_38 rfl (lv_at hl 0 rfl) ?_
      refine va_get (D := (dC, dI)) (ci := 7) (v := .ref (ad 7)) (C := R_Mo) (T := F_Mo) (N := 31) hx hb hG iG_Mo hown hK hP 0 rfl rfl 10 (by decide) (hG _ k_533) (fun _ h9 => h9) rfl d_Mo_approve_39 ?_
      refine lv_iload_n hx hb d_Mo_approve_42 rfl (lv_at hl 1 rfl) ?_
      refine ra_iald (n := 300) (j := j) (f := AI 7) hx hb hK hP 7 6 rfl rfl (by omega) (by decide) d_Mo_approve_43 ?_
      refine lv_if_ne (tgt := 67) hx hb d_Mo_approve_44 (by decide) (fun c_5 => ?_) (fun c_5 => ?_)
      · refine lv_bipush (v := (-3)) hx hb d_Mo_approve_67 (by decide) ?_
        exact W.iret (v := (-3)) hx hb hr (fun t ht hW => ⟨⟨_, (0, yr, nf, no, nt, bd, nb, fl, AI, AN, AB, AL), rfl, (by simp [m_approve, ixn, bI, ej, c_2, c_2n, c_4, c_5] <;> (repeat' apply And.intro) <;> rfl), by rw [ht]; exact hP, va_K.moved hW.alike hK, hD⟩, hS.F ht⟩) hS.2.2 d_Mo_approve_69
      · refine lv_aload_n hx hb d_Mo_approve_47 rfl (lv_at hl 0 rfl) ?_
        refine va_get (D := (dC, dI)) (ci := 7) (v := .ref (ad 9)) (C := R_Mo) (T := F_Mo) (N := 31) hx hb hG iG_Mo hown hK hP 0 rfl rfl 12 (by decide) (hG _ k_535) (fun _ h9 => h9) rfl d_Mo_approve_48 ?_
        refine lv_iload_n hx hb d_Mo_approve_51 rfl (lv_at hl 1 rfl) ?_
        refine ra_iald (n := 300) (j := j) (f := AI 9) hx hb hK hP 9 8 rfl rfl (by omega) (by decide) d_Mo_approve_52 ?_
        refine lv_iconst (v := 1) hx hb d_Mo_approve_53 (by decide) ?_
        refine lv_icmp_ne (tgt := 70) hx hb d_Mo_approve_54 (by decide) (fun c_6 => ?_) (fun c_6 => ?_)
        · refine lv_aload_n hx hb d_Mo_approve_70 rfl (lv_at hl 0 rfl) ?_
          refine va_get (D := (dC, dI)) (ci := 7) (v := .ref (ad 8)) (C := R_Mo) (T := F_Mo) (N := 31) hx hb hG iG_Mo hown hK hP 0 rfl rfl 11 (by decide) (hG _ k_534) (fun _ h9 => h9) rfl d_Mo_approve_71 ?_
          refine lv_iload_n hx hb d_Mo_approve_74 rfl (lv_at hl 1 rfl) ?_
          refine lv_aload_n hx hb d_Mo_approve_75 rfl (lv_at hl 0 rfl) ?_
          refine va_get (D := (dC, dI)) (ci := 7) (v := .ref (ad 9)) (C := R_Mo) (T := F_Mo) (N := 31) hx hb hG iG_Mo hown hK hP 0 rfl rfl 12 (by decide) (hG _ k_535) (fun _ h9 => h9) rfl d_Mo_approve_76 ?_
          refine lv_iload_n hx hb d_Mo_approve_79 rfl (lv_at hl 1 rfl) ?_
          refine ra_iald (n := 300) (j := j) (f := AI 9) hx hb hK hP 9 8 rfl rfl (by omega) (by decide) d_Mo_approve_80 ?_
          refine lv_if_ne (tgt := 88) hx hb d_Mo_approve_81 (by decide) (fun c_7 => ?_) (fun c_7 => ?_)
          · refine lv_aload_n hx hb d_Mo_approve_88 rfl (lv_at hl 0 rfl) ?_
            refine va_get (D := (dC, dI)) (ci := 7) (v := .ref (ad 8)) (C := R_Mo) (T := F_Mo) (N := 31) hx hb hG iG_Mo hown hK hP 0 rfl rfl 11 (by decide) (hG _ k_534) (fun _ h9 => h9) rfl d_Mo_approve_89 ?_
            refine lv_iload_n hx hb d_Mo_approve_92 rfl (lv_at hl 1 rfl) ?_
            refine ra_iald (n := 300) (j := j) (f := AI 8) hx hb hK hP 8 7 rfl rfl (by omega) (by decide) d_Mo_approve_93 ?_
            refine ra_iast (n := 300) (j := j) (f := AI 8) hx hb hK hP hD hS 8 7 rfl rfl (by omega) (by decide) d_Mo_approve_94 (fun H locs hP hD hS => ?_)
            have hP : va_P (dC, dI) classes (mw ad cA 0 yr nf no nt bd nb fl (va_up AI 8 (va_up (AI 8) j (AI 8 j))) AN AB AL) H := hP
            have hD : va_D A (mw ad cA 0 yr nf no nt bd nb fl (va_up AI 8 (va_up (AI 8) j (AI 8 j))) AN AB AL) := hD
            refine lv_aload_n hx hb d_Mo_approve_95 rfl (lv_at hl 0 rfl) ?_
            refine va_get (D := (dC, dI)) (ci := 7) (v := .ref (ad 9)) (C := R_Mo) (T := F_Mo) (N := 31) hx hb hG iG_Mo hown hK hP 0 rfl rfl 12 (by decide) (hG _ k_535) (fun _ h9 => h9) rfl d_Mo_approve_96 ?_
            refine lv_iload_n hx hb d_Mo_approve_99 rfl (lv_at hl 1 rfl) ?_
            refine lv_dup2_11 hx hb d_Mo_approve_100 rfl rfl ?_
            refine ra_iald (n := 300) (j := j) (f := AI 9) hx hb hK hP 9 8 rfl rfl (by omega) (by decide) d_Mo_approve_101 ?_
            refine lv_iconst (v := 1) hx hb d_Mo_approve_102 (by decide) ?_
            refine lv_iadd hx hb d_Mo_approve_103 ?_
            refine ra_iast (n := 300) (j := j) (f := AI 9) hx hb hK hP hD hS 9 8 rfl rfl (by omega) (by decide) d_Mo_approve_104 (fun H locs hP hD hS => ?_)
            have hP : va_P (dC, dI) classes (mw ad cA 0 yr nf no nt bd nb fl (va_up (va_up AI 8 (va_up (AI 8) j (AI 8 j))) 9 (va_up (AI 9) j ((AI 9 j) + 1))) AN AB AL) H := hP
            have hD : va_D A (mw ad cA 0 yr nf no nt bd nb fl (va_up (va_up AI 8 (va_up (AI 8) j (AI 8 j))) 9 (va_up (AI 9) j ((AI 9 j) + 1))) AN AB AL) := hD
            refine lv_aload_n hx hb d_Mo_approve_105 rfl (lv_at hl 0 rfl) ?_
            refine va_get (D := (dC, dI)) (ci := 7) (v := .ref (ad 9)) (C := R_Mo) (T := F_Mo) (N := 31) hx hb hG iG_Mo hown hK hP 0 rfl rfl 12 (by decide) (hG _ k_535) (fun _ h9 => h9) rfl d_Mo_approve_106 ?_
            refine lv_iload_n hx hb d_Mo_approve_109 rfl (lv_at hl 1 rfl) ?_
            refine ra_iald (n := 300) (j := j) (f := va_up (AI 9) j ((AI 9 j) + 1)) hx hb hK hP 9 8 rfl rfl (by omega) (by decide) d_Mo_approve_110 ?_
            refine lv_topI (y := ((AI 9 j) + 1)) (va_up_self _ _ _) ?_
            refine lv_iconst (v := 2) hx hb d_Mo_approve_111 (by decide) ?_
            refine lv_icmp_ne (tgt := 122) hx hb d_Mo_approve_112 (by decide) (fun c_8 => ?_) (fun c_8 => ?_)
            · refine lv_aload_n hx hb d_Mo_approve_122 rfl (lv_at hl 0 rfl) ?_
              refine va_get (D := (dC, dI)) (ci := 7) (v := .ref (ad 9)) (C := R_Mo) (T := F_Mo) (N := 31) hx hb hG iG_Mo hown hK hP 0 rfl rfl 12 (by decide) (hG _ k_535) (fun _ h9 => h9) rfl d_Mo_approve_123 ?_
              refine lv_iload_n hx hb d_Mo_approve_126 rfl (lv_at hl 1 rfl) ?_
              refine ra_iald (n := 300) (j := j) (f := va_up (AI 9) j ((AI 9 j) + 1)) hx hb hK hP 9 8 rfl rfl (by omega) (by decide) d_Mo_approve_127 ?_
              refine lv_topI (y := ((AI 9 j) + 1)) (va_up_self _ _ _) ?_
              exact W.iret (v := ((AI 9 j) + 1)) hx hb hr (fun t ht hW => ⟨⟨_, (0, yr, nf, no, nt, bd, nb, fl, va_up (va_up AI 8 (va_up (AI 8) j (AI 8 j))) 9 (va_up (AI 9) j ((AI 9 j) + 1)), AN, AB, AL), rfl, (by simp [m_approve, ixn, bI, ej, c_2, c_2n, c_4, c_5, c_6, c_7, c_8] <;> (repeat' apply And.intro) <;> rfl), by rw [ht]; exact hP, va_K.moved hW.alike hK, hD⟩, hS.F ht⟩) hS.2.2 d_Mo_approve_128
            · refine lv_aload_n hx hb d_Mo_approve_115 rfl (lv_at hl 0 rfl) ?_
              refine va_get (D := (dC, dI)) (ci := 7) (v := .ref (ad 7)) (C := R_Mo) (T := F_Mo) (N := 31) hx hb hG iG_Mo hown hK hP 0 rfl rfl 10 (by decide) (hG _ k_533) (fun _ h9 => h9) rfl d_Mo_approve_116 ?_
              refine lv_iload_n hx hb d_Mo_approve_119 rfl (lv_at hl 1 rfl) ?_
              refine lv_iconst (v := 1) hx hb d_Mo_approve_120 (by decide) ?_
              refine ra_iast (n := 300) (j := j) (f := AI 7) hx hb hK hP hD hS 7 6 rfl rfl (by omega) (by decide) d_Mo_approve_121 (fun H locs hP hD hS => ?_)
              have hP : va_P (dC, dI) classes (mw ad cA 0 yr nf no nt bd nb fl (va_up (va_up (va_up AI 8 (va_up (AI 8) j (AI 8 j))) 9 (va_up (AI 9) j ((AI 9 j) + 1))) 7 (va_up (AI 7) j 1)) AN AB AL) H := hP
              have hD : va_D A (mw ad cA 0 yr nf no nt bd nb fl (va_up (va_up (va_up AI 8 (va_up (AI 8) j (AI 8 j))) 9 (va_up (AI 9) j ((AI 9 j) + 1))) 7 (va_up (AI 7) j 1)) AN AB AL) := hD
              refine lv_aload_n hx hb d_Mo_approve_122 rfl (lv_at hl 0 rfl) ?_
              refine va_get (D := (dC, dI)) (ci := 7) (v := .ref (ad 9)) (C := R_Mo) (T := F_Mo) (N := 31) hx hb hG iG_Mo hown hK hP 0 rfl rfl 12 (by decide) (hG _ k_535) (fun _ h9 => h9) rfl d_Mo_approve_123 ?_
              refine lv_iload_n hx hb d_Mo_approve_126 rfl (lv_at hl 1 rfl) ?_
              refine ra_iald (n := 300) (j := j) (f := va_up (AI 9) j ((AI 9 j) + 1)) hx hb hK hP 9 8 rfl rfl (by omega) (by decide) d_Mo_approve_127 ?_
              refine lv_topI (y := ((AI 9 j) + 1)) (va_up_self _ _ _) ?_
              exact W.iret (v := ((AI 9 j) + 1)) hx hb hr (fun t ht hW => ⟨⟨_, (0, yr, nf, no, nt, bd, nb, fl, va_up (va_up (va_up AI 8 (va_up (AI 8) j (AI 8 j))) 9 (va_up (AI 9) j ((AI 9 j) + 1))) 7 (va_up (AI 7) j 1), AN, AB, AL), rfl, (by simp [m_approve, ixn, bI, ej, c_2, c_2n, c_4, c_5, c_6, c_7, c_8] <;> (repeat' apply And.intro) <;> rfl), by rw [ht]; exact hP, va_K.moved hW.alike hK, hD⟩, hS.F ht⟩) hS.2.2 d_Mo_approve_128
          · refine lv_iload_n hx hb d_Mo_approve_84 rfl (lv_at hl 2 rfl) ?_
            refine lv_goto (tgt := 94) hx hb d_Mo_approve_85 (by decide) ?_
            refine ra_iast (n := 300) (j := j) (f := AI 8) hx hb hK hP hD hS 8 7 rfl rfl (by omega) (by decide) d_Mo_approve_94 (fun H locs hP hD hS => ?_)
            have hP : va_P (dC, dI) classes (mw ad cA 0 yr nf no nt bd nb fl (va_up AI 8 (va_up (AI 8) j w0)) AN AB AL) H := hP
            have hD : va_D A (mw ad cA 0 yr nf no nt bd nb fl (va_up AI 8 (va_up (AI 8) j w0)) AN AB AL) := hD
            refine lv_aload_n hx hb d_Mo_approve_95 rfl (lv_at hl 0 rfl) ?_
            refine va_get (D := (dC, dI)) (ci := 7) (v := .ref (ad 9)) (C := R_Mo) (T := F_Mo) (N := 31) hx hb hG iG_Mo hown hK hP 0 rfl rfl 12 (by decide) (hG _ k_535) (fun _ h9 => h9) rfl d_Mo_approve_96 ?_
            refine lv_iload_n hx hb d_Mo_approve_99 rfl (lv_at hl 1 rfl) ?_
            refine lv_dup2_11 hx hb d_Mo_approve_100 rfl rfl ?_
            refine ra_iald (n := 300) (j := j) (f := AI 9) hx hb hK hP 9 8 rfl rfl (by omega) (by decide) d_Mo_approve_101 ?_
            refine lv_iconst (v := 1) hx hb d_Mo_approve_102 (by decide) ?_
            refine lv_iadd hx hb d_Mo_approve_103 ?_
            refine ra_iast (n := 300) (j := j) (f := AI 9) hx hb hK hP hD hS 9 8 rfl rfl (by omega) (by decide) d_Mo_approve_104 (fun H locs hP hD hS => ?_)
            have hP : va_P (dC, dI) classes (mw ad cA 0 yr nf no nt bd nb fl (va_up (va_up AI 8 (va_up (AI 8) j w0)) 9 (va_up (AI 9) j ((AI 9 j) + 1))) AN AB AL) H := hP
            have hD : va_D A (mw ad cA 0 yr nf no nt bd nb fl (va_up (va_up AI 8 (va_up (AI 8) j w0)) 9 (va_up (AI 9) j ((AI 9 j) + 1))) AN AB AL) := hD
            refine lv_aload_n hx hb d_Mo_approve_105 rfl (lv_at hl 0 rfl) ?_
            refine va_get (D := (dC, dI)) (ci := 7) (v := .ref (ad 9)) (C := R_Mo) (T := F_Mo) (N := 31) hx hb hG iG_Mo hown hK hP 0 rfl rfl 12 (by decide) (hG _ k_535) (fun _ h9 => h9) rfl d_Mo_approve_106 ?_
            refine lv_iload_n hx hb d_Mo_approve_109 rfl (lv_at hl 1 rfl) ?_
            refine ra_iald (n := 300) (j := j) (f := va_up (AI 9) j ((AI 9 j) + 1)) hx hb hK hP 9 8 rfl rfl (by omega) (by decide) d_Mo_approve_110 ?_
            refine lv_topI (y := ((AI 9 j) + 1)) (va_up_self _ _ _) ?_
            refine lv_iconst (v := 2) hx hb d_Mo_approve_111 (by decide) ?_
            refine lv_icmp_ne (tgt := 122) hx hb d_Mo_approve_112 (by decide) (fun c_9 => ?_) (fun c_9 => ?_)
            · refine lv_aload_n hx hb d_Mo_approve_122 rfl (lv_at hl 0 rfl) ?_
              refine va_get (D := (dC, dI)) (ci := 7) (v := .ref (ad 9)) (C := R_Mo) (T := F_Mo) (N := 31) hx hb hG iG_Mo hown hK hP 0 rfl rfl 12 (by decide) (hG _ k_535) (fun _ h9 => h9) rfl d_Mo_approve_123 ?_
              refine lv_iload_n hx hb d_Mo_approve_126 rfl (lv_at hl 1 rfl) ?_
              refine ra_iald (n := 300) (j := j) (f := va_up (AI 9) j ((AI 9 j) + 1)) hx hb hK hP 9 8 rfl rfl (by omega) (by decide) d_Mo_approve_127 ?_
              refine lv_topI (y := ((AI 9 j) + 1)) (va_up_self _ _ _) ?_
              exact W.iret (v := ((AI 9 j) + 1)) hx hb hr (fun t ht hW => ⟨⟨_, (0, yr, nf, no, nt, bd, nb, fl, va_up (va_up AI 8 (va_up (AI 8) j w0)) 9 (va_up (AI 9) j ((AI 9 j) + 1)), AN, AB, AL), rfl, (by simp [m_approve, ixn, bI, ej, c_2, c_2n, c_4, c_5, c_6, c_7, c_9] <;> (repeat' apply And.intro) <;> rfl), by rw [ht]; exact hP, va_K.moved hW.alike hK, hD⟩, hS.F ht⟩) hS.2.2 d_Mo_approve_128
            · exact absurd c_9 (by rw [c_7]; decide)
        · refine lv_aload_n hx hb d_Mo_approve_57 rfl (lv_at hl 0 rfl) ?_
          refine va_get (D := (dC, dI)) (ci := 7) (v := .ref (ad 8)) (C := R_Mo) (T := F_Mo) (N := 31) hx hb hG iG_Mo hown hK hP 0 rfl rfl 11 (by decide) (hG _ k_534) (fun _ h9 => h9) rfl d_Mo_approve_58 ?_
          refine lv_iload_n hx hb d_Mo_approve_61 rfl (lv_at hl 1 rfl) ?_
          refine ra_iald (n := 300) (j := j) (f := AI 8) hx hb hK hP 8 7 rfl rfl (by omega) (by decide) d_Mo_approve_62 ?_
          refine lv_iload_n hx hb d_Mo_approve_63 rfl (lv_at hl 2 rfl) ?_
          refine lv_icmp_ne (tgt := 70) hx hb d_Mo_approve_64 (by decide) (fun c_10 => ?_) (fun c_10 => ?_)
          · refine lv_aload_n hx hb d_Mo_approve_70 rfl (lv_at hl 0 rfl) ?_
            refine va_get (D := (dC, dI)) (ci := 7) (v := .ref (ad 8)) (C := R_Mo) (T := F_Mo) (N := 31) hx hb hG iG_Mo hown hK hP 0 rfl rfl 11 (by decide) (hG _ k_534) (fun _ h9 => h9) rfl d_Mo_approve_71 ?_
            refine lv_iload_n hx hb d_Mo_approve_74 rfl (lv_at hl 1 rfl) ?_
            refine lv_aload_n hx hb d_Mo_approve_75 rfl (lv_at hl 0 rfl) ?_
            refine va_get (D := (dC, dI)) (ci := 7) (v := .ref (ad 9)) (C := R_Mo) (T := F_Mo) (N := 31) hx hb hG iG_Mo hown hK hP 0 rfl rfl 12 (by decide) (hG _ k_535) (fun _ h9 => h9) rfl d_Mo_approve_76 ?_
            refine lv_iload_n hx hb d_Mo_approve_79 rfl (lv_at hl 1 rfl) ?_
            refine ra_iald (n := 300) (j := j) (f := AI 9) hx hb hK hP 9 8 rfl rfl (by omega) (by decide) d_Mo_approve_80 ?_
            refine lv_if_ne (tgt := 88) hx hb d_Mo_approve_81 (by decide) (fun c_11 => ?_) (fun c_11 => ?_)
            · refine lv_aload_n hx hb d_Mo_approve_88 rfl (lv_at hl 0 rfl) ?_
              refine va_get (D := (dC, dI)) (ci := 7) (v := .ref (ad 8)) (C := R_Mo) (T := F_Mo) (N := 31) hx hb hG iG_Mo hown hK hP 0 rfl rfl 11 (by decide) (hG _ k_534) (fun _ h9 => h9) rfl d_Mo_approve_89 ?_
              refine lv_iload_n hx hb d_Mo_approve_92 rfl (lv_at hl 1 rfl) ?_
              refine ra_iald (n := 300) (j := j) (f := AI 8) hx hb hK hP 8 7 rfl rfl (by omega) (by decide) d_Mo_approve_93 ?_
              refine ra_iast (n := 300) (j := j) (f := AI 8) hx hb hK hP hD hS 8 7 rfl rfl (by omega) (by decide) d_Mo_approve_94 (fun H locs hP hD hS => ?_)
              have hP : va_P (dC, dI) classes (mw ad cA 0 yr nf no nt bd nb fl (va_up AI 8 (va_up (AI 8) j (AI 8 j))) AN AB AL) H := hP
              have hD : va_D A (mw ad cA 0 yr nf no nt bd nb fl (va_up AI 8 (va_up (AI 8) j (AI 8 j))) AN AB AL) := hD
              refine lv_aload_n hx hb d_Mo_approve_95 rfl (lv_at hl 0 rfl) ?_
              refine va_get (D := (dC, dI)) (ci := 7) (v := .ref (ad 9)) (C := R_Mo) (T := F_Mo) (N := 31) hx hb hG iG_Mo hown hK hP 0 rfl rfl 12 (by decide) (hG _ k_535) (fun _ h9 => h9) rfl d_Mo_approve_96 ?_
              refine lv_iload_n hx hb d_Mo_approve_99 rfl (lv_at hl 1 rfl) ?_
              refine lv_dup2_11 hx hb d_Mo_approve_100 rfl rfl ?_
              refine ra_iald (n := 300) (j := j) (f := AI 9) hx hb hK hP 9 8 rfl rfl (by omega) (by decide) d_Mo_approve_101 ?_
              refine lv_iconst (v := 1) hx hb d_Mo_approve_102 (by decide) ?_
              refine lv_iadd hx hb d_Mo_approve_103 ?_
              refine ra_iast (n := 300) (j := j) (f := AI 9) hx hb hK hP hD hS 9 8 rfl rfl (by omega) (by decide) d_Mo_approve_104 (fun H locs hP hD hS => ?_)
              have hP : va_P (dC, dI) classes (mw ad cA 0 yr nf no nt bd nb fl (va_up (va_up AI 8 (va_up (AI 8) j (AI 8 j))) 9 (va_up (AI 9) j ((AI 9 j) + 1))) AN AB AL) H := hP
              have hD : va_D A (mw ad cA 0 yr nf no nt bd nb fl (va_up (va_up AI 8 (va_up (AI 8) j (AI 8 j))) 9 (va_up (AI 9) j ((AI 9 j) + 1))) AN AB AL) := hD
              refine lv_aload_n hx hb d_Mo_approve_105 rfl (lv_at hl 0 rfl) ?_
              refine va_get (D := (dC, dI)) (ci := 7) (v := .ref (ad 9)) (C := R_Mo) (T := F_Mo) (N := 31) hx hb hG iG_Mo hown hK hP 0 rfl rfl 12 (by decide) (hG _ k_535) (fun _ h9 => h9) rfl d_Mo_approve_106 ?_
              refine lv_iload_n hx hb d_Mo_approve_109 rfl (lv_at hl 1 rfl) ?_
              refine ra_iald (n := 300) (j := j) (f := va_up (AI 9) j ((AI 9 j) + 1)) hx hb hK hP 9 8 rfl rfl (by omega) (by decide) d_Mo_approve_110 ?_
              refine lv_topI (y := ((AI 9 j) + 1)) (va_up_self _ _ _) ?_
              refine lv_iconst (v := 2) hx hb d_Mo_approve_111 (by decide) ?_
              refine lv_icmp_ne (tgt := 122) hx hb d_Mo_approve_112 (by decide) (fun c_12 => ?_) (fun c_12 => ?_)
              · exact absurd (by rw [c_6]; decide) c_12
              · refine lv_aload_n hx hb d_Mo_approve_115 rfl (lv_at hl 0 rfl) ?_
                refine va_get (D := (dC, dI)) (ci := 7) (v := .ref (ad 7)) (C := R_Mo) (T := F_Mo) (N := 31) hx hb hG iG_Mo hown hK hP 0 rfl rfl 10 (by decide) (hG _ k_533) (fun _ h9 => h9) rfl d_Mo_approve_116 ?_
                refine lv_iload_n hx hb d_Mo_approve_119 rfl (lv_at hl 1 rfl) ?_
                refine lv_iconst (v := 1) hx hb d_Mo_approve_120 (by decide) ?_
                refine ra_iast (n := 300) (j := j) (f := AI 7) hx hb hK hP hD hS 7 6 rfl rfl (by omega) (by decide) d_Mo_approve_121 (fun H locs hP hD hS => ?_)
                have hP : va_P (dC, dI) classes (mw ad cA 0 yr nf no nt bd nb fl (va_up (va_up (va_up AI 8 (va_up (AI 8) j (AI 8 j))) 9 (va_up (AI 9) j ((AI 9 j) + 1))) 7 (va_up (AI 7) j 1)) AN AB AL) H := hP
                have hD : va_D A (mw ad cA 0 yr nf no nt bd nb fl (va_up (va_up (va_up AI 8 (va_up (AI 8) j (AI 8 j))) 9 (va_up (AI 9) j ((AI 9 j) + 1))) 7 (va_up (AI 7) j 1)) AN AB AL) := hD
                refine lv_aload_n hx hb d_Mo_approve_122 rfl (lv_at hl 0 rfl) ?_
                refine va_get (D := (dC, dI)) (ci := 7) (v := .ref (ad 9)) (C := R_Mo) (T := F_Mo) (N := 31) hx hb hG iG_Mo hown hK hP 0 rfl rfl 12 (by decide) (hG _ k_535) (fun _ h9 => h9) rfl d_Mo_approve_123 ?_
                refine lv_iload_n hx hb d_Mo_approve_126 rfl (lv_at hl 1 rfl) ?_
                refine ra_iald (n := 300) (j := j) (f := va_up (AI 9) j ((AI 9 j) + 1)) hx hb hK hP 9 8 rfl rfl (by omega) (by decide) d_Mo_approve_127 ?_
                refine lv_topI (y := ((AI 9 j) + 1)) (va_up_self _ _ _) ?_
                exact W.iret (v := ((AI 9 j) + 1)) hx hb hr (fun t ht hW => ⟨⟨_, (0, yr, nf, no, nt, bd, nb, fl, va_up (va_up (va_up AI 8 (va_up (AI 8) j (AI 8 j))) 9 (va_up (AI 9) j ((AI 9 j) + 1))) 7 (va_up (AI 7) j 1), AN, AB, AL), rfl, (by simp [m_approve, ixn, bI, ej, c_2, c_2n, c_4, c_5, c_6, c_10, c_11, c_12] <;> (repeat' apply And.intro) <;> rfl), by rw [ht]; exact hP, va_K.moved hW.alike hK, hD⟩, hS.F ht⟩) hS.2.2 d_Mo_approve_128
            · exact absurd (c_6.symm.trans c_11) (by decide)
          · refine lv_bipush (v := (-3)) hx hb d_Mo_approve_67 (by decide) ?_
            exact W.iret (v := (-3)) hx hb hr (fun t ht hW => ⟨⟨_, (0, yr, nf, no, nt, bd, nb, fl, AI, AN, AB, AL), rfl, (by simp [m_approve, ixn, bI, ej, c_2, c_2n, c_4, c_5, c_6, c_10] <;> (repeat' apply And.intro) <;> rfl), by rw [ht]; exact hP, va_K.moved hW.alike hK, hD⟩, hS.F ht⟩) hS.2.2 d_Mo_approve_69
    · refine lv_bipush (v := (-2)) hx hb d_Mo_approve_35 (by decide) ?_
      exact W.iret (v := (-2)) hx hb hr (fun t ht hW => ⟨⟨_, (0, yr, nf, no, nt, bd, nb, fl, AI, AN, AB, AL), rfl, (by simp [m_approve, ixn, bI, ej, c_2, c_2n, c_4] <;> (repeat' apply And.intro) <;> rfl), by rw [ht]; exact hP, va_K.moved hW.alike hK, hD⟩, hS.F ht⟩) hS.2.2 d_Mo_approve_37
  · have c_2n : inN i0 no = false := c_2
    refine lv_iconst (v := (-1)) hx hb d_Mo_approve_21 (by decide) ?_
    exact W.iret (v := (-1)) hx hb hr (fun t ht hW => ⟨⟨_, (0, yr, nf, no, nt, bd, nb, fl, AI, AN, AB, AL), rfl, (by simp [m_approve, ixn, bI, c_2, c_2n] <;> (repeat' apply And.intro) <;> rfl), by rw [ht]; exact hP, va_K.moved hW.alike hK, hD⟩, hS.F ht⟩) hS.2.2 d_Mo_approve_22

theorem d_Mo_cancel_0 : decode b_Mo_cancel 0 = .ok (.aload_n 0, 1) := by decide +kernel
theorem d_Mo_cancel_1 : decode b_Mo_cancel 1 = .ok (.iconst 0, 1) := by decide +kernel
theorem d_Mo_cancel_2 : decode b_Mo_cancel 2 = .ok (.putfield 91, 3) := by decide +kernel
theorem d_Mo_cancel_5 : decode b_Mo_cancel 5 = .ok (.iload_n 1, 1) := by decide +kernel
theorem d_Mo_cancel_6 : decode b_Mo_cancel 6 = .ok (.i2l, 1) := by decide +kernel
theorem d_Mo_cancel_7 : decode b_Mo_cancel 7 = .ok (.lconst 0, 1) := by decide +kernel
theorem d_Mo_cancel_8 : decode b_Mo_cancel 8 = .ok (.aload_n 0, 1) := by decide +kernel
theorem d_Mo_cancel_9 : decode b_Mo_cancel 9 = .ok (.getfield 101, 3) := by decide +kernel
theorem d_Mo_cancel_12 : decode b_Mo_cancel 12 = .ok (.iconst 1, 1) := by decide +kernel
theorem d_Mo_cancel_13 : decode b_Mo_cancel 13 = .ok (.isub, 1) := by decide +kernel
theorem d_Mo_cancel_14 : decode b_Mo_cancel 14 = .ok (.i2l, 1) := by decide +kernel
theorem d_Mo_cancel_15 : decode b_Mo_cancel 15 = .ok (.invokestatic 97, 3) := by decide +kernel
theorem d_Mo_cancel_18 : decode b_Mo_cancel 18 = .ok (.ifCond .ne 5, 3) := by decide +kernel
theorem d_Mo_cancel_21 : decode b_Mo_cancel 21 = .ok (.iconst (-1), 1) := by decide +kernel
theorem d_Mo_cancel_22 : decode b_Mo_cancel 22 = .ok (.ireturn, 1) := by decide +kernel
theorem d_Mo_cancel_23 : decode b_Mo_cancel 23 = .ok (.aload_n 0, 1) := by decide +kernel
theorem d_Mo_cancel_24 : decode b_Mo_cancel 24 = .ok (.getfield 30, 3) := by decide +kernel
theorem d_Mo_cancel_27 : decode b_Mo_cancel 27 = .ok (.iload_n 1, 1) := by decide +kernel
theorem d_Mo_cancel_28 : decode b_Mo_cancel 28 = .ok (.iaload, 1) := by decide +kernel
theorem d_Mo_cancel_29 : decode b_Mo_cancel 29 = .ok (.iconst 1, 1) := by decide +kernel
theorem d_Mo_cancel_30 : decode b_Mo_cancel 30 = .ok (.if_icmp .le 6, 3) := by decide +kernel
theorem d_Mo_cancel_33 : decode b_Mo_cancel 33 = .ok (.bipush (-3), 2) := by decide +kernel
theorem d_Mo_cancel_35 : decode b_Mo_cancel 35 = .ok (.ireturn, 1) := by decide +kernel
theorem d_Mo_cancel_36 : decode b_Mo_cancel 36 = .ok (.aload_n 0, 1) := by decide +kernel
theorem d_Mo_cancel_37 : decode b_Mo_cancel 37 = .ok (.getfield 30, 3) := by decide +kernel
theorem d_Mo_cancel_40 : decode b_Mo_cancel 40 = .ok (.iload_n 1, 1) := by decide +kernel
theorem d_Mo_cancel_41 : decode b_Mo_cancel 41 = .ok (.iaload, 1) := by decide +kernel
theorem d_Mo_cancel_42 : decode b_Mo_cancel 42 = .ok (.iconst 1, 1) := by decide +kernel
theorem d_Mo_cancel_43 : decode b_Mo_cancel 43 = .ok (.if_icmp .ne 12, 3) := by decide +kernel
theorem d_Mo_cancel_46 : decode b_Mo_cancel 46 = .ok (.aload_n 0, 1) := by decide +kernel
theorem d_Mo_cancel_47 : decode b_Mo_cancel 47 = .ok (.getfield 23, 3) := by decide +kernel
theorem d_Mo_cancel_50 : decode b_Mo_cancel 50 = .ok (.iload_n 1, 1) := by decide +kernel
theorem d_Mo_cancel_51 : decode b_Mo_cancel 51 = .ok (.iaload, 1) := by decide +kernel
theorem d_Mo_cancel_52 : decode b_Mo_cancel 52 = .ok (.goto 4, 3) := by decide +kernel
theorem d_Mo_cancel_55 : decode b_Mo_cancel 55 = .ok (.iconst 0, 1) := by decide +kernel
theorem d_Mo_cancel_56 : decode b_Mo_cancel 56 = .ok (.istore_n 2, 1) := by decide +kernel
theorem d_Mo_cancel_57 : decode b_Mo_cancel 57 = .ok (.aload_n 0, 1) := by decide +kernel
theorem d_Mo_cancel_58 : decode b_Mo_cancel 58 = .ok (.getfield 30, 3) := by decide +kernel
theorem d_Mo_cancel_61 : decode b_Mo_cancel 61 = .ok (.iload_n 1, 1) := by decide +kernel
theorem d_Mo_cancel_62 : decode b_Mo_cancel 62 = .ok (.iconst 3, 1) := by decide +kernel
theorem d_Mo_cancel_63 : decode b_Mo_cancel 63 = .ok (.iastore, 1) := by decide +kernel
theorem d_Mo_cancel_64 : decode b_Mo_cancel 64 = .ok (.iload_n 2, 1) := by decide +kernel
theorem d_Mo_cancel_65 : decode b_Mo_cancel 65 = .ok (.ireturn, 1) := by decide +kernel
set_option maxHeartbeats 4000000 in
set_option maxRecDepth 100000 in
theorem c_Mo_cancel (l : Launch) (dC : Nat → ClassId) (dI : Nat → Nat → Nat) (ad : Nat → Nat) (cA : Nat → ClassId) (th yr : Int32) (nf no nt : Nat) (bd : Int32) (nb : Nat) (fl : Int32) (AI : Nat → Nat → Int32) (AN : Nat → Nat → Nat) (AB : Nat → Nat → Bool) (AL : Nat → Nat → Int64) (sz : Nat) (i0 : Int32) (hI : InvM nf no nt nb AI AN) : Met l y_Mo_cancel w_Mo_cancel { frames := 1, cells := 0, slots := 0, locals := 25 } (mu_P (dC, dI) classes (mtys cA) (mw ad cA th yr nf no nt bd nb fl AI AN AB AL) sz [.ref (ad 0), .int i0]) (va_Qi (fun r u => (r, u) = m_cancel (th, yr, nf, no, nt, bd, nb, fl, AI, AN, AB, AL) i0) (mu_B (dC, dI) classes (mtys cA) (va_A (mw ad cA th yr nf no nt bd nb fl AI AN AB AL) sz) (mwS ad cA)) (va_A (mw ad cA th yr nf no nt bd nb fl AI AN AB AL) sz)) 0 0 (va_A (mw ad cA th yr nf no nt bd nb fl AI AN AB AL) sz) := by
  refine Met.ofW (cc := b_Mo_cancel) (maxL := 3) (ret := (some .int)) (by decide) rfl ?_
  intro p e s m args below meth c s₁ B hml hv
  obtain ⟨rfl, hsz, hP, hK, hD0, hN⟩ := hv
  have hx := B.exec
  have hb := B.bytes
  have hr := B.returns
  have hts := atoms_spec (ws := w_Mo_cancel) B.pre
  have hG := fun (w : Cond) (h : w ∈ wG) => hts w (List.mem_cons_of_mem _ h)
  have hown : s.vm.findClass R_Mo = some m.cls := findClass_of_methodNamed B.named
  have hlocks := B.notSynchronized
  subst hsz
  have hD := hD0.self (sz := s.heap.size)
  generalize hAe : va_A (mw ad cA th yr nf no nt bd nb fl AI AN AB AL) s.heap.size = A at hD ⊢
  have hA : ∀ q : Nat, s.heap.size ≤ q → A q := fun q h => by rw [← hAe]; exact Or.inr h
  have hS : va_S A s.heap s.heap [] := va_S.rf
  have hP : va_P (dC, dI) classes (mw ad cA th yr nf no nt bd nb fl AI AN AB AL) s.heap := hP
  have hl := lv_entry ([.ref (ad 0), .int i0]) (n := 3) (Nat.le_of_ble_eq_true rfl)
  rw [lg_entry_eq]
  generalize (lg_sl ([.ref (ad 0), .int i0]) ++ List.replicate (3 - (lg_sl ([.ref (ad 0), .int i0])).length) Slot.unset).toArray = ls at hl ⊢
  have hl : lv_has ls 3 [(0, .ref (ad 0)), (1, .int i0)] := hl
  obtain ⟨hnf, hno, hnt, hnb, hfu, hft, hbf, hrw, hce, hdn⟩ := id hI
  refine lv_aload_n hx hb d_Mo_cancel_0 rfl (lv_at hl 0 rfl) ?_
  refine lv_iconst (v := 0) hx hb d_Mo_cancel_1 (by decide) ?_
  refine va_put (D := (dC, dI)) (ci := 7) (v := .int 0) (ty := .int) (C := R_Mo) (T := F_Mo) (N := 31) hx hb hG iG_Mo t_Mo t_Mo_ok n_Mo hown hK hP hD hS 0 rfl rfl 0 (by decide) (hG _ k_523) (fun _ h9 => h9) rfl (by decide +kernel) rfl rfl (Nat.le_of_ble_eq_true rfl) d_Mo_cancel_2 (fun H locs hP hD hS => ?_)
  have hP : va_P (dC, dI) classes (mw ad cA 0 yr nf no nt bd nb fl AI AN AB AL) H := hP
  have hD : va_D A (mw ad cA 0 yr nf no nt bd nb fl AI AN AB AL) := hD
  refine lv_iload_n hx hb d_Mo_cancel_5 rfl (lv_at hl 1 rfl) ?_
  refine lv_i2l hx hb d_Mo_cancel_6 rfl ?_
  refine lv_lconst (v := 0) hx hb d_Mo_cancel_7 (by decide) ?_
  refine lv_aload_n hx hb d_Mo_cancel_8 rfl (lv_at hl 0 rfl) ?_
  refine va_get (D := (dC, dI)) (ci := 7) (v := .int (nI no)) (C := R_Mo) (T := F_Mo) (N := 31) hx hb hG iG_Mo hown hK hP 0 rfl rfl 6 (by decide) (hG _ k_529) (fun _ h9 => h9) rfl d_Mo_cancel_9 ?_
  refine lv_iconst (v := 1) hx hb d_Mo_cancel_12 (by decide) ?_
  refine lv_isub hx hb d_Mo_cancel_13 ?_
  refine lv_i2l hx hb d_Mo_cancel_14 rfl ?_
  refine rd_calli (va_runS (As := [.long (i0.toInt64), .long 0, .long ((nI no - 1).toInt64)]) (rest := []) ⟨hx, hb, hml, hown, hts⟩ (c_Mo_in l dC dI (mtys cA) (mw ad cA 0 yr nf no nt bd nb fl AI AN AB AL) (i0.toInt64) 0 ((nI no - 1).toInt64)) (cwS 3 hts (gd_S k_629 k_630 k_17 k_631) rfl rfl rfl (by decide +kernel) ⟨Nat.le_of_ble_eq_true rfl, Nat.le_of_ble_eq_true rfl⟩) (rd_preS hK hN hP) rfl rfl hl.1 rfl (lv_room (Nat.le_of_ble_eq_true rfl)) d_Mo_cancel_15 ⟨Nat.zero_le _, Nat.zero_le _⟩) (fun r_1 hr_1 => ?_)
  subst hr_1
  refine lb_if_ne (tgt := 23) hx hb d_Mo_cancel_18 (by decide) (fun c_2 => ?_) (fun c_2 => ?_)
  · obtain ⟨j, hj, rfl⟩ := inN_of (n := no) (by omega) c_2
    have ej : (nI j).toNatClampNeg = j := nI_clamp (by omega)
    have c_2n : inN (nI j) no = true := c_2
    refine lv_aload_n hx hb d_Mo_cancel_23 rfl (lv_at hl 0 rfl) ?_
    refine va_get (D := (dC, dI)) (ci := 7) (v := .ref (ad 7)) (C := R_Mo) (T := F_Mo) (N := 31) hx hb hG iG_Mo hown hK hP 0 rfl rfl 10 (by decide) (hG _ k_533) (fun _ h9 => h9) rfl d_Mo_cancel_24 ?_
    refine lv_iload_n hx hb d_Mo_cancel_27 rfl (lv_at hl 1 rfl) ?_
    refine ra_iald (n := 300) (j := j) (f := AI 7) hx hb hK hP 7 6 rfl rfl (by omega) (by decide) d_Mo_cancel_28 ?_
    refine lv_iconst (v := 1) hx hb d_Mo_cancel_29 (by decide) ?_
    refine lv_icmp_le (tgt := 36) hx hb d_Mo_cancel_30 (by decide) (fun c_3 => ?_) (fun c_3 => ?_)
    · rw [← Int32.not_lt] at c_3
      refine lv_aload_n hx hb d_Mo_cancel_36 rfl (lv_at hl 0 rfl) ?_
      refine va_get (D := (dC, dI)) (ci := 7) (v := .ref (ad 7)) (C := R_Mo) (T := F_Mo) (N := 31) hx hb hG iG_Mo hown hK hP 0 rfl rfl 10 (by decide) (hG _ k_533) (fun _ h9 => h9) rfl d_Mo_cancel_37 ?_
      refine lv_iload_n hx hb d_Mo_cancel_40 rfl (lv_at hl 1 rfl) ?_
      refine ra_iald (n := 300) (j := j) (f := AI 7) hx hb hK hP 7 6 rfl rfl (by omega) (by decide) d_Mo_cancel_41 ?_
      refine lv_iconst (v := 1) hx hb d_Mo_cancel_42 (by decide) ?_
      refine lv_icmp_ne (tgt := 55) hx hb d_Mo_cancel_43 (by decide) (fun c_4 => ?_) (fun c_4 => ?_)
      · refine lv_iconst (v := 0) hx hb d_Mo_cancel_55 (by decide) ?_
        refine lv_istore_n (lv' := [(2, .int 0), (0, .ref (ad 0)), (1, .int (nI j))]) hx hb d_Mo_cancel_56 rfl hl (by decide) rfl (fun ls hl => ?_)
        refine lv_aload_n hx hb d_Mo_cancel_57 rfl (lv_at hl 1 rfl) ?_
        refine va_get (D := (dC, dI)) (ci := 7) (v := .ref (ad 7)) (C := R_Mo) (T := F_Mo) (N := 31) hx hb hG iG_Mo hown hK hP 0 rfl rfl 10 (by decide) (hG _ k_533) (fun _ h9 => h9) rfl d_Mo_cancel_58 ?_
        refine lv_iload_n hx hb d_Mo_cancel_61 rfl (lv_at hl 2 rfl) ?_
        refine lv_iconst (v := 3) hx hb d_Mo_cancel_62 (by decide) ?_
        refine ra_iast (n := 300) (j := j) (f := AI 7) hx hb hK hP hD hS 7 6 rfl rfl (by omega) (by decide) d_Mo_cancel_63 (fun H locs hP hD hS => ?_)
        have hP : va_P (dC, dI) classes (mw ad cA 0 yr nf no nt bd nb fl (va_up AI 7 (va_up (AI 7) j 3)) AN AB AL) H := hP
        have hD : va_D A (mw ad cA 0 yr nf no nt bd nb fl (va_up AI 7 (va_up (AI 7) j 3)) AN AB AL) := hD
        refine lv_iload_n hx hb d_Mo_cancel_64 rfl (lv_at hl 0 rfl) ?_
        exact W.iret (v := 0) hx hb hr (fun t ht hW => ⟨⟨_, (0, yr, nf, no, nt, bd, nb, fl, va_up AI 7 (va_up (AI 7) j 3), AN, AB, AL), rfl, (by simp [m_cancel, ixn, bI, ej, c_2, c_2n, c_3, c_4] <;> (repeat' apply And.intro) <;> rfl), by rw [ht]; exact hP, va_K.moved hW.alike hK, hD⟩, hS.F ht⟩) hS.2.2 d_Mo_cancel_65
      · refine lv_aload_n hx hb d_Mo_cancel_46 rfl (lv_at hl 0 rfl) ?_
        refine va_get (D := (dC, dI)) (ci := 7) (v := .ref (ad 5)) (C := R_Mo) (T := F_Mo) (N := 31) hx hb hG iG_Mo hown hK hP 0 rfl rfl 8 (by decide) (hG _ k_531) (fun _ h9 => h9) rfl d_Mo_cancel_47 ?_
        refine lv_iload_n hx hb d_Mo_cancel_50 rfl (lv_at hl 1 rfl) ?_
        refine ra_iald (n := 300) (j := j) (f := AI 5) hx hb hK hP 5 4 rfl rfl (by omega) (by decide) d_Mo_cancel_51 ?_
        refine lv_goto (tgt := 56) hx hb d_Mo_cancel_52 (by decide) ?_
        refine lv_istore_n (lv' := [(2, .int (AI 5 j)), (0, .ref (ad 0)), (1, .int (nI j))]) hx hb d_Mo_cancel_56 rfl hl (by decide) rfl (fun ls hl => ?_)
        refine lv_aload_n hx hb d_Mo_cancel_57 rfl (lv_at hl 1 rfl) ?_
        refine va_get (D := (dC, dI)) (ci := 7) (v := .ref (ad 7)) (C := R_Mo) (T := F_Mo) (N := 31) hx hb hG iG_Mo hown hK hP 0 rfl rfl 10 (by decide) (hG _ k_533) (fun _ h9 => h9) rfl d_Mo_cancel_58 ?_
        refine lv_iload_n hx hb d_Mo_cancel_61 rfl (lv_at hl 2 rfl) ?_
        refine lv_iconst (v := 3) hx hb d_Mo_cancel_62 (by decide) ?_
        refine ra_iast (n := 300) (j := j) (f := AI 7) hx hb hK hP hD hS 7 6 rfl rfl (by omega) (by decide) d_Mo_cancel_63 (fun H locs hP hD hS => ?_)
        have hP : va_P (dC, dI) classes (mw ad cA 0 yr nf no nt bd nb fl (va_up AI 7 (va_up (AI 7) j 3)) AN AB AL) H := hP
        have hD : va_D A (mw ad cA 0 yr nf no nt bd nb fl (va_up AI 7 (va_up (AI 7) j 3)) AN AB AL) := hD
        refine lv_iload_n hx hb d_Mo_cancel_64 rfl (lv_at hl 0 rfl) ?_
        exact W.iret (v := (AI 5 j)) hx hb hr (fun t ht hW => ⟨⟨_, (0, yr, nf, no, nt, bd, nb, fl, va_up AI 7 (va_up (AI 7) j 3), AN, AB, AL), rfl, (by simp [m_cancel, ixn, bI, ej, c_2, c_2n, c_3, c_4] <;> (repeat' apply And.intro) <;> rfl), by rw [ht]; exact hP, va_K.moved hW.alike hK, hD⟩, hS.F ht⟩) hS.2.2 d_Mo_cancel_65
    · refine lv_bipush (v := (-3)) hx hb d_Mo_cancel_33 (by decide) ?_
      exact W.iret (v := (-3)) hx hb hr (fun t ht hW => ⟨⟨_, (0, yr, nf, no, nt, bd, nb, fl, AI, AN, AB, AL), rfl, (by simp [m_cancel, ixn, bI, ej, c_2, c_2n, c_3] <;> (repeat' apply And.intro) <;> rfl), by rw [ht]; exact hP, va_K.moved hW.alike hK, hD⟩, hS.F ht⟩) hS.2.2 d_Mo_cancel_35
  · have c_2n : inN i0 no = false := c_2
    refine lv_iconst (v := (-1)) hx hb d_Mo_cancel_21 (by decide) ?_
    exact W.iret (v := (-1)) hx hb hr (fun t ht hW => ⟨⟨_, (0, yr, nf, no, nt, bd, nb, fl, AI, AN, AB, AL), rfl, (by simp [m_cancel, ixn, bI, c_2, c_2n] <;> (repeat' apply And.intro) <;> rfl), by rw [ht]; exact hP, va_K.moved hW.alike hK, hD⟩, hS.F ht⟩) hS.2.2 d_Mo_cancel_22

theorem d_Mo_transfer_0 : decode b_Mo_transfer 0 = .ok (.aload_n 0, 1) := by decide +kernel
theorem d_Mo_transfer_1 : decode b_Mo_transfer 1 = .ok (.iconst 0, 1) := by decide +kernel
theorem d_Mo_transfer_2 : decode b_Mo_transfer 2 = .ok (.putfield 91, 3) := by decide +kernel
theorem d_Mo_transfer_5 : decode b_Mo_transfer 5 = .ok (.aload_n 0, 1) := by decide +kernel
theorem d_Mo_transfer_6 : decode b_Mo_transfer 6 = .ok (.iload_n 1, 1) := by decide +kernel
theorem d_Mo_transfer_7 : decode b_Mo_transfer 7 = .ok (.invokevirtual 118, 3) := by decide +kernel
theorem d_Mo_transfer_10 : decode b_Mo_transfer 10 = .ok (.ifCond .eq 11, 3) := by decide +kernel
theorem d_Mo_transfer_13 : decode b_Mo_transfer 13 = .ok (.aload_n 0, 1) := by decide +kernel
theorem d_Mo_transfer_14 : decode b_Mo_transfer 14 = .ok (.iload_n 2, 1) := by decide +kernel
theorem d_Mo_transfer_15 : decode b_Mo_transfer 15 = .ok (.invokevirtual 118, 3) := by decide +kernel
theorem d_Mo_transfer_18 : decode b_Mo_transfer 18 = .ok (.ifCond .ne 5, 3) := by decide +kernel
theorem d_Mo_transfer_21 : decode b_Mo_transfer 21 = .ok (.iconst (-1), 1) := by decide +kernel
theorem d_Mo_transfer_22 : decode b_Mo_transfer 22 = .ok (.ireturn, 1) := by decide +kernel
theorem d_Mo_transfer_23 : decode b_Mo_transfer 23 = .ok (.iload_n 3, 1) := by decide +kernel
theorem d_Mo_transfer_24 : decode b_Mo_transfer 24 = .ok (.i2l, 1) := by decide +kernel
theorem d_Mo_transfer_25 : decode b_Mo_transfer 25 = .ok (.lconst 1, 1) := by decide +kernel
theorem d_Mo_transfer_26 : decode b_Mo_transfer 26 = .ok (.ldc2_w 128, 3) := by decide +kernel
theorem d_Mo_transfer_29 : decode b_Mo_transfer 29 = .ok (.invokestatic 97, 3) := by decide +kernel
theorem d_Mo_transfer_32 : decode b_Mo_transfer 32 = .ok (.ifCond .eq 8, 3) := by decide +kernel
theorem d_Mo_transfer_35 : decode b_Mo_transfer 35 = .ok (.iload_n 1, 1) := by decide +kernel
theorem d_Mo_transfer_36 : decode b_Mo_transfer 36 = .ok (.iload_n 2, 1) := by decide +kernel
theorem d_Mo_transfer_37 : decode b_Mo_transfer 37 = .ok (.if_icmp .ne 6, 3) := by decide +kernel
theorem d_Mo_transfer_40 : decode b_Mo_transfer 40 = .ok (.bipush (-2), 2) := by decide +kernel
theorem d_Mo_transfer_42 : decode b_Mo_transfer 42 = .ok (.ireturn, 1) := by decide +kernel
theorem d_Mo_transfer_43 : decode b_Mo_transfer 43 = .ok (.aload_n 0, 1) := by decide +kernel
theorem d_Mo_transfer_44 : decode b_Mo_transfer 44 = .ok (.getfield 159, 3) := by decide +kernel
theorem d_Mo_transfer_47 : decode b_Mo_transfer 47 = .ok (.bipush 100, 2) := by decide +kernel
theorem d_Mo_transfer_49 : decode b_Mo_transfer 49 = .ok (.if_icmp .ne 6, 3) := by decide +kernel
theorem d_Mo_transfer_52 : decode b_Mo_transfer 52 = .ok (.bipush (-4), 2) := by decide +kernel
theorem d_Mo_transfer_54 : decode b_Mo_transfer 54 = .ok (.ireturn, 1) := by decide +kernel
theorem d_Mo_transfer_55 : decode b_Mo_transfer 55 = .ok (.aload_n 0, 1) := by decide +kernel
theorem d_Mo_transfer_56 : decode b_Mo_transfer 56 = .ok (.getfield 48, 3) := by decide +kernel
theorem d_Mo_transfer_59 : decode b_Mo_transfer 59 = .ok (.aload_n 0, 1) := by decide +kernel
theorem d_Mo_transfer_60 : decode b_Mo_transfer 60 = .ok (.getfield 159, 3) := by decide +kernel
theorem d_Mo_transfer_63 : decode b_Mo_transfer 63 = .ok (.iload_n 1, 1) := by decide +kernel
theorem d_Mo_transfer_64 : decode b_Mo_transfer 64 = .ok (.iastore, 1) := by decide +kernel
theorem d_Mo_transfer_65 : decode b_Mo_transfer 65 = .ok (.aload_n 0, 1) := by decide +kernel
theorem d_Mo_transfer_66 : decode b_Mo_transfer 66 = .ok (.getfield 51, 3) := by decide +kernel
theorem d_Mo_transfer_69 : decode b_Mo_transfer 69 = .ok (.aload_n 0, 1) := by decide +kernel
theorem d_Mo_transfer_70 : decode b_Mo_transfer 70 = .ok (.getfield 159, 3) := by decide +kernel
theorem d_Mo_transfer_73 : decode b_Mo_transfer 73 = .ok (.iload_n 2, 1) := by decide +kernel
theorem d_Mo_transfer_74 : decode b_Mo_transfer 74 = .ok (.iastore, 1) := by decide +kernel
theorem d_Mo_transfer_75 : decode b_Mo_transfer 75 = .ok (.aload_n 0, 1) := by decide +kernel
theorem d_Mo_transfer_76 : decode b_Mo_transfer 76 = .ok (.getfield 54, 3) := by decide +kernel
theorem d_Mo_transfer_79 : decode b_Mo_transfer 79 = .ok (.aload_n 0, 1) := by decide +kernel
theorem d_Mo_transfer_80 : decode b_Mo_transfer 80 = .ok (.getfield 159, 3) := by decide +kernel
theorem d_Mo_transfer_83 : decode b_Mo_transfer 83 = .ok (.iload_n 3, 1) := by decide +kernel
theorem d_Mo_transfer_84 : decode b_Mo_transfer 84 = .ok (.iastore, 1) := by decide +kernel
theorem d_Mo_transfer_85 : decode b_Mo_transfer 85 = .ok (.aload_n 0, 1) := by decide +kernel
theorem d_Mo_transfer_86 : decode b_Mo_transfer 86 = .ok (.dup, 1) := by decide +kernel
theorem d_Mo_transfer_87 : decode b_Mo_transfer 87 = .ok (.getfield 159, 3) := by decide +kernel
theorem d_Mo_transfer_90 : decode b_Mo_transfer 90 = .ok (.iconst 1, 1) := by decide +kernel
theorem d_Mo_transfer_91 : decode b_Mo_transfer 91 = .ok (.iadd, 1) := by decide +kernel
theorem d_Mo_transfer_92 : decode b_Mo_transfer 92 = .ok (.putfield 159, 3) := by decide +kernel
theorem d_Mo_transfer_95 : decode b_Mo_transfer 95 = .ok (.aload_n 0, 1) := by decide +kernel
theorem d_Mo_transfer_96 : decode b_Mo_transfer 96 = .ok (.getfield 159, 3) := by decide +kernel
theorem d_Mo_transfer_99 : decode b_Mo_transfer 99 = .ok (.iconst 1, 1) := by decide +kernel
theorem d_Mo_transfer_100 : decode b_Mo_transfer 100 = .ok (.isub, 1) := by decide +kernel
theorem d_Mo_transfer_101 : decode b_Mo_transfer 101 = .ok (.ireturn, 1) := by decide +kernel
set_option maxHeartbeats 4000000 in
set_option maxRecDepth 100000 in
theorem c_Mo_transfer (l : Launch) (dC : Nat → ClassId) (dI : Nat → Nat → Nat) (ad : Nat → Nat) (cA : Nat → ClassId) (th yr : Int32) (nf no nt : Nat) (bd : Int32) (nb : Nat) (fl : Int32) (AI : Nat → Nat → Int32) (AN : Nat → Nat → Nat) (AB : Nat → Nat → Bool) (AL : Nat → Nat → Int64) (sz : Nat) (fd t0 c0 : Int32) (hI : InvM nf no nt nb AI AN) : Met l y_Mo_transfer w_Mo_transfer { frames := 2, cells := 0, slots := 0, locals := 46 } (mu_P (dC, dI) classes (mtys cA) (mw ad cA th yr nf no nt bd nb fl AI AN AB AL) sz [.ref (ad 0), .int fd, .int t0, .int c0]) (va_Qi (fun r u => (r, u) = m_transfer (th, yr, nf, no, nt, bd, nb, fl, AI, AN, AB, AL) fd t0 c0) (mu_B (dC, dI) classes (mtys cA) (va_A (mw ad cA th yr nf no nt bd nb fl AI AN AB AL) sz) (mwS ad cA)) (va_A (mw ad cA th yr nf no nt bd nb fl AI AN AB AL) sz)) 0 0 (va_A (mw ad cA th yr nf no nt bd nb fl AI AN AB AL) sz) := by
  refine Met.ofW (cc := b_Mo_transfer) (maxL := 4) (ret := (some .int)) (by decide) rfl ?_
  intro p e s m args below meth c s₁ B hml hv
  obtain ⟨rfl, hsz, hP, hK, hD0, hN⟩ := hv
  have hx := B.exec
  have hb := B.bytes
  have hr := B.returns
  have hts := atoms_spec (ws := w_Mo_transfer) B.pre
  have hG := fun (w : Cond) (h : w ∈ wG) => hts w (List.mem_cons_of_mem _ h)
  have hown : s.vm.findClass R_Mo = some m.cls := findClass_of_methodNamed B.named
  have hlocks := B.notSynchronized
  subst hsz
  have hD := hD0.self (sz := s.heap.size)
  generalize hAe : va_A (mw ad cA th yr nf no nt bd nb fl AI AN AB AL) s.heap.size = A at hD ⊢
  have hA : ∀ q : Nat, s.heap.size ≤ q → A q := fun q h => by rw [← hAe]; exact Or.inr h
  have hS : va_S A s.heap s.heap [] := va_S.rf
  have hP : va_P (dC, dI) classes (mw ad cA th yr nf no nt bd nb fl AI AN AB AL) s.heap := hP
  have hl := lv_entry ([.ref (ad 0), .int fd, .int t0, .int c0]) (n := 4) (Nat.le_of_ble_eq_true rfl)
  rw [lg_entry_eq]
  generalize (lg_sl ([.ref (ad 0), .int fd, .int t0, .int c0]) ++ List.replicate (4 - (lg_sl ([.ref (ad 0), .int fd, .int t0, .int c0])).length) Slot.unset).toArray = ls at hl ⊢
  have hl : lv_has ls 4 [(0, .ref (ad 0)), (1, .int fd), (2, .int t0), (3, .int c0)] := hl
  obtain ⟨hnf, hno, hnt, hnb, hfu, hft, hbf, hrw, hce, hdn⟩ := id hI
  refine lv_aload_n hx hb d_Mo_transfer_0 rfl (lv_at hl 0 rfl) ?_
  refine lv_iconst (v := 0) hx hb d_Mo_transfer_1 (by decide) ?_
  refine va_put (D := (dC, dI)) (ci := 7) (v := .int 0) (ty := .int) (C := R_Mo) (T := F_Mo) (N := 31) hx hb hG iG_Mo t_Mo t_Mo_ok n_Mo hown hK hP hD hS 0 rfl rfl 0 (by decide) (hG _ k_523) (fun _ h9 => h9) rfl (by decide +kernel) rfl rfl (Nat.le_of_ble_eq_true rfl) d_Mo_transfer_2 (fun H locs hP hD hS => ?_)
  have hP : va_P (dC, dI) classes (mw ad cA 0 yr nf no nt bd nb fl AI AN AB AL) H := hP
  have hD : va_D A (mw ad cA 0 yr nf no nt bd nb fl AI AN AB AL) := hD
  refine lv_aload_n hx hb d_Mo_transfer_5 rfl (lv_at hl 0 rfl) ?_
  refine lv_iload_n hx hb d_Mo_transfer_6 rfl (lv_at hl 1 rfl) ?_
  refine rd_calli (va_runV (As := [.int fd]) (rest := []) ⟨hx, hb, hml, hown, hts⟩ (c_Mo_isFund l dC dI ad cA 0 yr nf no nt bd nb fl AI AN AB AL fd) (cwV 1 hts (gd_V k_636 k_638 k_7 k_17 k_639) rfl rfl rfl (by decide +kernel) ⟨Nat.le_of_ble_eq_true rfl, Nat.le_of_ble_eq_true rfl⟩) (rd_preV 0 hK hN hP rfl rfl) rfl rfl hl.1 rfl (lv_room (Nat.le_of_ble_eq_true rfl)) d_Mo_transfer_7 ⟨Nat.zero_le _, Nat.zero_le _⟩) (fun r_1 hr_1 => ?_)
  subst hr_1
  refine lb_if_eq (tgt := 21) hx hb d_Mo_transfer_10 (by decide) (fun c_2 => ?_) (fun c_2 => ?_)
  · refine lv_iconst (v := (-1)) hx hb d_Mo_transfer_21 (by decide) ?_
    exact W.iret (v := (-1)) hx hb hr (fun t ht hW => ⟨⟨_, (0, yr, nf, no, nt, bd, nb, fl, AI, AN, AB, AL), rfl, (by simp [m_transfer, ixn, bI, c_2] <;> (repeat' apply And.intro) <;> rfl), by rw [ht]; exact hP, va_K.moved hW.alike hK, hD⟩, hS.F ht⟩) hS.2.2 d_Mo_transfer_22
  · obtain ⟨j, hj, rfl⟩ := inN_of (n := nf) (by omega) c_2
    have ej : (nI j).toNatClampNeg = j := nI_clamp (by omega)
    refine lv_aload_n hx hb d_Mo_transfer_13 rfl (lv_at hl 0 rfl) ?_
    refine lv_iload_n hx hb d_Mo_transfer_14 rfl (lv_at hl 2 rfl) ?_
    refine rd_calli (va_runV (As := [.int t0]) (rest := []) ⟨hx, hb, hml, hown, hts⟩ (c_Mo_isFund l dC dI ad cA 0 yr nf no nt bd nb fl AI AN AB AL t0) (cwV 1 hts (gd_V k_636 k_638 k_7 k_17 k_639) rfl rfl rfl (by decide +kernel) ⟨Nat.le_of_ble_eq_true rfl, Nat.le_of_ble_eq_true rfl⟩) (rd_preV 0 hK hN hP rfl rfl) rfl rfl hl.1 rfl (lv_room (Nat.le_of_ble_eq_true rfl)) d_Mo_transfer_15 ⟨Nat.zero_le _, Nat.zero_le _⟩) (fun r_3 hr_3 => ?_)
    subst hr_3
    refine lb_if_ne (tgt := 23) hx hb d_Mo_transfer_18 (by decide) (fun c_4 => ?_) (fun c_4 => ?_)
    · obtain ⟨k, hk, rfl⟩ := inN_of (n := nf) (by omega) c_4
      have ek : (nI k).toNatClampNeg = k := nI_clamp (by omega)
      refine lv_iload_n hx hb d_Mo_transfer_23 rfl (lv_at hl 3 rfl) ?_
      refine lv_i2l hx hb d_Mo_transfer_24 rfl ?_
      refine lv_lconst (v := 1) hx hb d_Mo_transfer_25 (by decide) ?_
      refine lv_ldc2 (own := R_Mo) (v := 1000000000) hx hb hown (hG _ k_658) d_Mo_transfer_26 ?_
      refine rd_calli (va_runS (As := [.long (c0.toInt64), .long 1, .long 1000000000]) (rest := []) ⟨hx, hb, hml, hown, hts⟩ (c_Mo_in l dC dI (mtys cA) (mw ad cA 0 yr nf no nt bd nb fl AI AN AB AL) (c0.toInt64) 1 1000000000) (cwS 3 hts (gd_S k_629 k_630 k_17 k_631) rfl rfl rfl (by decide +kernel) ⟨Nat.le_of_ble_eq_true rfl, Nat.le_of_ble_eq_true rfl⟩) (rd_preS hK hN hP) rfl rfl hl.1 rfl (lv_room (Nat.le_of_ble_eq_true rfl)) d_Mo_transfer_29 ⟨Nat.zero_le _, Nat.zero_le _⟩) (fun r_5 hr_5 => ?_)
      subst hr_5
      refine lb_if_eq (tgt := 40) hx hb d_Mo_transfer_32 (by decide) (fun c_6 => ?_) (fun c_6 => ?_)
      · refine lv_bipush (v := (-2)) hx hb d_Mo_transfer_40 (by decide) ?_
        exact W.iret (v := (-2)) hx hb hr (fun t ht hW => ⟨⟨_, (0, yr, nf, no, nt, bd, nb, fl, AI, AN, AB, AL), rfl, (by simp [m_transfer, ixn, bI, ej, ek, c_2, c_4, c_6] <;> (repeat' apply And.intro) <;> rfl), by rw [ht]; exact hP, va_K.moved hW.alike hK, hD⟩, hS.F ht⟩) hS.2.2 d_Mo_transfer_42
      · refine lv_iload_n hx hb d_Mo_transfer_35 rfl (lv_at hl 1 rfl) ?_
        refine lv_iload_n hx hb d_Mo_transfer_36 rfl (lv_at hl 2 rfl) ?_
        refine lv_icmp_ne (tgt := 43) hx hb d_Mo_transfer_37 (by decide) (fun c_7 => ?_) (fun c_7 => ?_)
        · refine lv_aload_n hx hb d_Mo_transfer_43 rfl (lv_at hl 0 rfl) ?_
          refine va_get (D := (dC, dI)) (ci := 7) (v := .int (nI nt)) (C := R_Mo) (T := F_Mo) (N := 31) hx hb hG iG_Mo hown hK hP 0 rfl rfl 16 (by decide) (hG _ k_539) (fun _ h9 => h9) rfl d_Mo_transfer_44 ?_
          refine lv_bipush (v := 100) hx hb d_Mo_transfer_47 (by decide) ?_
          refine lv_icmp_ne (tgt := 55) hx hb d_Mo_transfer_49 (by decide) (fun c_8 => ?_) (fun c_8 => ?_)
          · rw [nI_100 hnt] at c_8
            refine lv_aload_n hx hb d_Mo_transfer_55 rfl (lv_at hl 0 rfl) ?_
            refine va_get (D := (dC, dI)) (ci := 7) (v := .ref (ad 13)) (C := R_Mo) (T := F_Mo) (N := 31) hx hb hG iG_Mo hown hK hP 0 rfl rfl 17 (by decide) (hG _ k_540) (fun _ h9 => h9) rfl d_Mo_transfer_56 ?_
            refine lv_aload_n hx hb d_Mo_transfer_59 rfl (lv_at hl 0 rfl) ?_
            refine va_get (D := (dC, dI)) (ci := 7) (v := .int (nI nt)) (C := R_Mo) (T := F_Mo) (N := 31) hx hb hG iG_Mo hown hK hP 0 rfl rfl 16 (by decide) (hG _ k_539) (fun _ h9 => h9) rfl d_Mo_transfer_60 ?_
            refine lv_iload_n hx hb d_Mo_transfer_63 rfl (lv_at hl 1 rfl) ?_
            refine rn_iast (n := 100) (j := nt) (g := AN 13) (b := j) hx hb hK hP hD hS 13 12 rfl rfl (by omega) (by decide) d_Mo_transfer_64 (fun H locs hP hD hS => ?_)
            have hP : va_P (dC, dI) classes (mw ad cA 0 yr nf no nt bd nb fl AI (va_up AN 13 (va_up (AN 13) nt j)) AB AL) H := hP
            have hD : va_D A (mw ad cA 0 yr nf no nt bd nb fl AI (va_up AN 13 (va_up (AN 13) nt j)) AB AL) := hD
            refine lv_aload_n hx hb d_Mo_transfer_65 rfl (lv_at hl 0 rfl) ?_
            refine va_get (D := (dC, dI)) (ci := 7) (v := .ref (ad 14)) (C := R_Mo) (T := F_Mo) (N := 31) hx hb hG iG_Mo hown hK hP 0 rfl rfl 18 (by decide) (hG _ k_541) (fun _ h9 => h9) rfl d_Mo_transfer_66 ?_
            refine lv_aload_n hx hb d_Mo_transfer_69 rfl (lv_at hl 0 rfl) ?_
            refine va_get (D := (dC, dI)) (ci := 7) (v := .int (nI nt)) (C := R_Mo) (T := F_Mo) (N := 31) hx hb hG iG_Mo hown hK hP 0 rfl rfl 16 (by decide) (hG _ k_539) (fun _ h9 => h9) rfl d_Mo_transfer_70 ?_
            refine lv_iload_n hx hb d_Mo_transfer_73 rfl (lv_at hl 2 rfl) ?_
            refine rn_iast (n := 100) (j := nt) (g := AN 14) (b := k) hx hb hK hP hD hS 14 13 rfl rfl (by omega) (by decide) d_Mo_transfer_74 (fun H locs hP hD hS => ?_)
            have hP : va_P (dC, dI) classes (mw ad cA 0 yr nf no nt bd nb fl AI (va_up (va_up AN 13 (va_up (AN 13) nt j)) 14 (va_up (AN 14) nt k)) AB AL) H := hP
            have hD : va_D A (mw ad cA 0 yr nf no nt bd nb fl AI (va_up (va_up AN 13 (va_up (AN 13) nt j)) 14 (va_up (AN 14) nt k)) AB AL) := hD
            refine lv_aload_n hx hb d_Mo_transfer_75 rfl (lv_at hl 0 rfl) ?_
            refine va_get (D := (dC, dI)) (ci := 7) (v := .ref (ad 15)) (C := R_Mo) (T := F_Mo) (N := 31) hx hb hG iG_Mo hown hK hP 0 rfl rfl 19 (by decide) (hG _ k_542) (fun _ h9 => h9) rfl d_Mo_transfer_76 ?_
            refine lv_aload_n hx hb d_Mo_transfer_79 rfl (lv_at hl 0 rfl) ?_
            refine va_get (D := (dC, dI)) (ci := 7) (v := .int (nI nt)) (C := R_Mo) (T := F_Mo) (N := 31) hx hb hG iG_Mo hown hK hP 0 rfl rfl 16 (by decide) (hG _ k_539) (fun _ h9 => h9) rfl d_Mo_transfer_80 ?_
            refine lv_iload_n hx hb d_Mo_transfer_83 rfl (lv_at hl 3 rfl) ?_
            refine ra_iast (n := 100) (j := nt) (f := AI 15) hx hb hK hP hD hS 15 14 rfl rfl (by omega) (by decide) d_Mo_transfer_84 (fun H locs hP hD hS => ?_)
            have hP : va_P (dC, dI) classes (mw ad cA 0 yr nf no nt bd nb fl (va_up AI 15 (va_up (AI 15) nt c0)) (va_up (va_up AN 13 (va_up (AN 13) nt j)) 14 (va_up (AN 14) nt k)) AB AL) H := hP
            have hD : va_D A (mw ad cA 0 yr nf no nt bd nb fl (va_up AI 15 (va_up (AI 15) nt c0)) (va_up (va_up AN 13 (va_up (AN 13) nt j)) 14 (va_up (AN 14) nt k)) AB AL) := hD
            refine lv_aload_n hx hb d_Mo_transfer_85 rfl (lv_at hl 0 rfl) ?_
            refine lv_dup hx hb d_Mo_transfer_86 rfl ?_
            refine va_get (D := (dC, dI)) (ci := 7) (v := .int (nI nt)) (C := R_Mo) (T := F_Mo) (N := 31) hx hb hG iG_Mo hown hK hP 0 rfl rfl 16 (by decide) (hG _ k_539) (fun _ h9 => h9) rfl d_Mo_transfer_87 ?_
            refine lv_iconst (v := 1) hx hb d_Mo_transfer_90 (by decide) ?_
            refine lv_iadd hx hb d_Mo_transfer_91 ?_
            refine lv_topI (y := nI (nt + 1)) (nI_add nt 1) ?_
            refine va_put (D := (dC, dI)) (ci := 7) (v := .int (nI (nt + 1))) (ty := .int) (C := R_Mo) (T := F_Mo) (N := 31) hx hb hG iG_Mo t_Mo t_Mo_ok n_Mo hown hK hP hD hS 0 rfl rfl 16 (by decide) (hG _ k_539) (fun _ h9 => h9) rfl (by decide +kernel) rfl rfl (Nat.le_of_ble_eq_true rfl) d_Mo_transfer_92 (fun H locs hP hD hS => ?_)
            have hP : va_P (dC, dI) classes (mw ad cA 0 yr nf no (nt + 1) bd nb fl (va_up AI 15 (va_up (AI 15) nt c0)) (va_up (va_up AN 13 (va_up (AN 13) nt j)) 14 (va_up (AN 14) nt k)) AB AL) H := hP
            have hD : va_D A (mw ad cA 0 yr nf no (nt + 1) bd nb fl (va_up AI 15 (va_up (AI 15) nt c0)) (va_up (va_up AN 13 (va_up (AN 13) nt j)) 14 (va_up (AN 14) nt k)) AB AL) := hD
            refine lv_aload_n hx hb d_Mo_transfer_95 rfl (lv_at hl 0 rfl) ?_
            refine va_get (D := (dC, dI)) (ci := 7) (v := .int (nI (nt + 1))) (C := R_Mo) (T := F_Mo) (N := 31) hx hb hG iG_Mo hown hK hP 0 rfl rfl 16 (by decide) (hG _ k_539) (fun _ h9 => h9) rfl d_Mo_transfer_96 ?_
            refine lv_iconst (v := 1) hx hb d_Mo_transfer_99 (by decide) ?_
            refine lv_isub hx hb d_Mo_transfer_100 ?_
            refine lv_topI (y := nI nt) (nI_pred nt) ?_
            exact W.iret (v := (nI nt)) hx hb hr (fun t ht hW => ⟨⟨_, (0, yr, nf, no, (nt + 1), bd, nb, fl, va_up AI 15 (va_up (AI 15) nt c0), va_up (va_up AN 13 (va_up (AN 13) nt j)) 14 (va_up (AN 14) nt k), AB, AL), rfl, (by simp [m_transfer, ixn, bI, ej, ek, c_2, c_4, c_6, c_7, c_8] <;> (repeat' apply And.intro) <;> rfl), by rw [ht]; exact hP, va_K.moved hW.alike hK, hD⟩, hS.F ht⟩) hS.2.2 d_Mo_transfer_101
          · rw [nI_100 hnt] at c_8
            refine lv_bipush (v := (-4)) hx hb d_Mo_transfer_52 (by decide) ?_
            exact W.iret (v := (-4)) hx hb hr (fun t ht hW => ⟨⟨_, (0, yr, nf, no, nt, bd, nb, fl, AI, AN, AB, AL), rfl, (by simp [m_transfer, ixn, bI, ej, ek, c_2, c_4, c_6, c_7, c_8] <;> (repeat' apply And.intro) <;> rfl), by rw [ht]; exact hP, va_K.moved hW.alike hK, hD⟩, hS.F ht⟩) hS.2.2 d_Mo_transfer_54
        · refine lv_bipush (v := (-2)) hx hb d_Mo_transfer_40 (by decide) ?_
          exact W.iret (v := (-2)) hx hb hr (fun t ht hW => ⟨⟨_, (0, yr, nf, no, nt, bd, nb, fl, AI, AN, AB, AL), rfl, (by simp [m_transfer, ixn, bI, ej, ek, c_2, c_4, c_6, c_7] <;> (repeat' apply And.intro) <;> rfl), by rw [ht]; exact hP, va_K.moved hW.alike hK, hD⟩, hS.F ht⟩) hS.2.2 d_Mo_transfer_42
    · refine lv_iconst (v := (-1)) hx hb d_Mo_transfer_21 (by decide) ?_
      exact W.iret (v := (-1)) hx hb hr (fun t ht hW => ⟨⟨_, (0, yr, nf, no, nt, bd, nb, fl, AI, AN, AB, AL), rfl, (by simp [m_transfer, ixn, bI, ej, c_2, c_4] <;> (repeat' apply And.intro) <;> rfl), by rw [ht]; exact hP, va_K.moved hW.alike hK, hD⟩, hS.F ht⟩) hS.2.2 d_Mo_transfer_22

theorem d_Mo_row_0 : decode b_Mo_row 0 = .ok (.aload_n 0, 1) := by decide +kernel
theorem d_Mo_row_1 : decode b_Mo_row 1 = .ok (.iconst 0, 1) := by decide +kernel
theorem d_Mo_row_2 : decode b_Mo_row 2 = .ok (.putfield 91, 3) := by decide +kernel
theorem d_Mo_row_5 : decode b_Mo_row 5 = .ok (.aload_n 0, 1) := by decide +kernel
theorem d_Mo_row_6 : decode b_Mo_row 6 = .ok (.iload_n 1, 1) := by decide +kernel
theorem d_Mo_row_7 : decode b_Mo_row 7 = .ok (.invokevirtual 118, 3) := by decide +kernel
theorem d_Mo_row_10 : decode b_Mo_row 10 = .ok (.ifCond .ne 5, 3) := by decide +kernel
theorem d_Mo_row_13 : decode b_Mo_row 13 = .ok (.iconst (-1), 1) := by decide +kernel
theorem d_Mo_row_14 : decode b_Mo_row 14 = .ok (.ireturn, 1) := by decide +kernel
theorem d_Mo_row_15 : decode b_Mo_row 15 = .ok (.iload_n 2, 1) := by decide +kernel
theorem d_Mo_row_16 : decode b_Mo_row 16 = .ok (.i2l, 1) := by decide +kernel
theorem d_Mo_row_17 : decode b_Mo_row 17 = .ok (.ldc2_w 162, 3) := by decide +kernel
theorem d_Mo_row_20 : decode b_Mo_row 20 = .ok (.ldc2_w 128, 3) := by decide +kernel
theorem d_Mo_row_23 : decode b_Mo_row 23 = .ok (.invokestatic 97, 3) := by decide +kernel
theorem d_Mo_row_26 : decode b_Mo_row 26 = .ok (.ifCond .ne 6, 3) := by decide +kernel
theorem d_Mo_row_29 : decode b_Mo_row 29 = .ok (.bipush (-2), 2) := by decide +kernel
theorem d_Mo_row_31 : decode b_Mo_row 31 = .ok (.ireturn, 1) := by decide +kernel
theorem d_Mo_row_32 : decode b_Mo_row 32 = .ok (.aload_n 0, 1) := by decide +kernel
theorem d_Mo_row_33 : decode b_Mo_row 33 = .ok (.getfield 164, 3) := by decide +kernel
theorem d_Mo_row_36 : decode b_Mo_row 36 = .ok (.bipush 20, 2) := by decide +kernel
theorem d_Mo_row_38 : decode b_Mo_row 38 = .ok (.if_icmp .ne 6, 3) := by decide +kernel
theorem d_Mo_row_41 : decode b_Mo_row 41 = .ok (.bipush (-4), 2) := by decide +kernel
theorem d_Mo_row_43 : decode b_Mo_row 43 = .ok (.ireturn, 1) := by decide +kernel
theorem d_Mo_row_44 : decode b_Mo_row 44 = .ok (.aload_n 0, 1) := by decide +kernel
theorem d_Mo_row_45 : decode b_Mo_row 45 = .ok (.getfield 79, 3) := by decide +kernel
theorem d_Mo_row_48 : decode b_Mo_row 48 = .ok (.aload_n 0, 1) := by decide +kernel
theorem d_Mo_row_49 : decode b_Mo_row 49 = .ok (.getfield 164, 3) := by decide +kernel
theorem d_Mo_row_52 : decode b_Mo_row 52 = .ok (.iload_n 1, 1) := by decide +kernel
theorem d_Mo_row_53 : decode b_Mo_row 53 = .ok (.iastore, 1) := by decide +kernel
theorem d_Mo_row_54 : decode b_Mo_row 54 = .ok (.aload_n 0, 1) := by decide +kernel
theorem d_Mo_row_55 : decode b_Mo_row 55 = .ok (.getfield 82, 3) := by decide +kernel
theorem d_Mo_row_58 : decode b_Mo_row 58 = .ok (.aload_n 0, 1) := by decide +kernel
theorem d_Mo_row_59 : decode b_Mo_row 59 = .ok (.getfield 164, 3) := by decide +kernel
theorem d_Mo_row_62 : decode b_Mo_row 62 = .ok (.iload_n 2, 1) := by decide +kernel
theorem d_Mo_row_63 : decode b_Mo_row 63 = .ok (.iastore, 1) := by decide +kernel
theorem d_Mo_row_64 : decode b_Mo_row 64 = .ok (.aload_n 0, 1) := by decide +kernel
theorem d_Mo_row_65 : decode b_Mo_row 65 = .ok (.dup, 1) := by decide +kernel
theorem d_Mo_row_66 : decode b_Mo_row 66 = .ok (.getfield 164, 3) := by decide +kernel
theorem d_Mo_row_69 : decode b_Mo_row 69 = .ok (.iconst 1, 1) := by decide +kernel
theorem d_Mo_row_70 : decode b_Mo_row 70 = .ok (.iadd, 1) := by decide +kernel
theorem d_Mo_row_71 : decode b_Mo_row 71 = .ok (.putfield 164, 3) := by decide +kernel
theorem d_Mo_row_74 : decode b_Mo_row 74 = .ok (.aload_n 0, 1) := by decide +kernel
theorem d_Mo_row_75 : decode b_Mo_row 75 = .ok (.getfield 164, 3) := by decide +kernel
theorem d_Mo_row_78 : decode b_Mo_row 78 = .ok (.ireturn, 1) := by decide +kernel
set_option maxHeartbeats 4000000 in
set_option maxRecDepth 100000 in
theorem c_Mo_row (l : Launch) (dC : Nat → ClassId) (dI : Nat → Nat → Nat) (ad : Nat → Nat) (cA : Nat → ClassId) (th yr : Int32) (nf no nt : Nat) (bd : Int32) (nb : Nat) (fl : Int32) (AI : Nat → Nat → Int32) (AN : Nat → Nat → Nat) (AB : Nat → Nat → Bool) (AL : Nat → Nat → Int64) (sz : Nat) (fd c0 : Int32) (hI : InvM nf no nt nb AI AN) : Met l y_Mo_row w_Mo_row { frames := 2, cells := 0, slots := 0, locals := 46 } (mu_P (dC, dI) classes (mtys cA) (mw ad cA th yr nf no nt bd nb fl AI AN AB AL) sz [.ref (ad 0), .int fd, .int c0]) (va_Qi (fun r u => (r, u) = m_row (th, yr, nf, no, nt, bd, nb, fl, AI, AN, AB, AL) fd c0) (mu_B (dC, dI) classes (mtys cA) (va_A (mw ad cA th yr nf no nt bd nb fl AI AN AB AL) sz) (mwS ad cA)) (va_A (mw ad cA th yr nf no nt bd nb fl AI AN AB AL) sz)) 0 0 (va_A (mw ad cA th yr nf no nt bd nb fl AI AN AB AL) sz) := by
  refine Met.ofW (cc := b_Mo_row) (maxL := 3) (ret := (some .int)) (by decide) rfl ?_
  intro p e s m args below meth c s₁ B hml hv
  obtain ⟨rfl, hsz, hP, hK, hD0, hN⟩ := hv
  have hx := B.exec
  have hb := B.bytes
  have hr := B.returns
  have hts := atoms_spec (ws := w_Mo_row) B.pre
  have hG := fun (w : Cond) (h : w ∈ wG) => hts w (List.mem_cons_of_mem _ h)
  have hown : s.vm.findClass R_Mo = some m.cls := findClass_of_methodNamed B.named
  have hlocks := B.notSynchronized
  subst hsz
  have hD := hD0.self (sz := s.heap.size)
  generalize hAe : va_A (mw ad cA th yr nf no nt bd nb fl AI AN AB AL) s.heap.size = A at hD ⊢
  have hA : ∀ q : Nat, s.heap.size ≤ q → A q := fun q h => by rw [← hAe]; exact Or.inr h
  have hS : va_S A s.heap s.heap [] := va_S.rf
  have hP : va_P (dC, dI) classes (mw ad cA th yr nf no nt bd nb fl AI AN AB AL) s.heap := hP
  have hl := lv_entry ([.ref (ad 0), .int fd, .int c0]) (n := 3) (Nat.le_of_ble_eq_true rfl)
  rw [lg_entry_eq]
  generalize (lg_sl ([.ref (ad 0), .int fd, .int c0]) ++ List.replicate (3 - (lg_sl ([.ref (ad 0), .int fd, .int c0])).length) Slot.unset).toArray = ls at hl ⊢
  have hl : lv_has ls 3 [(0, .ref (ad 0)), (1, .int fd), (2, .int c0)] := hl
  obtain ⟨hnf, hno, hnt, hnb, hfu, hft, hbf, hrw, hce, hdn⟩ := id hI
  refine lv_aload_n hx hb d_Mo_row_0 rfl (lv_at hl 0 rfl) ?_
  refine lv_iconst (v := 0) hx hb d_Mo_row_1 (by decide) ?_
  refine va_put (D := (dC, dI)) (ci := 7) (v := .int 0) (ty := .int) (C := R_Mo) (T := F_Mo) (N := 31) hx hb hG iG_Mo t_Mo t_Mo_ok n_Mo hown hK hP hD hS 0 rfl rfl 0 (by decide) (hG _ k_523) (fun _ h9 => h9) rfl (by decide +kernel) rfl rfl (Nat.le_of_ble_eq_true rfl) d_Mo_row_2 (fun H locs hP hD hS => ?_)
  have hP : va_P (dC, dI) classes (mw ad cA 0 yr nf no nt bd nb fl AI AN AB AL) H := hP
  have hD : va_D A (mw ad cA 0 yr nf no nt bd nb fl AI AN AB AL) := hD
  refine lv_aload_n hx hb d_Mo_row_5 rfl (lv_at hl 0 rfl) ?_
  refine lv_iload_n hx hb d_Mo_row_6 rfl (lv_at hl 1 rfl) ?_
  refine rd_calli (va_runV (As := [.int fd]) (rest := []) ⟨hx, hb, hml, hown, hts⟩ (c_Mo_isFund l dC dI ad cA 0 yr nf no nt bd nb fl AI AN AB AL fd) (cwV 1 hts (gd_V k_636 k_638 k_7 k_17 k_639) rfl rfl rfl (by decide +kernel) ⟨Nat.le_of_ble_eq_true rfl, Nat.le_of_ble_eq_true rfl⟩) (rd_preV 0 hK hN hP rfl rfl) rfl rfl hl.1 rfl (lv_room (Nat.le_of_ble_eq_true rfl)) d_Mo_row_7 ⟨Nat.zero_le _, Nat.zero_le _⟩) (fun r_1 hr_1 => ?_)
  subst hr_1
  refine lb_if_ne (tgt := 15) hx hb d_Mo_row_10 (by decide) (fun c_2 => ?_) (fun c_2 => ?_)
  · obtain ⟨j, hj, rfl⟩ := inN_of (n := nf) (by omega) c_2
    have ej : (nI j).toNatClampNeg = j := nI_clamp (by omega)
    refine lv_iload_n hx hb d_Mo_row_15 rfl (lv_at hl 2 rfl) ?_
    refine lv_i2l hx hb d_Mo_row_16 rfl ?_
    refine lv_ldc2 (own := R_Mo) (v := (-1000000000)) hx hb hown (hG _ k_710) d_Mo_row_17 ?_
    refine lv_ldc2 (own := R_Mo) (v := 1000000000) hx hb hown (hG _ k_658) d_Mo_row_20 ?_
    refine rd_calli (va_runS (As := [.long (c0.toInt64), .long (-1000000000), .long 1000000000]) (rest := []) ⟨hx, hb, hml, hown, hts⟩ (c_Mo_in l dC dI (mtys cA) (mw ad cA 0 yr nf no nt bd nb fl AI AN AB AL) (c0.toInt64) (-1000000000) 1000000000) (cwS 3 hts (gd_S k_629 k_630 k_17 k_631) rfl rfl rfl (by decide +kernel) ⟨Nat.le_of_ble_eq_true rfl, Nat.le_of_ble_eq_true rfl⟩) (rd_preS hK hN hP) rfl rfl hl.1 rfl (lv_room (Nat.le_of_ble_eq_true rfl)) d_Mo_row_23 ⟨Nat.zero_le _, Nat.zero_le _⟩) (fun r_3 hr_3 => ?_)
    subst hr_3
    refine lb_if_ne (tgt := 32) hx hb d_Mo_row_26 (by decide) (fun c_4 => ?_) (fun c_4 => ?_)
    · refine lv_aload_n hx hb d_Mo_row_32 rfl (lv_at hl 0 rfl) ?_
      refine va_get (D := (dC, dI)) (ci := 7) (v := .int (nI nb)) (C := R_Mo) (T := F_Mo) (N := 31) hx hb hG iG_Mo hown hK hP 0 rfl rfl 27 (by decide) (hG _ k_550) (fun _ h9 => h9) rfl d_Mo_row_33 ?_
      refine lv_bipush (v := 20) hx hb d_Mo_row_36 (by decide) ?_
      refine lv_icmp_ne (tgt := 44) hx hb d_Mo_row_38 (by decide) (fun c_5 => ?_) (fun c_5 => ?_)
      · rw [nI_20 hnb] at c_5
        refine lv_aload_n hx hb d_Mo_row_44 rfl (lv_at hl 0 rfl) ?_
        refine va_get (D := (dC, dI)) (ci := 7) (v := .ref (ad 22)) (C := R_Mo) (T := F_Mo) (N := 31) hx hb hG iG_Mo hown hK hP 0 rfl rfl 28 (by decide) (hG _ k_551) (fun _ h9 => h9) rfl d_Mo_row_45 ?_
        refine lv_aload_n hx hb d_Mo_row_48 rfl (lv_at hl 0 rfl) ?_
        refine va_get (D := (dC, dI)) (ci := 7) (v := .int (nI nb)) (C := R_Mo) (T := F_Mo) (N := 31) hx hb hG iG_Mo hown hK hP 0 rfl rfl 27 (by decide) (hG _ k_550) (fun _ h9 => h9) rfl d_Mo_row_49 ?_
        refine lv_iload_n hx hb d_Mo_row_52 rfl (lv_at hl 1 rfl) ?_
        refine rn_iast (n := 20) (j := nb) (g := AN 22) (b := j) hx hb hK hP hD hS 22 21 rfl rfl (by omega) (by decide) d_Mo_row_53 (fun H locs hP hD hS => ?_)
        have hP : va_P (dC, dI) classes (mw ad cA 0 yr nf no nt bd nb fl AI (va_up AN 22 (va_up (AN 22) nb j)) AB AL) H := hP
        have hD : va_D A (mw ad cA 0 yr nf no nt bd nb fl AI (va_up AN 22 (va_up (AN 22) nb j)) AB AL) := hD
        refine lv_aload_n hx hb d_Mo_row_54 rfl (lv_at hl 0 rfl) ?_
        refine va_get (D := (dC, dI)) (ci := 7) (v := .ref (ad 23)) (C := R_Mo) (T := F_Mo) (N := 31) hx hb hG iG_Mo hown hK hP 0 rfl rfl 29 (by decide) (hG _ k_552) (fun _ h9 => h9) rfl d_Mo_row_55 ?_
        refine lv_aload_n hx hb d_Mo_row_58 rfl (lv_at hl 0 rfl) ?_
        refine va_get (D := (dC, dI)) (ci := 7) (v := .int (nI nb)) (C := R_Mo) (T := F_Mo) (N := 31) hx hb hG iG_Mo hown hK hP 0 rfl rfl 27 (by decide) (hG _ k_550) (fun _ h9 => h9) rfl d_Mo_row_59 ?_
        refine lv_iload_n hx hb d_Mo_row_62 rfl (lv_at hl 2 rfl) ?_
        refine ra_iast (n := 20) (j := nb) (f := AI 23) hx hb hK hP hD hS 23 22 rfl rfl (by omega) (by decide) d_Mo_row_63 (fun H locs hP hD hS => ?_)
        have hP : va_P (dC, dI) classes (mw ad cA 0 yr nf no nt bd nb fl (va_up AI 23 (va_up (AI 23) nb c0)) (va_up AN 22 (va_up (AN 22) nb j)) AB AL) H := hP
        have hD : va_D A (mw ad cA 0 yr nf no nt bd nb fl (va_up AI 23 (va_up (AI 23) nb c0)) (va_up AN 22 (va_up (AN 22) nb j)) AB AL) := hD
        refine lv_aload_n hx hb d_Mo_row_64 rfl (lv_at hl 0 rfl) ?_
        refine lv_dup hx hb d_Mo_row_65 rfl ?_
        refine va_get (D := (dC, dI)) (ci := 7) (v := .int (nI nb)) (C := R_Mo) (T := F_Mo) (N := 31) hx hb hG iG_Mo hown hK hP 0 rfl rfl 27 (by decide) (hG _ k_550) (fun _ h9 => h9) rfl d_Mo_row_66 ?_
        refine lv_iconst (v := 1) hx hb d_Mo_row_69 (by decide) ?_
        refine lv_iadd hx hb d_Mo_row_70 ?_
        refine lv_topI (y := nI (nb + 1)) (nI_add nb 1) ?_
        refine va_put (D := (dC, dI)) (ci := 7) (v := .int (nI (nb + 1))) (ty := .int) (C := R_Mo) (T := F_Mo) (N := 31) hx hb hG iG_Mo t_Mo t_Mo_ok n_Mo hown hK hP hD hS 0 rfl rfl 27 (by decide) (hG _ k_550) (fun _ h9 => h9) rfl (by decide +kernel) rfl rfl (Nat.le_of_ble_eq_true rfl) d_Mo_row_71 (fun H locs hP hD hS => ?_)
        have hP : va_P (dC, dI) classes (mw ad cA 0 yr nf no nt bd (nb + 1) fl (va_up AI 23 (va_up (AI 23) nb c0)) (va_up AN 22 (va_up (AN 22) nb j)) AB AL) H := hP
        have hD : va_D A (mw ad cA 0 yr nf no nt bd (nb + 1) fl (va_up AI 23 (va_up (AI 23) nb c0)) (va_up AN 22 (va_up (AN 22) nb j)) AB AL) := hD
        refine lv_aload_n hx hb d_Mo_row_74 rfl (lv_at hl 0 rfl) ?_
        refine va_get (D := (dC, dI)) (ci := 7) (v := .int (nI (nb + 1))) (C := R_Mo) (T := F_Mo) (N := 31) hx hb hG iG_Mo hown hK hP 0 rfl rfl 27 (by decide) (hG _ k_550) (fun _ h9 => h9) rfl d_Mo_row_75 ?_
        exact W.iret (v := (nI (nb + 1))) hx hb hr (fun t ht hW => ⟨⟨_, (0, yr, nf, no, nt, bd, (nb + 1), fl, va_up AI 23 (va_up (AI 23) nb c0), va_up AN 22 (va_up (AN 22) nb j), AB, AL), rfl, (by simp [m_row, ixn, bI, ej, c_2, c_4, c_5] <;> (repeat' apply And.intro) <;> rfl), by rw [ht]; exact hP, va_K.moved hW.alike hK, hD⟩, hS.F ht⟩) hS.2.2 d_Mo_row_78
      · rw [nI_20 hnb] at c_5
        refine lv_bipush (v := (-4)) hx hb d_Mo_row_41 (by decide) ?_
        exact W.iret (v := (-4)) hx hb hr (fun t ht hW => ⟨⟨_, (0, yr, nf, no, nt, bd, nb, fl, AI, AN, AB, AL), rfl, (by simp [m_row, ixn, bI, ej, c_2, c_4, c_5] <;> (repeat' apply And.intro) <;> rfl), by rw [ht]; exact hP, va_K.moved hW.alike hK, hD⟩, hS.F ht⟩) hS.2.2 d_Mo_row_43
    · refine lv_bipush (v := (-2)) hx hb d_Mo_row_29 (by decide) ?_
      exact W.iret (v := (-2)) hx hb hr (fun t ht hW => ⟨⟨_, (0, yr, nf, no, nt, bd, nb, fl, AI, AN, AB, AL), rfl, (by simp [m_row, ixn, bI, ej, c_2, c_4] <;> (repeat' apply And.intro) <;> rfl), by rw [ht]; exact hP, va_K.moved hW.alike hK, hD⟩, hS.F ht⟩) hS.2.2 d_Mo_row_31
  · refine lv_iconst (v := (-1)) hx hb d_Mo_row_13 (by decide) ?_
    exact W.iret (v := (-1)) hx hb hr (fun t ht hW => ⟨⟨_, (0, yr, nf, no, nt, bd, nb, fl, AI, AN, AB, AL), rfl, (by simp [m_row, ixn, bI, c_2] <;> (repeat' apply And.intro) <;> rfl), by rw [ht]; exact hP, va_K.moved hW.alike hK, hD⟩, hS.F ht⟩) hS.2.2 d_Mo_row_14
end
section
theorem ne0_64 {x : Int32} (h : 1 ≤ x.toInt) : ¬ x.toInt64 = 0 := by
  intro q
  have := congrArg Int64.toInt q
  rw [Int32.toInt_toInt64] at this
  have h0 : (0 : Int64).toInt = 0 := rfl
  omega
theorem lst_lt {P : Nat → Bool} {n r : Nat} (h : lst_ P n = some r) : r < n := by
  induction n with
  | zero => simp [lst_] at h
  | succ n ih =>
    simp only [lst_] at h
    split at h
    · cases h; omega
    · have := ih h; omega
theorem nI_le100 {i : Nat} (h : i ≤ 100) : (100 : Int32) ≤ nI i ↔ 100 ≤ i := nI_leI (a := 100) (by decide) (by omega)

theorem d_Mo_rowOn_0 : decode b_Mo_rowOn 0 = .ok (.iconst (-1), 1) := by decide +kernel
theorem d_Mo_rowOn_1 : decode b_Mo_rowOn 1 = .ok (.istore_n 3, 1) := by decide +kernel
theorem d_Mo_rowOn_2 : decode b_Mo_rowOn 2 = .ok (.iconst 0, 1) := by decide +kernel
theorem d_Mo_rowOn_3 : decode b_Mo_rowOn 3 = .ok (.istore 4, 2) := by decide +kernel
theorem d_Mo_rowOn_5 : decode b_Mo_rowOn 5 = .ok (.iload 4, 2) := by decide +kernel
theorem d_Mo_rowOn_7 : decode b_Mo_rowOn 7 = .ok (.aload_n 0, 1) := by decide +kernel
theorem d_Mo_rowOn_8 : decode b_Mo_rowOn 8 = .ok (.getfield 67, 3) := by decide +kernel
theorem d_Mo_rowOn_11 : decode b_Mo_rowOn 11 = .ok (.iload_n 1, 1) := by decide +kernel
theorem d_Mo_rowOn_12 : decode b_Mo_rowOn 12 = .ok (.iaload, 1) := by decide +kernel
theorem d_Mo_rowOn_13 : decode b_Mo_rowOn 13 = .ok (.if_icmp .ge 37, 3) := by decide +kernel
theorem d_Mo_rowOn_16 : decode b_Mo_rowOn 16 = .ok (.aload_n 0, 1) := by decide +kernel
theorem d_Mo_rowOn_17 : decode b_Mo_rowOn 17 = .ok (.getfield 70, 3) := by decide +kernel
theorem d_Mo_rowOn_20 : decode b_Mo_rowOn 20 = .ok (.bipush 10, 2) := by decide +kernel
theorem d_Mo_rowOn_22 : decode b_Mo_rowOn 22 = .ok (.iload_n 1, 1) := by decide +kernel
theorem d_Mo_rowOn_23 : decode b_Mo_rowOn 23 = .ok (.imul, 1) := by decide +kernel
theorem d_Mo_rowOn_24 : decode b_Mo_rowOn 24 = .ok (.iload 4, 2) := by decide +kernel
theorem d_Mo_rowOn_26 : decode b_Mo_rowOn 26 = .ok (.iadd, 1) := by decide +kernel
theorem d_Mo_rowOn_27 : decode b_Mo_rowOn 27 = .ok (.iaload, 1) := by decide +kernel
theorem d_Mo_rowOn_28 : decode b_Mo_rowOn 28 = .ok (.iload_n 2, 1) := by decide +kernel
theorem d_Mo_rowOn_29 : decode b_Mo_rowOn 29 = .ok (.if_icmp .gt 13, 3) := by decide +kernel
theorem d_Mo_rowOn_32 : decode b_Mo_rowOn 32 = .ok (.bipush 10, 2) := by decide +kernel
theorem d_Mo_rowOn_34 : decode b_Mo_rowOn 34 = .ok (.iload_n 1, 1) := by decide +kernel
theorem d_Mo_rowOn_35 : decode b_Mo_rowOn 35 = .ok (.imul, 1) := by decide +kernel
theorem d_Mo_rowOn_36 : decode b_Mo_rowOn 36 = .ok (.iload 4, 2) := by decide +kernel
theorem d_Mo_rowOn_38 : decode b_Mo_rowOn 38 = .ok (.iadd, 1) := by decide +kernel
theorem d_Mo_rowOn_39 : decode b_Mo_rowOn 39 = .ok (.goto 4, 3) := by decide +kernel
theorem d_Mo_rowOn_42 : decode b_Mo_rowOn 42 = .ok (.iload_n 3, 1) := by decide +kernel
theorem d_Mo_rowOn_43 : decode b_Mo_rowOn 43 = .ok (.istore_n 3, 1) := by decide +kernel
theorem d_Mo_rowOn_44 : decode b_Mo_rowOn 44 = .ok (.iinc 4 1, 3) := by decide +kernel
theorem d_Mo_rowOn_47 : decode b_Mo_rowOn 47 = .ok (.goto (-42), 3) := by decide +kernel
theorem d_Mo_rowOn_50 : decode b_Mo_rowOn 50 = .ok (.iload_n 3, 1) := by decide +kernel
theorem d_Mo_rowOn_51 : decode b_Mo_rowOn 51 = .ok (.ireturn, 1) := by decide +kernel
set_option maxHeartbeats 4000000 in
set_option maxRecDepth 100000 in
theorem lp_Mo_rowOn {p : Program} {l : Launch} {e : Env} {s : State} {m : MethodId} {args : Array Value} {below : List Frame} {meth : Method} {c : Code} {Q : State → Prop} {R : Room} {H : Heap} {locs : List Loc} {cells slots : Nat} {dC : Nat → ClassId} {dI : Nat → Nat → Nat} {ad : Nat → Nat} {cA : Nat → ClassId} {th yr : Int32} {nf no nt : Nat} {bd : Int32} {nb : Nat} {fl : Int32} {AI : Nat → Nat → Int32} {AN : Nat → Nat → Nat} {AB : Nat → Nat → Bool} {AL : Nat → Nat → Int64} (hx : p.tables.exec = Jvm.exec) (hb : c.code = b_Mo_rowOn) (hml : c.maxLocals = 5) (hown : s.vm.findClass R_Mo = some m.cls) (hts : ∀ w ∈ w_Mo_rowOn, w.before args s = true) (hK : va_K (dC, dI) classes (mtys cA) s) (hP : va_P (dC, dI) classes (mw ad cA th yr nf no nt bd nb fl AI AN AB AL) H) (k : Nat) (hk : k < 10) (hrk : AN 18 k ≤ 10) (on : Int32)
    (exit : ∀ ls : Array Slot, lv_has ls 5 [(4, .int (nI (AN 18 k))), (3, .int (oI ((lst_ (fun r => decide (AI 19 (10 * k + r) ≤ on)) (AN 18 k)).map (fun r => 10 * k + r)))), (0, .ref (ad 0)), (1, .int (nI k)), (2, .int on)] → W p l e R s m args below meth c H locs cells slots Q (F0 m 50 ls [])) :
    ∀ n i : Nat, i ≤ AN 18 k → AN 18 k + 1 ≤ i + n → ∀ ls : Array Slot, lv_has ls 5 [(4, .int (nI i)), (3, .int (oI ((lst_ (fun r => decide (AI 19 (10 * k + r) ≤ on)) i).map (fun r => 10 * k + r)))), (0, .ref (ad 0)), (1, .int (nI k)), (2, .int on)] → W p l e R s m args below meth c H locs cells slots Q (F0 m 5 ls []) := by
  have hG := fun (w : Cond) (h : w ∈ wG) => hts w (List.mem_cons_of_mem _ h)
  intro n
  induction n with
  | zero =>
    intro i h1 h2
    omega
  | succ n ih =>
    intro i hi hin ls hl
    refine lv_iload hx hb d_Mo_rowOn_5 (lv_at hl 0 rfl) ?_
    refine lv_aload_n hx hb d_Mo_rowOn_7 rfl (lv_at hl 2 rfl) ?_
    refine va_get (D := (dC, dI)) (ci := 7) (v := .ref (ad 18)) (C := R_Mo) (T := F_Mo) (N := 31) hx hb hG iG_Mo hown hK hP 0 rfl rfl 23 (by decide) (hG _ k_546) (fun _ h9 => h9) rfl d_Mo_rowOn_8 ?_
    refine lv_iload_n hx hb d_Mo_rowOn_11 rfl (lv_at hl 3 rfl) ?_
    refine rn_iald (n := 10) (j := k) (g := AN 18) hx hb hK hP 18 17 rfl rfl (by omega) (by decide) d_Mo_rowOn_12 ?_
    refine lv_icmp_ge (tgt := 50) hx hb d_Mo_rowOn_13 (by decide) (fun c_1 => ?_) (fun c_1 => ?_)
    · obtain rfl : i = AN 18 k := by have := (nI_leI (by omega) (by omega)).mp c_1; omega
      exact exit ls (lv_sub hl [0, 1, 2, 3, 4] rfl)
    · have hlt : i < AN 18 k := by have h9 := c_1; rw [nI_leI (by omega) (by omega)] at h9; omega
      refine lv_aload_n hx hb d_Mo_rowOn_16 rfl (lv_at hl 2 rfl) ?_
      refine va_get (D := (dC, dI)) (ci := 7) (v := .ref (ad 19)) (C := R_Mo) (T := F_Mo) (N := 31) hx hb hG iG_Mo hown hK hP 0 rfl rfl 24 (by decide) (hG _ k_547) (fun _ h9 => h9) rfl d_Mo_rowOn_17 ?_
      refine lv_bipush (v := 10) hx hb d_Mo_rowOn_20 (by decide) ?_
      refine lv_iload_n hx hb d_Mo_rowOn_22 rfl (lv_at hl 3 rfl) ?_
      refine lv_imul hx hb d_Mo_rowOn_23 ?_
      refine lv_topI (y := nI (10 * k)) (pk_mul 10 k) ?_
      refine lv_iload hx hb d_Mo_rowOn_24 (lv_at hl 0 rfl) ?_
      refine lv_iadd hx hb d_Mo_rowOn_26 ?_
      refine lv_topI (y := nI ((10 * k) + i)) (nI_add (10 * k) i) ?_
      refine ra_iald (n := 100) (j := ((10 * k) + i)) (f := AI 19) hx hb hK hP 19 18 rfl rfl (by omega) (by decide) d_Mo_rowOn_27 ?_
      refine lv_iload_n hx hb d_Mo_rowOn_28 rfl (lv_at hl 4 rfl) ?_
      refine lv_icmp_gt (tgt := 42) hx hb d_Mo_rowOn_29 (by decide) (fun c_2 => ?_) (fun c_2 => ?_)
      · rw [← Int32.not_le] at c_2
        refine lv_iload_n hx hb d_Mo_rowOn_42 rfl (lv_at hl 1 rfl) ?_
        refine lv_topI (y := oI ((lst_ (fun r => decide (AI 19 (10 * k + r) ≤ on)) (i + 1)).map (fun r => 10 * k + r))) (by simp [lst_, oI, c_2]) ?_
        refine lv_istore_n (lv' := [(3, .int (oI ((lst_ (fun r => decide (AI 19 (10 * k + r) ≤ on)) (i + 1)).map (fun r => 10 * k + r)))), (4, .int (nI i)), (0, .ref (ad 0)), (1, .int (nI k)), (2, .int on)]) hx hb d_Mo_rowOn_43 rfl hl (by decide) rfl (fun ls hl => ?_)
        refine lv_iinc (v := nI (i + 1)) (lv' := [(4, .int (nI (i + 1))), (3, .int (oI ((lst_ (fun r => decide (AI 19 (10 * k + r) ≤ on)) (i + 1)).map (fun r => 10 * k + r)))), (0, .ref (ad 0)), (1, .int (nI k)), (2, .int on)]) hx hb d_Mo_rowOn_44 hl (k := 1) rfl (nI_1 i) (by decide) rfl (fun ls hl => ?_)
        refine lv_goto (tgt := 5) hx hb d_Mo_rowOn_47 (by decide) ?_
        exact ih (i + 1) (by omega) (by omega) ls (lv_sub hl [0, 1, 2, 3, 4] rfl)
      · rw [Int32.not_lt] at c_2
        refine lv_bipush (v := 10) hx hb d_Mo_rowOn_32 (by decide) ?_
        refine lv_iload_n hx hb d_Mo_rowOn_34 rfl (lv_at hl 3 rfl) ?_
        refine lv_imul hx hb d_Mo_rowOn_35 ?_
        refine lv_topI (y := nI (10 * k)) (pk_mul 10 k) ?_
        refine lv_iload hx hb d_Mo_rowOn_36 (lv_at hl 0 rfl) ?_
        refine lv_iadd hx hb d_Mo_rowOn_38 ?_
        refine lv_topI (y := nI ((10 * k) + i)) (nI_add (10 * k) i) ?_
        refine lv_goto (tgt := 43) hx hb d_Mo_rowOn_39 (by decide) ?_
        refine lv_topI (y := oI ((lst_ (fun r => decide (AI 19 (10 * k + r) ≤ on)) (i + 1)).map (fun r => 10 * k + r))) (by simp [lst_, oI, c_2]) ?_
        refine lv_istore_n (lv' := [(3, .int (oI ((lst_ (fun r => decide (AI 19 (10 * k + r) ≤ on)) (i + 1)).map (fun r => 10 * k + r)))), (4, .int (nI i)), (0, .ref (ad 0)), (1, .int (nI k)), (2, .int on)]) hx hb d_Mo_rowOn_43 rfl hl (by decide) rfl (fun ls hl => ?_)
        refine lv_iinc (v := nI (i + 1)) (lv' := [(4, .int (nI (i + 1))), (3, .int (oI ((lst_ (fun r => decide (AI 19 (10 * k + r) ≤ on)) (i + 1)).map (fun r => 10 * k + r)))), (0, .ref (ad 0)), (1, .int (nI k)), (2, .int on)]) hx hb d_Mo_rowOn_44 hl (k := 1) rfl (nI_1 i) (by decide) rfl (fun ls hl => ?_)
        refine lv_goto (tgt := 5) hx hb d_Mo_rowOn_47 (by decide) ?_
        exact ih (i + 1) (by omega) (by omega) ls (lv_sub hl [0, 1, 2, 3, 4] rfl)
set_option maxHeartbeats 4000000 in
set_option maxRecDepth 100000 in
theorem c_Mo_rowOn (l : Launch) (dC : Nat → ClassId) (dI : Nat → Nat → Nat) (ad : Nat → Nat) (cA : Nat → ClassId) (th yr : Int32) (nf no nt : Nat) (bd : Int32) (nb : Nat) (fl : Int32) (AI : Nat → Nat → Int32) (AN : Nat → Nat → Nat) (AB : Nat → Nat → Bool) (AL : Nat → Nat → Int64) (k : Nat) (on : Int32) (hk : k < 10) (hrk : AN 18 k ≤ 10) : Met l y_Mo_rowOn w_Mo_rowOn { frames := 0, cells := 0, slots := 0, locals := 0 } (rd_P (dC, dI) classes (mtys cA) (mw ad cA th yr nf no nt bd nb fl AI AN AB AL) [.ref (ad 0), .int (nI k), .int on]) (vp_Si (fun r => r = oI ((m_rowOn AI AN k on).map (fun r => 10 * k + r)))) 0 0 (fun _ => False) := by
  refine Met.ofW (cc := b_Mo_rowOn) (maxL := 5) (ret := (some .int)) (by decide) rfl ?_
  intro p e s m args below meth c s₁ B hml hv
  obtain ⟨rfl, hP, hK, hN⟩ := hv
  have hx := B.exec
  have hb := B.bytes
  have hr := B.returns
  have hts := atoms_spec (ws := w_Mo_rowOn) B.pre
  have hG := fun (w : Cond) (h : w ∈ wG) => hts w (List.mem_cons_of_mem _ h)
  have hown : s.vm.findClass R_Mo = some m.cls := findClass_of_methodNamed B.named
  have hlocks := B.notSynchronized
  have hl := lv_entry ([.ref (ad 0), .int (nI k), .int on]) (n := 5) (Nat.le_of_ble_eq_true rfl)
  rw [lg_entry_eq]
  generalize (lg_sl ([.ref (ad 0), .int (nI k), .int on]) ++ List.replicate (5 - (lg_sl ([.ref (ad 0), .int (nI k), .int on])).length) Slot.unset).toArray = ls at hl ⊢
  have hl : lv_has ls 5 [(0, .ref (ad 0)), (1, .int (nI k)), (2, .int on)] := hl
  refine lv_iconst (v := (-1)) hx hb d_Mo_rowOn_0 (by decide) ?_
  refine lv_istore_n (lv' := [(3, .int (-1)), (0, .ref (ad 0)), (1, .int (nI k)), (2, .int on)]) hx hb d_Mo_rowOn_1 rfl hl (by decide) rfl (fun ls hl => ?_)
  refine lv_iconst (v := 0) hx hb d_Mo_rowOn_2 (by decide) ?_
  refine lv_istore (lv' := [(4, .int 0), (3, .int (-1)), (0, .ref (ad 0)), (1, .int (nI k)), (2, .int on)]) hx hb d_Mo_rowOn_3 hl (by decide) rfl (fun ls hl => ?_)
  refine lp_Mo_rowOn hx hb hml hown hts hK hP k hk hrk on (fun ls hl => ?_) (AN 18 k + 1) 0 (by omega) (by omega) ls (lv_sub hl [0, 1, 2, 3, 4] rfl)
  refine lv_iload_n hx hb d_Mo_rowOn_50 rfl (lv_at hl 1 rfl) ?_
  exact W.iret (v := (oI ((lst_ (fun r => decide (AI 19 (10 * k + r) ≤ on)) (AN 18 k)).map (fun r => 10 * k + r)))) hx hb hr (fun t ht hW => ⟨_, rfl, rfl, ht⟩) (fun q h => by cases h) d_Mo_rowOn_51

theorem d_Mo_currency_0 : decode b_Mo_currency 0 = .ok (.aload_n 0, 1) := by decide +kernel
theorem d_Mo_currency_1 : decode b_Mo_currency 1 = .ok (.iconst 0, 1) := by decide +kernel
theorem d_Mo_currency_2 : decode b_Mo_currency 2 = .ok (.putfield 91, 3) := by decide +kernel
theorem d_Mo_currency_5 : decode b_Mo_currency 5 = .ok (.iload_n 1, 1) := by decide +kernel
theorem d_Mo_currency_6 : decode b_Mo_currency 6 = .ok (.i2l, 1) := by decide +kernel
theorem d_Mo_currency_7 : decode b_Mo_currency 7 = .ok (.lconst 0, 1) := by decide +kernel
theorem d_Mo_currency_8 : decode b_Mo_currency 8 = .ok (.ldc2_w 137, 3) := by decide +kernel
theorem d_Mo_currency_11 : decode b_Mo_currency 11 = .ok (.invokestatic 97, 3) := by decide +kernel
theorem d_Mo_currency_14 : decode b_Mo_currency 14 = .ok (.ifCond .ne 5, 3) := by decide +kernel
theorem d_Mo_currency_17 : decode b_Mo_currency 17 = .ok (.iconst (-1), 1) := by decide +kernel
theorem d_Mo_currency_18 : decode b_Mo_currency 18 = .ok (.ireturn, 1) := by decide +kernel
theorem d_Mo_currency_19 : decode b_Mo_currency 19 = .ok (.iload_n 2, 1) := by decide +kernel
theorem d_Mo_currency_20 : decode b_Mo_currency 20 = .ok (.i2l, 1) := by decide +kernel
theorem d_Mo_currency_21 : decode b_Mo_currency 21 = .ok (.lconst 0, 1) := by decide +kernel
theorem d_Mo_currency_22 : decode b_Mo_currency 22 = .ok (.ldc2_w 139, 3) := by decide +kernel
theorem d_Mo_currency_25 : decode b_Mo_currency 25 = .ok (.invokestatic 97, 3) := by decide +kernel
theorem d_Mo_currency_28 : decode b_Mo_currency 28 = .ok (.ifCond .eq 28, 3) := by decide +kernel
theorem d_Mo_currency_31 : decode b_Mo_currency 31 = .ok (.iload_n 3, 1) := by decide +kernel
theorem d_Mo_currency_32 : decode b_Mo_currency 32 = .ok (.i2l, 1) := by decide +kernel
theorem d_Mo_currency_33 : decode b_Mo_currency 33 = .ok (.lconst 1, 1) := by decide +kernel
theorem d_Mo_currency_34 : decode b_Mo_currency 34 = .ok (.ldc2_w 157, 3) := by decide +kernel
theorem d_Mo_currency_37 : decode b_Mo_currency 37 = .ok (.invokestatic 97, 3) := by decide +kernel
theorem d_Mo_currency_40 : decode b_Mo_currency 40 = .ok (.ifCond .eq 16, 3) := by decide +kernel
theorem d_Mo_currency_43 : decode b_Mo_currency 43 = .ok (.iload 4, 2) := by decide +kernel
theorem d_Mo_currency_45 : decode b_Mo_currency 45 = .ok (.i2l, 1) := by decide +kernel
theorem d_Mo_currency_46 : decode b_Mo_currency 46 = .ok (.lconst 1, 1) := by decide +kernel
theorem d_Mo_currency_47 : decode b_Mo_currency 47 = .ok (.ldc2_w 157, 3) := by decide +kernel
theorem d_Mo_currency_50 : decode b_Mo_currency 50 = .ok (.invokestatic 97, 3) := by decide +kernel
theorem d_Mo_currency_53 : decode b_Mo_currency 53 = .ok (.ifCond .ne 6, 3) := by decide +kernel
theorem d_Mo_currency_56 : decode b_Mo_currency 56 = .ok (.bipush (-2), 2) := by decide +kernel
theorem d_Mo_currency_58 : decode b_Mo_currency 58 = .ok (.ireturn, 1) := by decide +kernel
theorem d_Mo_currency_59 : decode b_Mo_currency 59 = .ok (.aload_n 0, 1) := by decide +kernel
theorem d_Mo_currency_60 : decode b_Mo_currency 60 = .ok (.getfield 67, 3) := by decide +kernel
theorem d_Mo_currency_63 : decode b_Mo_currency 63 = .ok (.iload_n 1, 1) := by decide +kernel
theorem d_Mo_currency_64 : decode b_Mo_currency 64 = .ok (.iaload, 1) := by decide +kernel
theorem d_Mo_currency_65 : decode b_Mo_currency 65 = .ok (.istore 5, 2) := by decide +kernel
theorem d_Mo_currency_67 : decode b_Mo_currency 67 = .ok (.iload 5, 2) := by decide +kernel
theorem d_Mo_currency_69 : decode b_Mo_currency 69 = .ok (.ifCond .le 24, 3) := by decide +kernel
theorem d_Mo_currency_72 : decode b_Mo_currency 72 = .ok (.aload_n 0, 1) := by decide +kernel
theorem d_Mo_currency_73 : decode b_Mo_currency 73 = .ok (.getfield 70, 3) := by decide +kernel
theorem d_Mo_currency_76 : decode b_Mo_currency 76 = .ok (.bipush 10, 2) := by decide +kernel
theorem d_Mo_currency_78 : decode b_Mo_currency 78 = .ok (.iload_n 1, 1) := by decide +kernel
theorem d_Mo_currency_79 : decode b_Mo_currency 79 = .ok (.imul, 1) := by decide +kernel
theorem d_Mo_currency_80 : decode b_Mo_currency 80 = .ok (.iload 5, 2) := by decide +kernel
theorem d_Mo_currency_82 : decode b_Mo_currency 82 = .ok (.iadd, 1) := by decide +kernel
theorem d_Mo_currency_83 : decode b_Mo_currency 83 = .ok (.iconst 1, 1) := by decide +kernel
theorem d_Mo_currency_84 : decode b_Mo_currency 84 = .ok (.isub, 1) := by decide +kernel
theorem d_Mo_currency_85 : decode b_Mo_currency 85 = .ok (.iaload, 1) := by decide +kernel
theorem d_Mo_currency_86 : decode b_Mo_currency 86 = .ok (.iload_n 2, 1) := by decide +kernel
theorem d_Mo_currency_87 : decode b_Mo_currency 87 = .ok (.if_icmp .lt 6, 3) := by decide +kernel
theorem d_Mo_currency_90 : decode b_Mo_currency 90 = .ok (.bipush (-3), 2) := by decide +kernel
theorem d_Mo_currency_92 : decode b_Mo_currency 92 = .ok (.ireturn, 1) := by decide +kernel
theorem d_Mo_currency_93 : decode b_Mo_currency 93 = .ok (.iload 5, 2) := by decide +kernel
theorem d_Mo_currency_95 : decode b_Mo_currency 95 = .ok (.bipush 10, 2) := by decide +kernel
theorem d_Mo_currency_97 : decode b_Mo_currency 97 = .ok (.if_icmp .ne 6, 3) := by decide +kernel
theorem d_Mo_currency_100 : decode b_Mo_currency 100 = .ok (.bipush (-4), 2) := by decide +kernel
theorem d_Mo_currency_102 : decode b_Mo_currency 102 = .ok (.ireturn, 1) := by decide +kernel
theorem d_Mo_currency_103 : decode b_Mo_currency 103 = .ok (.aload_n 0, 1) := by decide +kernel
theorem d_Mo_currency_104 : decode b_Mo_currency 104 = .ok (.getfield 70, 3) := by decide +kernel
theorem d_Mo_currency_107 : decode b_Mo_currency 107 = .ok (.bipush 10, 2) := by decide +kernel
theorem d_Mo_currency_109 : decode b_Mo_currency 109 = .ok (.iload_n 1, 1) := by decide +kernel
theorem d_Mo_currency_110 : decode b_Mo_currency 110 = .ok (.imul, 1) := by decide +kernel
theorem d_Mo_currency_111 : decode b_Mo_currency 111 = .ok (.iload 5, 2) := by decide +kernel
theorem d_Mo_currency_113 : decode b_Mo_currency 113 = .ok (.iadd, 1) := by decide +kernel
theorem d_Mo_currency_114 : decode b_Mo_currency 114 = .ok (.iload_n 2, 1) := by decide +kernel
theorem d_Mo_currency_115 : decode b_Mo_currency 115 = .ok (.iastore, 1) := by decide +kernel
theorem d_Mo_currency_116 : decode b_Mo_currency 116 = .ok (.aload_n 0, 1) := by decide +kernel
theorem d_Mo_currency_117 : decode b_Mo_currency 117 = .ok (.getfield 73, 3) := by decide +kernel
theorem d_Mo_currency_120 : decode b_Mo_currency 120 = .ok (.bipush 10, 2) := by decide +kernel
theorem d_Mo_currency_122 : decode b_Mo_currency 122 = .ok (.iload_n 1, 1) := by decide +kernel
theorem d_Mo_currency_123 : decode b_Mo_currency 123 = .ok (.imul, 1) := by decide +kernel
theorem d_Mo_currency_124 : decode b_Mo_currency 124 = .ok (.iload 5, 2) := by decide +kernel
theorem d_Mo_currency_126 : decode b_Mo_currency 126 = .ok (.iadd, 1) := by decide +kernel
theorem d_Mo_currency_127 : decode b_Mo_currency 127 = .ok (.iload_n 3, 1) := by decide +kernel
theorem d_Mo_currency_128 : decode b_Mo_currency 128 = .ok (.iastore, 1) := by decide +kernel
theorem d_Mo_currency_129 : decode b_Mo_currency 129 = .ok (.aload_n 0, 1) := by decide +kernel
theorem d_Mo_currency_130 : decode b_Mo_currency 130 = .ok (.getfield 76, 3) := by decide +kernel
theorem d_Mo_currency_133 : decode b_Mo_currency 133 = .ok (.bipush 10, 2) := by decide +kernel
theorem d_Mo_currency_135 : decode b_Mo_currency 135 = .ok (.iload_n 1, 1) := by decide +kernel
theorem d_Mo_currency_136 : decode b_Mo_currency 136 = .ok (.imul, 1) := by decide +kernel
theorem d_Mo_currency_137 : decode b_Mo_currency 137 = .ok (.iload 5, 2) := by decide +kernel
theorem d_Mo_currency_139 : decode b_Mo_currency 139 = .ok (.iadd, 1) := by decide +kernel
theorem d_Mo_currency_140 : decode b_Mo_currency 140 = .ok (.iload 4, 2) := by decide +kernel
theorem d_Mo_currency_142 : decode b_Mo_currency 142 = .ok (.iastore, 1) := by decide +kernel
theorem d_Mo_currency_143 : decode b_Mo_currency 143 = .ok (.aload_n 0, 1) := by decide +kernel
theorem d_Mo_currency_144 : decode b_Mo_currency 144 = .ok (.getfield 67, 3) := by decide +kernel
theorem d_Mo_currency_147 : decode b_Mo_currency 147 = .ok (.iload_n 1, 1) := by decide +kernel
theorem d_Mo_currency_148 : decode b_Mo_currency 148 = .ok (.dup2, 1) := by decide +kernel
theorem d_Mo_currency_149 : decode b_Mo_currency 149 = .ok (.iaload, 1) := by decide +kernel
theorem d_Mo_currency_150 : decode b_Mo_currency 150 = .ok (.iconst 1, 1) := by decide +kernel
theorem d_Mo_currency_151 : decode b_Mo_currency 151 = .ok (.iadd, 1) := by decide +kernel
theorem d_Mo_currency_152 : decode b_Mo_currency 152 = .ok (.iastore, 1) := by decide +kernel
theorem d_Mo_currency_153 : decode b_Mo_currency 153 = .ok (.iconst 1, 1) := by decide +kernel
theorem d_Mo_currency_154 : decode b_Mo_currency 154 = .ok (.ireturn, 1) := by decide +kernel
set_option maxHeartbeats 4000000 in
set_option maxRecDepth 100000 in
theorem c_Mo_currency (l : Launch) (dC : Nat → ClassId) (dI : Nat → Nat → Nat) (ad : Nat → Nat) (cA : Nat → ClassId) (th yr : Int32) (nf no nt : Nat) (bd : Int32) (nb : Nat) (fl : Int32) (AI : Nat → Nat → Int32) (AN : Nat → Nat → Nat) (AB : Nat → Nat → Bool) (AL : Nat → Nat → Int64) (sz : Nat) (c0 d0 u0 v0 : Int32) (hI : InvM nf no nt nb AI AN) : Met l y_Mo_currency w_Mo_currency { frames := 1, cells := 0, slots := 0, locals := 25 } (mu_P (dC, dI) classes (mtys cA) (mw ad cA th yr nf no nt bd nb fl AI AN AB AL) sz [.ref (ad 0), .int c0, .int d0, .int u0, .int v0]) (va_Qi (fun r u => (r, u) = m_currency (th, yr, nf, no, nt, bd, nb, fl, AI, AN, AB, AL) c0 d0 u0 v0) (mu_B (dC, dI) classes (mtys cA) (va_A (mw ad cA th yr nf no nt bd nb fl AI AN AB AL) sz) (mwS ad cA)) (va_A (mw ad cA th yr nf no nt bd nb fl AI AN AB AL) sz)) 0 0 (va_A (mw ad cA th yr nf no nt bd nb fl AI AN AB AL) sz) := by
  refine Met.ofW (cc := b_Mo_currency) (maxL := 6) (ret := (some .int)) (by decide) rfl ?_
  intro p e s m args below meth c s₁ B hml hv
  obtain ⟨rfl, hsz, hP, hK, hD0, hN⟩ := hv
  have hx := B.exec
  have hb := B.bytes
  have hr := B.returns
  have hts := atoms_spec (ws := w_Mo_currency) B.pre
  have hG := fun (w : Cond) (h : w ∈ wG) => hts w (List.mem_cons_of_mem _ h)
  have hown : s.vm.findClass R_Mo = some m.cls := findClass_of_methodNamed B.named
  have hlocks := B.notSynchronized
  subst hsz
  have hD := hD0.self (sz := s.heap.size)
  generalize hAe : va_A (mw ad cA th yr nf no nt bd nb fl AI AN AB AL) s.heap.size = A at hD ⊢
  have hA : ∀ q : Nat, s.heap.size ≤ q → A q := fun q h => by rw [← hAe]; exact Or.inr h
  have hS : va_S A s.heap s.heap [] := va_S.rf
  have hP : va_P (dC, dI) classes (mw ad cA th yr nf no nt bd nb fl AI AN AB AL) s.heap := hP
  have hl := lv_entry ([.ref (ad 0), .int c0, .int d0, .int u0, .int v0]) (n := 6) (Nat.le_of_ble_eq_true rfl)
  rw [lg_entry_eq]
  generalize (lg_sl ([.ref (ad 0), .int c0, .int d0, .int u0, .int v0]) ++ List.replicate (6 - (lg_sl ([.ref (ad 0), .int c0, .int d0, .int u0, .int v0])).length) Slot.unset).toArray = ls at hl ⊢
  have hl : lv_has ls 6 [(0, .ref (ad 0)), (1, .int c0), (2, .int d0), (3, .int u0), (4, .int v0)] := hl
  obtain ⟨hnf, hno, hnt, hnb, hfu, hft, hbf, hrw, hce, hdn⟩ := id hI
  refine lv_aload_n hx hb d_Mo_currency_0 rfl (lv_at hl 0 rfl) ?_
  refine lv_iconst (v := 0) hx hb d_Mo_currency_1 (by decide) ?_
  refine va_put (D := (dC, dI)) (ci := 7) (v := .int 0) (ty := .int) (C := R_Mo) (T := F_Mo) (N := 31) hx hb hG iG_Mo t_Mo t_Mo_ok n_Mo hown hK hP hD hS 0 rfl rfl 0 (by decide) (hG _ k_523) (fun _ h9 => h9) rfl (by decide +kernel) rfl rfl (Nat.le_of_ble_eq_true rfl) d_Mo_currency_2 (fun H locs hP hD hS => ?_)
  have hP : va_P (dC, dI) classes (mw ad cA 0 yr nf no nt bd nb fl AI AN AB AL) H := hP
  have hD : va_D A (mw ad cA 0 yr nf no nt bd nb fl AI AN AB AL) := hD
  refine lv_iload_n hx hb d_Mo_currency_5 rfl (lv_at hl 1 rfl) ?_
  refine lv_i2l hx hb d_Mo_currency_6 rfl ?_
  refine lv_lconst (v := 0) hx hb d_Mo_currency_7 (by decide) ?_
  refine lv_ldc2 (own := R_Mo) (v := 9) hx hb hown (hG _ k_673) d_Mo_currency_8 ?_
  refine rd_calli (va_runS (As := [.long (c0.toInt64), .long 0, .long 9]) (rest := []) ⟨hx, hb, hml, hown, hts⟩ (c_Mo_in l dC dI (mtys cA) (mw ad cA 0 yr nf no nt bd nb fl AI AN AB AL) (c0.toInt64) 0 9) (cwS 3 hts (gd_S k_629 k_630 k_17 k_631) rfl rfl rfl (by decide +kernel) ⟨Nat.le_of_ble_eq_true rfl, Nat.le_of_ble_eq_true rfl⟩) (rd_preS hK hN hP) rfl rfl hl.1 rfl (lv_room (Nat.le_of_ble_eq_true rfl)) d_Mo_currency_11 ⟨Nat.zero_le _, Nat.zero_le _⟩) (fun r_1 hr_1 => ?_)
  subst hr_1
  refine lb_if_ne (tgt := 19) hx hb d_Mo_currency_14 (by decide) (fun c_2 => ?_) (fun c_2 => ?_)
  · obtain ⟨k, hk, rfl⟩ := in9 c_2
    have ek : (nI k).toNatClampNeg = k := nI_clamp (by omega)
    have hrk := hrw k hk
    refine lv_iload_n hx hb d_Mo_currency_19 rfl (lv_at hl 2 rfl) ?_
    refine lv_i2l hx hb d_Mo_currency_20 rfl ?_
    refine lv_lconst (v := 0) hx hb d_Mo_currency_21 (by decide) ?_
    refine lv_ldc2 (own := R_Mo) (v := 100000) hx hb hown (hG _ k_674) d_Mo_currency_22 ?_
    refine rd_calli (va_runS (As := [.long (d0.toInt64), .long 0, .long 100000]) (rest := []) ⟨hx, hb, hml, hown, hts⟩ (c_Mo_in l dC dI (mtys cA) (mw ad cA 0 yr nf no nt bd nb fl AI AN AB AL) (d0.toInt64) 0 100000) (cwS 3 hts (gd_S k_629 k_630 k_17 k_631) rfl rfl rfl (by decide +kernel) ⟨Nat.le_of_ble_eq_true rfl, Nat.le_of_ble_eq_true rfl⟩) (rd_preS hK hN hP) rfl rfl hl.1 rfl (lv_room (Nat.le_of_ble_eq_true rfl)) d_Mo_currency_25 ⟨Nat.zero_le _, Nat.zero_le _⟩) (fun r_3 hr_3 => ?_)
    subst hr_3
    refine lb_if_eq (tgt := 56) hx hb d_Mo_currency_28 (by decide) (fun c_4 => ?_) (fun c_4 => ?_)
    · refine lv_bipush (v := (-2)) hx hb d_Mo_currency_56 (by decide) ?_
      exact W.iret (v := (-2)) hx hb hr (fun t ht hW => ⟨⟨_, (0, yr, nf, no, nt, bd, nb, fl, AI, AN, AB, AL), rfl, (by simp [m_currency, ixn, bI, ek, c_2, c_4] <;> (repeat' apply And.intro) <;> rfl), by rw [ht]; exact hP, va_K.moved hW.alike hK, hD⟩, hS.F ht⟩) hS.2.2 d_Mo_currency_58
    · refine lv_iload_n hx hb d_Mo_currency_31 rfl (lv_at hl 3 rfl) ?_
      refine lv_i2l hx hb d_Mo_currency_32 rfl ?_
      refine lv_lconst (v := 1) hx hb d_Mo_currency_33 (by decide) ?_
      refine lv_ldc2 (own := R_Mo) (v := 1000000) hx hb hown (hG _ k_697) d_Mo_currency_34 ?_
      refine rd_calli (va_runS (As := [.long (u0.toInt64), .long 1, .long 1000000]) (rest := []) ⟨hx, hb, hml, hown, hts⟩ (c_Mo_in l dC dI (mtys cA) (mw ad cA 0 yr nf no nt bd nb fl AI AN AB AL) (u0.toInt64) 1 1000000) (cwS 3 hts (gd_S k_629 k_630 k_17 k_631) rfl rfl rfl (by decide +kernel) ⟨Nat.le_of_ble_eq_true rfl, Nat.le_of_ble_eq_true rfl⟩) (rd_preS hK hN hP) rfl rfl hl.1 rfl (lv_room (Nat.le_of_ble_eq_true rfl)) d_Mo_currency_37 ⟨Nat.zero_le _, Nat.zero_le _⟩) (fun r_5 hr_5 => ?_)
      subst hr_5
      refine lb_if_eq (tgt := 56) hx hb d_Mo_currency_40 (by decide) (fun c_6 => ?_) (fun c_6 => ?_)
      · refine lv_bipush (v := (-2)) hx hb d_Mo_currency_56 (by decide) ?_
        exact W.iret (v := (-2)) hx hb hr (fun t ht hW => ⟨⟨_, (0, yr, nf, no, nt, bd, nb, fl, AI, AN, AB, AL), rfl, (by simp [m_currency, ixn, bI, ek, c_2, c_4, c_6] <;> (repeat' apply And.intro) <;> rfl), by rw [ht]; exact hP, va_K.moved hW.alike hK, hD⟩, hS.F ht⟩) hS.2.2 d_Mo_currency_58
      · refine lv_iload hx hb d_Mo_currency_43 (lv_at hl 4 rfl) ?_
        refine lv_i2l hx hb d_Mo_currency_45 rfl ?_
        refine lv_lconst (v := 1) hx hb d_Mo_currency_46 (by decide) ?_
        refine lv_ldc2 (own := R_Mo) (v := 1000000) hx hb hown (hG _ k_697) d_Mo_currency_47 ?_
        refine rd_calli (va_runS (As := [.long (v0.toInt64), .long 1, .long 1000000]) (rest := []) ⟨hx, hb, hml, hown, hts⟩ (c_Mo_in l dC dI (mtys cA) (mw ad cA 0 yr nf no nt bd nb fl AI AN AB AL) (v0.toInt64) 1 1000000) (cwS 3 hts (gd_S k_629 k_630 k_17 k_631) rfl rfl rfl (by decide +kernel) ⟨Nat.le_of_ble_eq_true rfl, Nat.le_of_ble_eq_true rfl⟩) (rd_preS hK hN hP) rfl rfl hl.1 rfl (lv_room (Nat.le_of_ble_eq_true rfl)) d_Mo_currency_50 ⟨Nat.zero_le _, Nat.zero_le _⟩) (fun r_7 hr_7 => ?_)
        subst hr_7
        refine lb_if_ne (tgt := 59) hx hb d_Mo_currency_53 (by decide) (fun c_8 => ?_) (fun c_8 => ?_)
        · refine lv_aload_n hx hb d_Mo_currency_59 rfl (lv_at hl 0 rfl) ?_
          refine va_get (D := (dC, dI)) (ci := 7) (v := .ref (ad 18)) (C := R_Mo) (T := F_Mo) (N := 31) hx hb hG iG_Mo hown hK hP 0 rfl rfl 23 (by decide) (hG _ k_546) (fun _ h9 => h9) rfl d_Mo_currency_60 ?_
          refine lv_iload_n hx hb d_Mo_currency_63 rfl (lv_at hl 1 rfl) ?_
          refine rn_iald (n := 10) (j := k) (g := AN 18) hx hb hK hP 18 17 rfl rfl (by omega) (by decide) d_Mo_currency_64 ?_
          refine lv_istore (lv' := [(5, .int (nI ((AN 18 k)))), (0, .ref (ad 0)), (1, .int (nI k)), (2, .int d0), (3, .int u0), (4, .int v0)]) hx hb d_Mo_currency_65 hl (by decide) rfl (fun ls hl => ?_)
          refine lv_iload hx hb d_Mo_currency_67 (lv_at hl 0 rfl) ?_
          refine lv_if_le (tgt := 93) hx hb d_Mo_currency_69 (by decide) (fun c_9 => ?_) (fun c_9 => ?_)
          · have h_z : ¬ 0 < AN 18 k := fun q => absurd c_9 (nI_nle q (by omega))
            refine lv_iload hx hb d_Mo_currency_93 (lv_at hl 0 rfl) ?_
            refine lv_bipush (v := 10) hx hb d_Mo_currency_95 (by decide) ?_
            refine lv_icmp_ne (tgt := 103) hx hb d_Mo_currency_97 (by decide) (fun c_10 => ?_) (fun c_10 => ?_)
            · rw [nI_10 hrk] at c_10
              refine lv_aload_n hx hb d_Mo_currency_103 rfl (lv_at hl 1 rfl) ?_
              refine va_get (D := (dC, dI)) (ci := 7) (v := .ref (ad 19)) (C := R_Mo) (T := F_Mo) (N := 31) hx hb hG iG_Mo hown hK hP 0 rfl rfl 24 (by decide) (hG _ k_547) (fun _ h9 => h9) rfl d_Mo_currency_104 ?_
              refine lv_bipush (v := 10) hx hb d_Mo_currency_107 (by decide) ?_
              refine lv_iload_n hx hb d_Mo_currency_109 rfl (lv_at hl 2 rfl) ?_
              refine lv_imul hx hb d_Mo_currency_110 ?_
              refine lv_topI (y := nI (10 * k)) (pk_mul 10 k) ?_
              refine lv_iload hx hb d_Mo_currency_111 (lv_at hl 0 rfl) ?_
              refine lv_iadd hx hb d_Mo_currency_113 ?_
              refine lv_topI (y := nI ((10 * k) + ((AN 18 k)))) (nI_add (10 * k) ((AN 18 k))) ?_
              refine lv_iload_n hx hb d_Mo_currency_114 rfl (lv_at hl 3 rfl) ?_
              refine ra_iast (n := 100) (j := ((10 * k) + ((AN 18 k)))) (f := AI 19) hx hb hK hP hD hS 19 18 rfl rfl (by omega) (by decide) d_Mo_currency_115 (fun H locs hP hD hS => ?_)
              have hP : va_P (dC, dI) classes (mw ad cA 0 yr nf no nt bd nb fl (va_up AI 19 (va_up (AI 19) ((10 * k) + ((AN 18 k))) d0)) AN AB AL) H := hP
              have hD : va_D A (mw ad cA 0 yr nf no nt bd nb fl (va_up AI 19 (va_up (AI 19) ((10 * k) + ((AN 18 k))) d0)) AN AB AL) := hD
              refine lv_aload_n hx hb d_Mo_currency_116 rfl (lv_at hl 1 rfl) ?_
              refine va_get (D := (dC, dI)) (ci := 7) (v := .ref (ad 20)) (C := R_Mo) (T := F_Mo) (N := 31) hx hb hG iG_Mo hown hK hP 0 rfl rfl 25 (by decide) (hG _ k_548) (fun _ h9 => h9) rfl d_Mo_currency_117 ?_
              refine lv_bipush (v := 10) hx hb d_Mo_currency_120 (by decide) ?_
              refine lv_iload_n hx hb d_Mo_currency_122 rfl (lv_at hl 2 rfl) ?_
              refine lv_imul hx hb d_Mo_currency_123 ?_
              refine lv_topI (y := nI (10 * k)) (pk_mul 10 k) ?_
              refine lv_iload hx hb d_Mo_currency_124 (lv_at hl 0 rfl) ?_
              refine lv_iadd hx hb d_Mo_currency_126 ?_
              refine lv_topI (y := nI ((10 * k) + ((AN 18 k)))) (nI_add (10 * k) ((AN 18 k))) ?_
              refine lv_iload_n hx hb d_Mo_currency_127 rfl (lv_at hl 4 rfl) ?_
              refine ra_iast (n := 100) (j := ((10 * k) + ((AN 18 k)))) (f := AI 20) hx hb hK hP hD hS 20 19 rfl rfl (by omega) (by decide) d_Mo_currency_128 (fun H locs hP hD hS => ?_)
              have hP : va_P (dC, dI) classes (mw ad cA 0 yr nf no nt bd nb fl (va_up (va_up AI 19 (va_up (AI 19) ((10 * k) + ((AN 18 k))) d0)) 20 (va_up (AI 20) ((10 * k) + ((AN 18 k))) u0)) AN AB AL) H := hP
              have hD : va_D A (mw ad cA 0 yr nf no nt bd nb fl (va_up (va_up AI 19 (va_up (AI 19) ((10 * k) + ((AN 18 k))) d0)) 20 (va_up (AI 20) ((10 * k) + ((AN 18 k))) u0)) AN AB AL) := hD
              refine lv_aload_n hx hb d_Mo_currency_129 rfl (lv_at hl 1 rfl) ?_
              refine va_get (D := (dC, dI)) (ci := 7) (v := .ref (ad 21)) (C := R_Mo) (T := F_Mo) (N := 31) hx hb hG iG_Mo hown hK hP 0 rfl rfl 26 (by decide) (hG _ k_549) (fun _ h9 => h9) rfl d_Mo_currency_130 ?_
              refine lv_bipush (v := 10) hx hb d_Mo_currency_133 (by decide) ?_
              refine lv_iload_n hx hb d_Mo_currency_135 rfl (lv_at hl 2 rfl) ?_
              refine lv_imul hx hb d_Mo_currency_136 ?_
              refine lv_topI (y := nI (10 * k)) (pk_mul 10 k) ?_
              refine lv_iload hx hb d_Mo_currency_137 (lv_at hl 0 rfl) ?_
              refine lv_iadd hx hb d_Mo_currency_139 ?_
              refine lv_topI (y := nI ((10 * k) + ((AN 18 k)))) (nI_add (10 * k) ((AN 18 k))) ?_
              refine lv_iload hx hb d_Mo_currency_140 (lv_at hl 5 rfl) ?_
              refine ra_iast (n := 100) (j := ((10 * k) + ((AN 18 k)))) (f := AI 21) hx hb hK hP hD hS 21 20 rfl rfl (by omega) (by decide) d_Mo_currency_142 (fun H locs hP hD hS => ?_)
              have hP : va_P (dC, dI) classes (mw ad cA 0 yr nf no nt bd nb fl (va_up (va_up (va_up AI 19 (va_up (AI 19) ((10 * k) + ((AN 18 k))) d0)) 20 (va_up (AI 20) ((10 * k) + ((AN 18 k))) u0)) 21 (va_up (AI 21) ((10 * k) + ((AN 18 k))) v0)) AN AB AL) H := hP
              have hD : va_D A (mw ad cA 0 yr nf no nt bd nb fl (va_up (va_up (va_up AI 19 (va_up (AI 19) ((10 * k) + ((AN 18 k))) d0)) 20 (va_up (AI 20) ((10 * k) + ((AN 18 k))) u0)) 21 (va_up (AI 21) ((10 * k) + ((AN 18 k))) v0)) AN AB AL) := hD
              refine lv_aload_n hx hb d_Mo_currency_143 rfl (lv_at hl 1 rfl) ?_
              refine va_get (D := (dC, dI)) (ci := 7) (v := .ref (ad 18)) (C := R_Mo) (T := F_Mo) (N := 31) hx hb hG iG_Mo hown hK hP 0 rfl rfl 23 (by decide) (hG _ k_546) (fun _ h9 => h9) rfl d_Mo_currency_144 ?_
              refine lv_iload_n hx hb d_Mo_currency_147 rfl (lv_at hl 2 rfl) ?_
              refine lv_dup2_11 hx hb d_Mo_currency_148 rfl rfl ?_
              refine rn_iald (n := 10) (j := k) (g := AN 18) hx hb hK hP 18 17 rfl rfl (by omega) (by decide) d_Mo_currency_149 ?_
              refine lv_iconst (v := 1) hx hb d_Mo_currency_150 (by decide) ?_
              refine lv_iadd hx hb d_Mo_currency_151 ?_
              refine lv_topI (y := nI (((AN 18 k)) + 1)) (nI_add ((AN 18 k)) 1) ?_
              refine rn_iast (n := 10) (j := k) (g := AN 18) (b := (((AN 18 k)) + 1)) hx hb hK hP hD hS 18 17 rfl rfl (by omega) (by decide) d_Mo_currency_152 (fun H locs hP hD hS => ?_)
              have hP : va_P (dC, dI) classes (mw ad cA 0 yr nf no nt bd nb fl (va_up (va_up (va_up AI 19 (va_up (AI 19) ((10 * k) + ((AN 18 k))) d0)) 20 (va_up (AI 20) ((10 * k) + ((AN 18 k))) u0)) 21 (va_up (AI 21) ((10 * k) + ((AN 18 k))) v0)) (va_up AN 18 (va_up (AN 18) k (((AN 18 k)) + 1))) AB AL) H := hP
              have hD : va_D A (mw ad cA 0 yr nf no nt bd nb fl (va_up (va_up (va_up AI 19 (va_up (AI 19) ((10 * k) + ((AN 18 k))) d0)) 20 (va_up (AI 20) ((10 * k) + ((AN 18 k))) u0)) 21 (va_up (AI 21) ((10 * k) + ((AN 18 k))) v0)) (va_up AN 18 (va_up (AN 18) k (((AN 18 k)) + 1))) AB AL) := hD
              refine lv_iconst (v := 1) hx hb d_Mo_currency_153 (by decide) ?_
              exact W.iret (v := 1) hx hb hr (fun t ht hW => ⟨⟨_, (0, yr, nf, no, nt, bd, nb, fl, va_up (va_up (va_up AI 19 (va_up (AI 19) ((10 * k) + ((AN 18 k))) d0)) 20 (va_up (AI 20) ((10 * k) + ((AN 18 k))) u0)) 21 (va_up (AI 21) ((10 * k) + ((AN 18 k))) v0), va_up AN 18 (va_up (AN 18) k (((AN 18 k)) + 1)), AB, AL), rfl, (by simp [m_currency, ixn, bI, ek, c_2, c_4, c_6, c_8, c_9, h_z, c_10] <;> (repeat' apply And.intro) <;> rfl), by rw [ht]; exact hP, va_K.moved hW.alike hK, hD⟩, hS.F ht⟩) hS.2.2 d_Mo_currency_154
            · rw [nI_10 hrk] at c_10
              exact absurd (by omega) h_z
          · have h_pos : 0 < AN 18 k := by
              rcases Nat.eq_zero_or_pos (AN 18 k) with z | z
              · exact absurd (by rw [z]; decide) c_9
              · exact z
            refine lv_aload_n hx hb d_Mo_currency_72 rfl (lv_at hl 1 rfl) ?_
            refine va_get (D := (dC, dI)) (ci := 7) (v := .ref (ad 19)) (C := R_Mo) (T := F_Mo) (N := 31) hx hb hG iG_Mo hown hK hP 0 rfl rfl 24 (by decide) (hG _ k_547) (fun _ h9 => h9) rfl d_Mo_currency_73 ?_
            refine lv_bipush (v := 10) hx hb d_Mo_currency_76 (by decide) ?_
            refine lv_iload_n hx hb d_Mo_currency_78 rfl (lv_at hl 2 rfl) ?_
            refine lv_imul hx hb d_Mo_currency_79 ?_
            refine lv_topI (y := nI (10 * k)) (pk_mul 10 k) ?_
            refine lv_iload hx hb d_Mo_currency_80 (lv_at hl 0 rfl) ?_
            refine lv_iadd hx hb d_Mo_currency_82 ?_
            refine lv_topI (y := nI ((10 * k) + ((AN 18 k)))) (nI_add (10 * k) ((AN 18 k))) ?_
            refine lv_iconst (v := 1) hx hb d_Mo_currency_83 (by decide) ?_
            refine lv_isub hx hb d_Mo_currency_84 ?_
            refine lv_topI (y := nI (((10 * k) + ((AN 18 k))) - 1)) (pk_sub (a := ((10 * k) + ((AN 18 k)))) (b := 1) (by omega)) ?_
            refine ra_iald (n := 100) (j := (((10 * k) + ((AN 18 k))) - 1)) (f := AI 19) hx hb hK hP 19 18 rfl rfl (by omega) (by decide) d_Mo_currency_85 ?_
            refine lv_iload_n hx hb d_Mo_currency_86 rfl (lv_at hl 3 rfl) ?_
            refine lv_icmp_lt (tgt := 93) hx hb d_Mo_currency_87 (by decide) (fun c_11 => ?_) (fun c_11 => ?_)
            · rw [← Int32.not_le] at c_11
              refine lv_iload hx hb d_Mo_currency_93 (lv_at hl 0 rfl) ?_
              refine lv_bipush (v := 10) hx hb d_Mo_currency_95 (by decide) ?_
              refine lv_icmp_ne (tgt := 103) hx hb d_Mo_currency_97 (by decide) (fun c_12 => ?_) (fun c_12 => ?_)
              · rw [nI_10 hrk] at c_12
                refine lv_aload_n hx hb d_Mo_currency_103 rfl (lv_at hl 1 rfl) ?_
                refine va_get (D := (dC, dI)) (ci := 7) (v := .ref (ad 19)) (C := R_Mo) (T := F_Mo) (N := 31) hx hb hG iG_Mo hown hK hP 0 rfl rfl 24 (by decide) (hG _ k_547) (fun _ h9 => h9) rfl d_Mo_currency_104 ?_
                refine lv_bipush (v := 10) hx hb d_Mo_currency_107 (by decide) ?_
                refine lv_iload_n hx hb d_Mo_currency_109 rfl (lv_at hl 2 rfl) ?_
                refine lv_imul hx hb d_Mo_currency_110 ?_
                refine lv_topI (y := nI (10 * k)) (pk_mul 10 k) ?_
                refine lv_iload hx hb d_Mo_currency_111 (lv_at hl 0 rfl) ?_
                refine lv_iadd hx hb d_Mo_currency_113 ?_
                refine lv_topI (y := nI ((10 * k) + ((AN 18 k)))) (nI_add (10 * k) ((AN 18 k))) ?_
                refine lv_iload_n hx hb d_Mo_currency_114 rfl (lv_at hl 3 rfl) ?_
                refine ra_iast (n := 100) (j := ((10 * k) + ((AN 18 k)))) (f := AI 19) hx hb hK hP hD hS 19 18 rfl rfl (by omega) (by decide) d_Mo_currency_115 (fun H locs hP hD hS => ?_)
                have hP : va_P (dC, dI) classes (mw ad cA 0 yr nf no nt bd nb fl (va_up AI 19 (va_up (AI 19) ((10 * k) + ((AN 18 k))) d0)) AN AB AL) H := hP
                have hD : va_D A (mw ad cA 0 yr nf no nt bd nb fl (va_up AI 19 (va_up (AI 19) ((10 * k) + ((AN 18 k))) d0)) AN AB AL) := hD
                refine lv_aload_n hx hb d_Mo_currency_116 rfl (lv_at hl 1 rfl) ?_
                refine va_get (D := (dC, dI)) (ci := 7) (v := .ref (ad 20)) (C := R_Mo) (T := F_Mo) (N := 31) hx hb hG iG_Mo hown hK hP 0 rfl rfl 25 (by decide) (hG _ k_548) (fun _ h9 => h9) rfl d_Mo_currency_117 ?_
                refine lv_bipush (v := 10) hx hb d_Mo_currency_120 (by decide) ?_
                refine lv_iload_n hx hb d_Mo_currency_122 rfl (lv_at hl 2 rfl) ?_
                refine lv_imul hx hb d_Mo_currency_123 ?_
                refine lv_topI (y := nI (10 * k)) (pk_mul 10 k) ?_
                refine lv_iload hx hb d_Mo_currency_124 (lv_at hl 0 rfl) ?_
                refine lv_iadd hx hb d_Mo_currency_126 ?_
                refine lv_topI (y := nI ((10 * k) + ((AN 18 k)))) (nI_add (10 * k) ((AN 18 k))) ?_
                refine lv_iload_n hx hb d_Mo_currency_127 rfl (lv_at hl 4 rfl) ?_
                refine ra_iast (n := 100) (j := ((10 * k) + ((AN 18 k)))) (f := AI 20) hx hb hK hP hD hS 20 19 rfl rfl (by omega) (by decide) d_Mo_currency_128 (fun H locs hP hD hS => ?_)
                have hP : va_P (dC, dI) classes (mw ad cA 0 yr nf no nt bd nb fl (va_up (va_up AI 19 (va_up (AI 19) ((10 * k) + ((AN 18 k))) d0)) 20 (va_up (AI 20) ((10 * k) + ((AN 18 k))) u0)) AN AB AL) H := hP
                have hD : va_D A (mw ad cA 0 yr nf no nt bd nb fl (va_up (va_up AI 19 (va_up (AI 19) ((10 * k) + ((AN 18 k))) d0)) 20 (va_up (AI 20) ((10 * k) + ((AN 18 k))) u0)) AN AB AL) := hD
                refine lv_aload_n hx hb d_Mo_currency_129 rfl (lv_at hl 1 rfl) ?_
                refine va_get (D := (dC, dI)) (ci := 7) (v := .ref (ad 21)) (C := R_Mo) (T := F_Mo) (N := 31) hx hb hG iG_Mo hown hK hP 0 rfl rfl 26 (by decide) (hG _ k_549) (fun _ h9 => h9) rfl d_Mo_currency_130 ?_
                refine lv_bipush (v := 10) hx hb d_Mo_currency_133 (by decide) ?_
                refine lv_iload_n hx hb d_Mo_currency_135 rfl (lv_at hl 2 rfl) ?_
                refine lv_imul hx hb d_Mo_currency_136 ?_
                refine lv_topI (y := nI (10 * k)) (pk_mul 10 k) ?_
                refine lv_iload hx hb d_Mo_currency_137 (lv_at hl 0 rfl) ?_
                refine lv_iadd hx hb d_Mo_currency_139 ?_
                refine lv_topI (y := nI ((10 * k) + ((AN 18 k)))) (nI_add (10 * k) ((AN 18 k))) ?_
                refine lv_iload hx hb d_Mo_currency_140 (lv_at hl 5 rfl) ?_
                refine ra_iast (n := 100) (j := ((10 * k) + ((AN 18 k)))) (f := AI 21) hx hb hK hP hD hS 21 20 rfl rfl (by omega) (by decide) d_Mo_currency_142 (fun H locs hP hD hS => ?_)
                have hP : va_P (dC, dI) classes (mw ad cA 0 yr nf no nt bd nb fl (va_up (va_up (va_up AI 19 (va_up (AI 19) ((10 * k) + ((AN 18 k))) d0)) 20 (va_up (AI 20) ((10 * k) + ((AN 18 k))) u0)) 21 (va_up (AI 21) ((10 * k) + ((AN 18 k))) v0)) AN AB AL) H := hP
                have hD : va_D A (mw ad cA 0 yr nf no nt bd nb fl (va_up (va_up (va_up AI 19 (va_up (AI 19) ((10 * k) + ((AN 18 k))) d0)) 20 (va_up (AI 20) ((10 * k) + ((AN 18 k))) u0)) 21 (va_up (AI 21) ((10 * k) + ((AN 18 k))) v0)) AN AB AL) := hD
                refine lv_aload_n hx hb d_Mo_currency_143 rfl (lv_at hl 1 rfl) ?_
                refine va_get (D := (dC, dI)) (ci := 7) (v := .ref (ad 18)) (C := R_Mo) (T := F_Mo) (N := 31) hx hb hG iG_Mo hown hK hP 0 rfl rfl 23 (by decide) (hG _ k_546) (fun _ h9 => h9) rfl d_Mo_currency_144 ?_
                refine lv_iload_n hx hb d_Mo_currency_147 rfl (lv_at hl 2 rfl) ?_
                refine lv_dup2_11 hx hb d_Mo_currency_148 rfl rfl ?_
                refine rn_iald (n := 10) (j := k) (g := AN 18) hx hb hK hP 18 17 rfl rfl (by omega) (by decide) d_Mo_currency_149 ?_
                refine lv_iconst (v := 1) hx hb d_Mo_currency_150 (by decide) ?_
                refine lv_iadd hx hb d_Mo_currency_151 ?_
                refine lv_topI (y := nI (((AN 18 k)) + 1)) (nI_add ((AN 18 k)) 1) ?_
                refine rn_iast (n := 10) (j := k) (g := AN 18) (b := (((AN 18 k)) + 1)) hx hb hK hP hD hS 18 17 rfl rfl (by omega) (by decide) d_Mo_currency_152 (fun H locs hP hD hS => ?_)
                have hP : va_P (dC, dI) classes (mw ad cA 0 yr nf no nt bd nb fl (va_up (va_up (va_up AI 19 (va_up (AI 19) ((10 * k) + ((AN 18 k))) d0)) 20 (va_up (AI 20) ((10 * k) + ((AN 18 k))) u0)) 21 (va_up (AI 21) ((10 * k) + ((AN 18 k))) v0)) (va_up AN 18 (va_up (AN 18) k (((AN 18 k)) + 1))) AB AL) H := hP
                have hD : va_D A (mw ad cA 0 yr nf no nt bd nb fl (va_up (va_up (va_up AI 19 (va_up (AI 19) ((10 * k) + ((AN 18 k))) d0)) 20 (va_up (AI 20) ((10 * k) + ((AN 18 k))) u0)) 21 (va_up (AI 21) ((10 * k) + ((AN 18 k))) v0)) (va_up AN 18 (va_up (AN 18) k (((AN 18 k)) + 1))) AB AL) := hD
                refine lv_iconst (v := 1) hx hb d_Mo_currency_153 (by decide) ?_
                exact W.iret (v := 1) hx hb hr (fun t ht hW => ⟨⟨_, (0, yr, nf, no, nt, bd, nb, fl, va_up (va_up (va_up AI 19 (va_up (AI 19) ((10 * k) + ((AN 18 k))) d0)) 20 (va_up (AI 20) ((10 * k) + ((AN 18 k))) u0)) 21 (va_up (AI 21) ((10 * k) + ((AN 18 k))) v0), va_up AN 18 (va_up (AN 18) k (((AN 18 k)) + 1)), AB, AL), rfl, (by simp [m_currency, ixn, bI, ek, c_2, c_4, c_6, c_8, c_9, h_pos, c_11, c_12] <;> (repeat' apply And.intro) <;> rfl), by rw [ht]; exact hP, va_K.moved hW.alike hK, hD⟩, hS.F ht⟩) hS.2.2 d_Mo_currency_154
              · rw [nI_10 hrk] at c_12
                refine lv_bipush (v := (-4)) hx hb d_Mo_currency_100 (by decide) ?_
                exact W.iret (v := (-4)) hx hb hr (fun t ht hW => ⟨⟨_, (0, yr, nf, no, nt, bd, nb, fl, AI, AN, AB, AL), rfl, (by unfold m_currency; simp only [ixn, ek]; rw [if_neg (by simp [c_2, c_4, c_6, c_8, c_9, h_pos, c_11]), if_neg (by simp [c_2, c_4, c_6, c_8, c_9, h_pos, c_11]), if_neg (by simp [c_2, c_4, c_6, c_8, c_9, h_pos, c_11]), if_pos c_12]), by rw [ht]; exact hP, va_K.moved hW.alike hK, hD⟩, hS.F ht⟩) hS.2.2 d_Mo_currency_102
            · rw [Int32.not_lt] at c_11
              refine lv_bipush (v := (-3)) hx hb d_Mo_currency_90 (by decide) ?_
              exact W.iret (v := (-3)) hx hb hr (fun t ht hW => ⟨⟨_, (0, yr, nf, no, nt, bd, nb, fl, AI, AN, AB, AL), rfl, (by simp [m_currency, ixn, bI, ek, c_2, c_4, c_6, c_8, c_9, h_pos, c_11] <;> (repeat' apply And.intro) <;> rfl), by rw [ht]; exact hP, va_K.moved hW.alike hK, hD⟩, hS.F ht⟩) hS.2.2 d_Mo_currency_92
        · refine lv_bipush (v := (-2)) hx hb d_Mo_currency_56 (by decide) ?_
          exact W.iret (v := (-2)) hx hb hr (fun t ht hW => ⟨⟨_, (0, yr, nf, no, nt, bd, nb, fl, AI, AN, AB, AL), rfl, (by simp [m_currency, ixn, bI, ek, c_2, c_4, c_6, c_8] <;> (repeat' apply And.intro) <;> rfl), by rw [ht]; exact hP, va_K.moved hW.alike hK, hD⟩, hS.F ht⟩) hS.2.2 d_Mo_currency_58
  · refine lv_iconst (v := (-1)) hx hb d_Mo_currency_17 (by decide) ?_
    exact W.iret (v := (-1)) hx hb hr (fun t ht hW => ⟨⟨_, (0, yr, nf, no, nt, bd, nb, fl, AI, AN, AB, AL), rfl, (by simp [m_currency, ixn, bI, c_2] <;> (repeat' apply And.intro) <;> rfl), by rw [ht]; exact hP, va_K.moved hW.alike hK, hD⟩, hS.F ht⟩) hS.2.2 d_Mo_currency_18
end
section
theorem d_Mo_about_0 : decode b_Mo_about 0 = .ok (.aload_n 0, 1) := by decide +kernel
theorem d_Mo_about_1 : decode b_Mo_about 1 = .ok (.iconst 0, 1) := by decide +kernel
theorem d_Mo_about_2 : decode b_Mo_about 2 = .ok (.putfield 91, 3) := by decide +kernel
theorem d_Mo_about_5 : decode b_Mo_about 5 = .ok (.aload_n 0, 1) := by decide +kernel
theorem d_Mo_about_6 : decode b_Mo_about 6 = .ok (.iload_n 1, 1) := by decide +kernel
theorem d_Mo_about_7 : decode b_Mo_about 7 = .ok (.invokevirtual 118, 3) := by decide +kernel
theorem d_Mo_about_10 : decode b_Mo_about 10 = .ok (.ifCond .ne 7, 3) := by decide +kernel
theorem d_Mo_about_13 : decode b_Mo_about 13 = .ok (.ldc2_w 170, 3) := by decide +kernel
theorem d_Mo_about_16 : decode b_Mo_about 16 = .ok (.lreturn, 1) := by decide +kernel
theorem d_Mo_about_17 : decode b_Mo_about 17 = .ok (.iload_n 2, 1) := by decide +kernel
theorem d_Mo_about_18 : decode b_Mo_about 18 = .ok (.tableswitch 56 0 3 #[30, 37, 43, 50], 30) := by decide +kernel
theorem d_Mo_about_48 : decode b_Mo_about 48 = .ok (.aload_n 0, 1) := by decide +kernel
theorem d_Mo_about_49 : decode b_Mo_about 49 = .ok (.getfield 13, 3) := by decide +kernel
theorem d_Mo_about_52 : decode b_Mo_about 52 = .ok (.iload_n 1, 1) := by decide +kernel
theorem d_Mo_about_53 : decode b_Mo_about 53 = .ok (.laload, 1) := by decide +kernel
theorem d_Mo_about_54 : decode b_Mo_about 54 = .ok (.lreturn, 1) := by decide +kernel
theorem d_Mo_about_55 : decode b_Mo_about 55 = .ok (.aload_n 0, 1) := by decide +kernel
theorem d_Mo_about_56 : decode b_Mo_about 56 = .ok (.iload_n 1, 1) := by decide +kernel
theorem d_Mo_about_57 : decode b_Mo_about 57 = .ok (.invokevirtual 104, 3) := by decide +kernel
theorem d_Mo_about_60 : decode b_Mo_about 60 = .ok (.lreturn, 1) := by decide +kernel
theorem d_Mo_about_61 : decode b_Mo_about 61 = .ok (.aload_n 0, 1) := by decide +kernel
theorem d_Mo_about_62 : decode b_Mo_about 62 = .ok (.getfield 17, 3) := by decide +kernel
theorem d_Mo_about_65 : decode b_Mo_about 65 = .ok (.iload_n 1, 1) := by decide +kernel
theorem d_Mo_about_66 : decode b_Mo_about 66 = .ok (.laload, 1) := by decide +kernel
theorem d_Mo_about_67 : decode b_Mo_about 67 = .ok (.lreturn, 1) := by decide +kernel
theorem d_Mo_about_68 : decode b_Mo_about 68 = .ok (.aload_n 0, 1) := by decide +kernel
theorem d_Mo_about_69 : decode b_Mo_about 69 = .ok (.iload_n 1, 1) := by decide +kernel
theorem d_Mo_about_70 : decode b_Mo_about 70 = .ok (.invokevirtual 130, 3) := by decide +kernel
theorem d_Mo_about_73 : decode b_Mo_about 73 = .ok (.lreturn, 1) := by decide +kernel
theorem d_Mo_about_74 : decode b_Mo_about 74 = .ok (.ldc2_w 170, 3) := by decide +kernel
theorem d_Mo_about_77 : decode b_Mo_about 77 = .ok (.lreturn, 1) := by decide +kernel
set_option maxHeartbeats 4000000 in
set_option maxRecDepth 100000 in
theorem c_Mo_about (l : Launch) (dC : Nat → ClassId) (dI : Nat → Nat → Nat) (ad : Nat → Nat) (cA : Nat → ClassId) (th yr : Int32) (nf no nt : Nat) (bd : Int32) (nb : Nat) (fl : Int32) (AI : Nat → Nat → Int32) (AN : Nat → Nat → Nat) (AB : Nat → Nat → Bool) (AL : Nat → Nat → Int64) (sz : Nat) (fd w0 : Int32) (hI : InvM nf no nt nb AI AN) : Met l y_Mo_about w_Mo_about { frames := 2, cells := 0, slots := 0, locals := 46 } (mu_P (dC, dI) classes (mtys cA) (mw ad cA th yr nf no nt bd nb fl AI AN AB AL) sz [.ref (ad 0), .int fd, .int w0]) (va_Ql (fun r u => (r, u) = m_about (th, yr, nf, no, nt, bd, nb, fl, AI, AN, AB, AL) fd w0) (mu_B (dC, dI) classes (mtys cA) (va_A (mw ad cA th yr nf no nt bd nb fl AI AN AB AL) sz) (mwS ad cA)) (va_A (mw ad cA th yr nf no nt bd nb fl AI AN AB AL) sz)) 0 0 (va_A (mw ad cA th yr nf no nt bd nb fl AI AN AB AL) sz) := by
  refine Met.ofW (cc := b_Mo_about) (maxL := 3) (ret := (some .long)) (by decide) rfl ?_
  intro p e s m args below meth c s₁ B hml hv
  obtain ⟨rfl, hsz, hP, hK, hD0, hN⟩ := hv
  have hx := B.exec
  have hb := B.bytes
  have hr := B.returns
  have hts := atoms_spec (ws := w_Mo_about) B.pre
  have hG := fun (w : Cond) (h : w ∈ wG) => hts w (List.mem_cons_of_mem _ h)
  have hown : s.vm.findClass R_Mo = some m.cls := findClass_of_methodNamed B.named
  have hlocks := B.notSynchronized
  subst hsz
  have hD := hD0.self (sz := s.heap.size)
  generalize hAe : va_A (mw ad cA th yr nf no nt bd nb fl AI AN AB AL) s.heap.size = A at hD ⊢
  have hA : ∀ q : Nat, s.heap.size ≤ q → A q := fun q h => by rw [← hAe]; exact Or.inr h
  have hS : va_S A s.heap s.heap [] := va_S.rf
  have hP : va_P (dC, dI) classes (mw ad cA th yr nf no nt bd nb fl AI AN AB AL) s.heap := hP
  have hl := lv_entry ([.ref (ad 0), .int fd, .int w0]) (n := 3) (Nat.le_of_ble_eq_true rfl)
  rw [lg_entry_eq]
  generalize (lg_sl ([.ref (ad 0), .int fd, .int w0]) ++ List.replicate (3 - (lg_sl ([.ref (ad 0), .int fd, .int w0])).length) Slot.unset).toArray = ls at hl ⊢
  have hl : lv_has ls 3 [(0, .ref (ad 0)), (1, .int fd), (2, .int w0)] := hl
  obtain ⟨hnf, hno, hnt, hnb, hfu, hft, hbf, hrw, hce, hdn⟩ := id hI
  refine lv_aload_n hx hb d_Mo_about_0 rfl (lv_at hl 0 rfl) ?_
  refine lv_iconst (v := 0) hx hb d_Mo_about_1 (by decide) ?_
  refine va_put (D := (dC, dI)) (ci := 7) (v := .int 0) (ty := .int) (C := R_Mo) (T := F_Mo) (N := 31) hx hb hG iG_Mo t_Mo t_Mo_ok n_Mo hown hK hP hD hS 0 rfl rfl 0 (by decide) (hG _ k_523) (fun _ h9 => h9) rfl (by decide +kernel) rfl rfl (Nat.le_of_ble_eq_true rfl) d_Mo_about_2 (fun H locs hP hD hS => ?_)
  have hP : va_P (dC, dI) classes (mw ad cA 0 yr nf no nt bd nb fl AI AN AB AL) H := hP
  have hD : va_D A (mw ad cA 0 yr nf no nt bd nb fl AI AN AB AL) := hD
  refine lv_aload_n hx hb d_Mo_about_5 rfl (lv_at hl 0 rfl) ?_
  refine lv_iload_n hx hb d_Mo_about_6 rfl (lv_at hl 1 rfl) ?_
  refine rd_calli (va_runV (As := [.int fd]) (rest := []) ⟨hx, hb, hml, hown, hts⟩ (c_Mo_isFund l dC dI ad cA 0 yr nf no nt bd nb fl AI AN AB AL fd) (cwV 1 hts (gd_V k_636 k_638 k_7 k_17 k_639) rfl rfl rfl (by decide +kernel) ⟨Nat.le_of_ble_eq_true rfl, Nat.le_of_ble_eq_true rfl⟩) (rd_preV 0 hK hN hP rfl rfl) rfl rfl hl.1 rfl (lv_room (Nat.le_of_ble_eq_true rfl)) d_Mo_about_7 ⟨Nat.zero_le _, Nat.zero_le _⟩) (fun r_1 hr_1 => ?_)
  subst hr_1
  refine lb_if_ne (tgt := 17) hx hb d_Mo_about_10 (by decide) (fun c_2 => ?_) (fun c_2 => ?_)
  · obtain ⟨j, hj, rfl⟩ := inN_of (n := nf) (by omega) c_2
    have ej : (nI j).toNatClampNeg = j := nI_clamp (by omega)
    refine lv_iload_n hx hb d_Mo_about_17 rfl (lv_at hl 2 rfl) ?_
    by_cases s_3 : w0 = 0
    · refine lv_tableIn (off := 30) (tgt := 48) hx hb d_Mo_about_18 (by rw [s_3]; decide) (by rw [s_3]; decide) (by rw [s_3]; decide) (by decide) ?_
      refine lv_aload_n hx hb d_Mo_about_48 rfl (lv_at hl 0 rfl) ?_
      refine va_get (D := (dC, dI)) (ci := 7) (v := .ref (ad 2)) (C := R_Mo) (T := F_Mo) (N := 31) hx hb hG iG_Mo hown hK hP 0 rfl rfl 4 (by decide) (hG _ k_527) (fun _ h9 => h9) rfl d_Mo_about_49 ?_
      refine lv_iload_n hx hb d_Mo_about_52 rfl (lv_at hl 1 rfl) ?_
      refine ra_lald (n := 30) (j := j) (f := AL 2) hx hb hK hP 2 1 rfl rfl (by omega) (by decide) d_Mo_about_53 ?_
      exact W.lret (v := (AL 2 j)) hx hb hr (fun t ht hW => ⟨⟨_, (0, yr, nf, no, nt, bd, nb, fl, AI, AN, AB, AL), rfl, (by simp [m_about, ixn, bI, ej, c_2, s_3] <;> (repeat' apply And.intro) <;> rfl), by rw [ht]; exact hP, va_K.moved hW.alike hK, hD⟩, hS.F ht⟩) hS.2.2 d_Mo_about_54
    · by_cases s_4 : w0 = 1
      · refine lv_tableIn (off := 37) (tgt := 55) hx hb d_Mo_about_18 (by rw [s_4]; decide) (by rw [s_4]; decide) (by rw [s_4]; decide) (by decide) ?_
        refine lv_aload_n hx hb d_Mo_about_55 rfl (lv_at hl 0 rfl) ?_
        refine lv_iload_n hx hb d_Mo_about_56 rfl (lv_at hl 1 rfl) ?_
        refine rd_calll (va_runV (As := [.int (nI j)]) (rest := []) ⟨hx, hb, hml, hown, hts⟩ (c_Mo_encumbered l dC dI ad cA 0 yr nf no nt bd nb fl AI AN AB AL (nI j) hno) (cwV 1 hts (gd_V k_645 k_647 k_9 k_17 k_648) rfl rfl rfl (by decide +kernel) ⟨Nat.le_of_ble_eq_true rfl, Nat.le_of_ble_eq_true rfl⟩) (rd_preV 0 hK hN hP rfl rfl) rfl rfl hl.1 rfl (lv_room (Nat.le_of_ble_eq_true rfl)) d_Mo_about_57 ⟨Nat.zero_le _, Nat.zero_le _⟩) (fun r_5 hr_5 => ?_)
        subst hr_5
        exact W.lret (v := (m_enc AI AN no (nI j))) hx hb hr (fun t ht hW => ⟨⟨_, (0, yr, nf, no, nt, bd, nb, fl, AI, AN, AB, AL), rfl, (by simp [m_about, ixn, bI, ej, c_2, s_3, s_4] <;> (repeat' apply And.intro) <;> rfl), by rw [ht]; exact hP, va_K.moved hW.alike hK, hD⟩, hS.F ht⟩) hS.2.2 d_Mo_about_60
      · by_cases s_6 : w0 = 2
        · refine lv_tableIn (off := 43) (tgt := 61) hx hb d_Mo_about_18 (by rw [s_6]; decide) (by rw [s_6]; decide) (by rw [s_6]; decide) (by decide) ?_
          refine lv_aload_n hx hb d_Mo_about_61 rfl (lv_at hl 0 rfl) ?_
          refine va_get (D := (dC, dI)) (ci := 7) (v := .ref (ad 3)) (C := R_Mo) (T := F_Mo) (N := 31) hx hb hG iG_Mo hown hK hP 0 rfl rfl 5 (by decide) (hG _ k_528) (fun _ h9 => h9) rfl d_Mo_about_62 ?_
          refine lv_iload_n hx hb d_Mo_about_65 rfl (lv_at hl 1 rfl) ?_
          refine ra_lald (n := 30) (j := j) (f := AL 3) hx hb hK hP 3 2 rfl rfl (by omega) (by decide) d_Mo_about_66 ?_
          exact W.lret (v := (AL 3 j)) hx hb hr (fun t ht hW => ⟨⟨_, (0, yr, nf, no, nt, bd, nb, fl, AI, AN, AB, AL), rfl, (by simp [m_about, ixn, bI, ej, c_2, s_3, s_4, s_6] <;> (repeat' apply And.intro) <;> rfl), by rw [ht]; exact hP, va_K.moved hW.alike hK, hD⟩, hS.F ht⟩) hS.2.2 d_Mo_about_67
        · by_cases s_7 : w0 = 3
          · refine lv_tableIn (off := 50) (tgt := 68) hx hb d_Mo_about_18 (by rw [s_7]; decide) (by rw [s_7]; decide) (by rw [s_7]; decide) (by decide) ?_
            refine lv_aload_n hx hb d_Mo_about_68 rfl (lv_at hl 0 rfl) ?_
            refine lv_iload_n hx hb d_Mo_about_69 rfl (lv_at hl 1 rfl) ?_
            refine rd_calll (va_runV (As := [.int (nI j)]) (rest := []) ⟨hx, hb, hml, hown, hts⟩ (c_Mo_free l dC dI ad cA 0 yr nf no nt bd nb fl AI AN AB AL j hno (by omega)) (cwV 1 hts (gd_V k_659 k_661 k_10 k_17 k_662) rfl rfl rfl (by decide +kernel) ⟨Nat.le_of_ble_eq_true rfl, Nat.le_of_ble_eq_true rfl⟩) (rd_preV 0 hK hN hP rfl rfl) rfl rfl hl.1 rfl (lv_room (Nat.le_of_ble_eq_true rfl)) d_Mo_about_70 ⟨Nat.zero_le _, Nat.zero_le _⟩) (fun r_8 hr_8 => ?_)
            subst hr_8
            exact W.lret (v := (m_free AI AN AL no j)) hx hb hr (fun t ht hW => ⟨⟨_, (0, yr, nf, no, nt, bd, nb, fl, AI, AN, AB, AL), rfl, (by simp [m_about, ixn, bI, ej, c_2, s_3, s_4, s_6, s_7] <;> (repeat' apply And.intro) <;> rfl), by rw [ht]; exact hP, va_K.moved hW.alike hK, hD⟩, hS.F ht⟩) hS.2.2 d_Mo_about_73
          · refine lv_tableOut (tgt := 74) hx hb d_Mo_about_18 (by have h9 := And.intro trivial trivial; have := lv_neT s_3 (show (0 : Int32).toInt = 0 by decide); have := lv_neT s_4 (show (1 : Int32).toInt = 1 by decide); have := lv_neT s_6 (show (2 : Int32).toInt = 2 by decide); have := lv_neT s_7 (show (3 : Int32).toInt = 3 by decide); omega) (by decide) ?_
            refine lv_ldc2 (own := R_Mo) (v := (-1000000000000000001)) hx hb hown (hG _ k_731) d_Mo_about_74 ?_
            exact W.lret (v := (-1000000000000000001)) hx hb hr (fun t ht hW => ⟨⟨_, (0, yr, nf, no, nt, bd, nb, fl, AI, AN, AB, AL), rfl, (by simp [m_about, ixn, bI, ej, c_2, s_3, s_4, s_6, s_7] <;> (repeat' apply And.intro) <;> rfl), by rw [ht]; exact hP, va_K.moved hW.alike hK, hD⟩, hS.F ht⟩) hS.2.2 d_Mo_about_77
  · refine lv_ldc2 (own := R_Mo) (v := (-1000000000000000001)) hx hb hown (hG _ k_731) d_Mo_about_13 ?_
    exact W.lret (v := (-1000000000000000001)) hx hb hr (fun t ht hW => ⟨⟨_, (0, yr, nf, no, nt, bd, nb, fl, AI, AN, AB, AL), rfl, (by simp [m_about, ixn, bI, c_2] <;> (repeat' apply And.intro) <;> rfl), by rw [ht]; exact hP, va_K.moved hW.alike hK, hD⟩, hS.F ht⟩) hS.2.2 d_Mo_about_16

theorem d_Mo_told_0 : decode b_Mo_told 0 = .ok (.aload_n 0, 1) := by decide +kernel
theorem d_Mo_told_1 : decode b_Mo_told 1 = .ok (.iconst 0, 1) := by decide +kernel
theorem d_Mo_told_2 : decode b_Mo_told 2 = .ok (.putfield 91, 3) := by decide +kernel
theorem d_Mo_told_5 : decode b_Mo_told 5 = .ok (.iload_n 1, 1) := by decide +kernel
theorem d_Mo_told_6 : decode b_Mo_told 6 = .ok (.i2l, 1) := by decide +kernel
theorem d_Mo_told_7 : decode b_Mo_told 7 = .ok (.lconst 0, 1) := by decide +kernel
theorem d_Mo_told_8 : decode b_Mo_told 8 = .ok (.aload_n 0, 1) := by decide +kernel
theorem d_Mo_told_9 : decode b_Mo_told 9 = .ok (.getfield 101, 3) := by decide +kernel
theorem d_Mo_told_12 : decode b_Mo_told 12 = .ok (.iconst 1, 1) := by decide +kernel
theorem d_Mo_told_13 : decode b_Mo_told 13 = .ok (.isub, 1) := by decide +kernel
theorem d_Mo_told_14 : decode b_Mo_told 14 = .ok (.i2l, 1) := by decide +kernel
theorem d_Mo_told_15 : decode b_Mo_told 15 = .ok (.invokestatic 97, 3) := by decide +kernel
theorem d_Mo_told_18 : decode b_Mo_told 18 = .ok (.ifCond .ne 7, 3) := by decide +kernel
theorem d_Mo_told_21 : decode b_Mo_told 21 = .ok (.ldc2_w 170, 3) := by decide +kernel
theorem d_Mo_told_24 : decode b_Mo_told 24 = .ok (.lreturn, 1) := by decide +kernel
theorem d_Mo_told_25 : decode b_Mo_told 25 = .ok (.iload_n 2, 1) := by decide +kernel
theorem d_Mo_told_26 : decode b_Mo_told 26 = .ok (.tableswitch 85 0 5 #[38, 46, 54, 62, 70, 77], 38) := by decide +kernel
theorem d_Mo_told_64 : decode b_Mo_told 64 = .ok (.aload_n 0, 1) := by decide +kernel
theorem d_Mo_told_65 : decode b_Mo_told 65 = .ok (.getfield 20, 3) := by decide +kernel
theorem d_Mo_told_68 : decode b_Mo_told 68 = .ok (.iload_n 1, 1) := by decide +kernel
theorem d_Mo_told_69 : decode b_Mo_told 69 = .ok (.iaload, 1) := by decide +kernel
theorem d_Mo_told_70 : decode b_Mo_told 70 = .ok (.i2l, 1) := by decide +kernel
theorem d_Mo_told_71 : decode b_Mo_told 71 = .ok (.lreturn, 1) := by decide +kernel
theorem d_Mo_told_72 : decode b_Mo_told 72 = .ok (.aload_n 0, 1) := by decide +kernel
theorem d_Mo_told_73 : decode b_Mo_told 73 = .ok (.getfield 23, 3) := by decide +kernel
theorem d_Mo_told_76 : decode b_Mo_told 76 = .ok (.iload_n 1, 1) := by decide +kernel
theorem d_Mo_told_77 : decode b_Mo_told 77 = .ok (.iaload, 1) := by decide +kernel
theorem d_Mo_told_78 : decode b_Mo_told 78 = .ok (.i2l, 1) := by decide +kernel
theorem d_Mo_told_79 : decode b_Mo_told 79 = .ok (.lreturn, 1) := by decide +kernel
theorem d_Mo_told_80 : decode b_Mo_told 80 = .ok (.aload_n 0, 1) := by decide +kernel
theorem d_Mo_told_81 : decode b_Mo_told 81 = .ok (.getfield 30, 3) := by decide +kernel
theorem d_Mo_told_84 : decode b_Mo_told 84 = .ok (.iload_n 1, 1) := by decide +kernel
theorem d_Mo_told_85 : decode b_Mo_told 85 = .ok (.iaload, 1) := by decide +kernel
theorem d_Mo_told_86 : decode b_Mo_told 86 = .ok (.i2l, 1) := by decide +kernel
theorem d_Mo_told_87 : decode b_Mo_told 87 = .ok (.lreturn, 1) := by decide +kernel
theorem d_Mo_told_88 : decode b_Mo_told 88 = .ok (.aload_n 0, 1) := by decide +kernel
theorem d_Mo_told_89 : decode b_Mo_told 89 = .ok (.getfield 36, 3) := by decide +kernel
theorem d_Mo_told_92 : decode b_Mo_told 92 = .ok (.iload_n 1, 1) := by decide +kernel
theorem d_Mo_told_93 : decode b_Mo_told 93 = .ok (.iaload, 1) := by decide +kernel
theorem d_Mo_told_94 : decode b_Mo_told 94 = .ok (.i2l, 1) := by decide +kernel
theorem d_Mo_told_95 : decode b_Mo_told 95 = .ok (.lreturn, 1) := by decide +kernel
theorem d_Mo_told_96 : decode b_Mo_told 96 = .ok (.aload_n 0, 1) := by decide +kernel
theorem d_Mo_told_97 : decode b_Mo_told 97 = .ok (.getfield 39, 3) := by decide +kernel
theorem d_Mo_told_100 : decode b_Mo_told 100 = .ok (.iload_n 1, 1) := by decide +kernel
theorem d_Mo_told_101 : decode b_Mo_told 101 = .ok (.laload, 1) := by decide +kernel
theorem d_Mo_told_102 : decode b_Mo_told 102 = .ok (.lreturn, 1) := by decide +kernel
theorem d_Mo_told_103 : decode b_Mo_told 103 = .ok (.aload_n 0, 1) := by decide +kernel
theorem d_Mo_told_104 : decode b_Mo_told 104 = .ok (.getfield 42, 3) := by decide +kernel
theorem d_Mo_told_107 : decode b_Mo_told 107 = .ok (.iload_n 1, 1) := by decide +kernel
theorem d_Mo_told_108 : decode b_Mo_told 108 = .ok (.iaload, 1) := by decide +kernel
theorem d_Mo_told_109 : decode b_Mo_told 109 = .ok (.i2l, 1) := by decide +kernel
theorem d_Mo_told_110 : decode b_Mo_told 110 = .ok (.lreturn, 1) := by decide +kernel
theorem d_Mo_told_111 : decode b_Mo_told 111 = .ok (.ldc2_w 170, 3) := by decide +kernel
theorem d_Mo_told_114 : decode b_Mo_told 114 = .ok (.lreturn, 1) := by decide +kernel
set_option maxHeartbeats 4000000 in
set_option maxRecDepth 100000 in
theorem c_Mo_told (l : Launch) (dC : Nat → ClassId) (dI : Nat → Nat → Nat) (ad : Nat → Nat) (cA : Nat → ClassId) (th yr : Int32) (nf no nt : Nat) (bd : Int32) (nb : Nat) (fl : Int32) (AI : Nat → Nat → Int32) (AN : Nat → Nat → Nat) (AB : Nat → Nat → Bool) (AL : Nat → Nat → Int64) (sz : Nat) (i0 w0 : Int32) (hI : InvM nf no nt nb AI AN) : Met l y_Mo_told w_Mo_told { frames := 1, cells := 0, slots := 0, locals := 25 } (mu_P (dC, dI) classes (mtys cA) (mw ad cA th yr nf no nt bd nb fl AI AN AB AL) sz [.ref (ad 0), .int i0, .int w0]) (va_Ql (fun r u => (r, u) = m_told (th, yr, nf, no, nt, bd, nb, fl, AI, AN, AB, AL) i0 w0) (mu_B (dC, dI) classes (mtys cA) (va_A (mw ad cA th yr nf no nt bd nb fl AI AN AB AL) sz) (mwS ad cA)) (va_A (mw ad cA th yr nf no nt bd nb fl AI AN AB AL) sz)) 0 0 (va_A (mw ad cA th yr nf no nt bd nb fl AI AN AB AL) sz) := by
  refine Met.ofW (cc := b_Mo_told) (maxL := 3) (ret := (some .long)) (by decide) rfl ?_
  intro p e s m args below meth c s₁ B hml hv
  obtain ⟨rfl, hsz, hP, hK, hD0, hN⟩ := hv
  have hx := B.exec
  have hb := B.bytes
  have hr := B.returns
  have hts := atoms_spec (ws := w_Mo_told) B.pre
  have hG := fun (w : Cond) (h : w ∈ wG) => hts w (List.mem_cons_of_mem _ h)
  have hown : s.vm.findClass R_Mo = some m.cls := findClass_of_methodNamed B.named
  have hlocks := B.notSynchronized
  subst hsz
  have hD := hD0.self (sz := s.heap.size)
  generalize hAe : va_A (mw ad cA th yr nf no nt bd nb fl AI AN AB AL) s.heap.size = A at hD ⊢
  have hA : ∀ q : Nat, s.heap.size ≤ q → A q := fun q h => by rw [← hAe]; exact Or.inr h
  have hS : va_S A s.heap s.heap [] := va_S.rf
  have hP : va_P (dC, dI) classes (mw ad cA th yr nf no nt bd nb fl AI AN AB AL) s.heap := hP
  have hl := lv_entry ([.ref (ad 0), .int i0, .int w0]) (n := 3) (Nat.le_of_ble_eq_true rfl)
  rw [lg_entry_eq]
  generalize (lg_sl ([.ref (ad 0), .int i0, .int w0]) ++ List.replicate (3 - (lg_sl ([.ref (ad 0), .int i0, .int w0])).length) Slot.unset).toArray = ls at hl ⊢
  have hl : lv_has ls 3 [(0, .ref (ad 0)), (1, .int i0), (2, .int w0)] := hl
  obtain ⟨hnf, hno, hnt, hnb, hfu, hft, hbf, hrw, hce, hdn⟩ := id hI
  refine lv_aload_n hx hb d_Mo_told_0 rfl (lv_at hl 0 rfl) ?_
  refine lv_iconst (v := 0) hx hb d_Mo_told_1 (by decide) ?_
  refine va_put (D := (dC, dI)) (ci := 7) (v := .int 0) (ty := .int) (C := R_Mo) (T := F_Mo) (N := 31) hx hb hG iG_Mo t_Mo t_Mo_ok n_Mo hown hK hP hD hS 0 rfl rfl 0 (by decide) (hG _ k_523) (fun _ h9 => h9) rfl (by decide +kernel) rfl rfl (Nat.le_of_ble_eq_true rfl) d_Mo_told_2 (fun H locs hP hD hS => ?_)
  have hP : va_P (dC, dI) classes (mw ad cA 0 yr nf no nt bd nb fl AI AN AB AL) H := hP
  have hD : va_D A (mw ad cA 0 yr nf no nt bd nb fl AI AN AB AL) := hD
  refine lv_iload_n hx hb d_Mo_told_5 rfl (lv_at hl 1 rfl) ?_
  refine lv_i2l hx hb d_Mo_told_6 rfl ?_
  refine lv_lconst (v := 0) hx hb d_Mo_told_7 (by decide) ?_
  refine lv_aload_n hx hb d_Mo_told_8 rfl (lv_at hl 0 rfl) ?_
  refine va_get (D := (dC, dI)) (ci := 7) (v := .int (nI no)) (C := R_Mo) (T := F_Mo) (N := 31) hx hb hG iG_Mo hown hK hP 0 rfl rfl 6 (by decide) (hG _ k_529) (fun _ h9 => h9) rfl d_Mo_told_9 ?_
  refine lv_iconst (v := 1) hx hb d_Mo_told_12 (by decide) ?_
  refine lv_isub hx hb d_Mo_told_13 ?_
  refine lv_i2l hx hb d_Mo_told_14 rfl ?_
  refine rd_calli (va_runS (As := [.long (i0.toInt64), .long 0, .long ((nI no - 1).toInt64)]) (rest := []) ⟨hx, hb, hml, hown, hts⟩ (c_Mo_in l dC dI (mtys cA) (mw ad cA 0 yr nf no nt bd nb fl AI AN AB AL) (i0.toInt64) 0 ((nI no - 1).toInt64)) (cwS 3 hts (gd_S k_629 k_630 k_17 k_631) rfl rfl rfl (by decide +kernel) ⟨Nat.le_of_ble_eq_true rfl, Nat.le_of_ble_eq_true rfl⟩) (rd_preS hK hN hP) rfl rfl hl.1 rfl (lv_room (Nat.le_of_ble_eq_true rfl)) d_Mo_told_15 ⟨Nat.zero_le _, Nat.zero_le _⟩) (fun r_1 hr_1 => ?_)
  subst hr_1
  refine lb_if_ne (tgt := 25) hx hb d_Mo_told_18 (by decide) (fun c_2 => ?_) (fun c_2 => ?_)
  · obtain ⟨j, hj, rfl⟩ := inN_of (n := no) (by omega) c_2
    have ej : (nI j).toNatClampNeg = j := nI_clamp (by omega)
    have c_2n : inN (nI j) no = true := c_2
    refine lv_iload_n hx hb d_Mo_told_25 rfl (lv_at hl 2 rfl) ?_
    by_cases s_3 : w0 = 0
    · refine lv_tableIn (off := 38) (tgt := 64) hx hb d_Mo_told_26 (by rw [s_3]; decide) (by rw [s_3]; decide) (by rw [s_3]; decide) (by decide) ?_
      refine lv_aload_n hx hb d_Mo_told_64 rfl (lv_at hl 0 rfl) ?_
      refine va_get (D := (dC, dI)) (ci := 7) (v := .ref (ad 4)) (C := R_Mo) (T := F_Mo) (N := 31) hx hb hG iG_Mo hown hK hP 0 rfl rfl 7 (by decide) (hG _ k_530) (fun _ h9 => h9) rfl d_Mo_told_65 ?_
      refine lv_iload_n hx hb d_Mo_told_68 rfl (lv_at hl 1 rfl) ?_
      refine rn_iald (n := 300) (j := j) (g := AN 4) hx hb hK hP 4 3 rfl rfl (by omega) (by decide) d_Mo_told_69 ?_
      refine lv_i2l hx hb d_Mo_told_70 rfl ?_
      exact W.lret (v := ((nI ((AN 4 j))).toInt64)) hx hb hr (fun t ht hW => ⟨⟨_, (0, yr, nf, no, nt, bd, nb, fl, AI, AN, AB, AL), rfl, (by simp [m_told, ixn, bI, ej, c_2, c_2n, s_3] <;> (repeat' apply And.intro) <;> rfl), by rw [ht]; exact hP, va_K.moved hW.alike hK, hD⟩, hS.F ht⟩) hS.2.2 d_Mo_told_71
    · by_cases s_4 : w0 = 1
      · refine lv_tableIn (off := 46) (tgt := 72) hx hb d_Mo_told_26 (by rw [s_4]; decide) (by rw [s_4]; decide) (by rw [s_4]; decide) (by decide) ?_
        refine lv_aload_n hx hb d_Mo_told_72 rfl (lv_at hl 0 rfl) ?_
        refine va_get (D := (dC, dI)) (ci := 7) (v := .ref (ad 5)) (C := R_Mo) (T := F_Mo) (N := 31) hx hb hG iG_Mo hown hK hP 0 rfl rfl 8 (by decide) (hG _ k_531) (fun _ h9 => h9) rfl d_Mo_told_73 ?_
        refine lv_iload_n hx hb d_Mo_told_76 rfl (lv_at hl 1 rfl) ?_
        refine ra_iald (n := 300) (j := j) (f := AI 5) hx hb hK hP 5 4 rfl rfl (by omega) (by decide) d_Mo_told_77 ?_
        refine lv_i2l hx hb d_Mo_told_78 rfl ?_
        exact W.lret (v := ((AI 5 j).toInt64)) hx hb hr (fun t ht hW => ⟨⟨_, (0, yr, nf, no, nt, bd, nb, fl, AI, AN, AB, AL), rfl, (by simp [m_told, ixn, bI, ej, c_2, c_2n, s_3, s_4] <;> (repeat' apply And.intro) <;> rfl), by rw [ht]; exact hP, va_K.moved hW.alike hK, hD⟩, hS.F ht⟩) hS.2.2 d_Mo_told_79
      · by_cases s_5 : w0 = 2
        · refine lv_tableIn (off := 54) (tgt := 80) hx hb d_Mo_told_26 (by rw [s_5]; decide) (by rw [s_5]; decide) (by rw [s_5]; decide) (by decide) ?_
          refine lv_aload_n hx hb d_Mo_told_80 rfl (lv_at hl 0 rfl) ?_
          refine va_get (D := (dC, dI)) (ci := 7) (v := .ref (ad 7)) (C := R_Mo) (T := F_Mo) (N := 31) hx hb hG iG_Mo hown hK hP 0 rfl rfl 10 (by decide) (hG _ k_533) (fun _ h9 => h9) rfl d_Mo_told_81 ?_
          refine lv_iload_n hx hb d_Mo_told_84 rfl (lv_at hl 1 rfl) ?_
          refine ra_iald (n := 300) (j := j) (f := AI 7) hx hb hK hP 7 6 rfl rfl (by omega) (by decide) d_Mo_told_85 ?_
          refine lv_i2l hx hb d_Mo_told_86 rfl ?_
          exact W.lret (v := ((AI 7 j).toInt64)) hx hb hr (fun t ht hW => ⟨⟨_, (0, yr, nf, no, nt, bd, nb, fl, AI, AN, AB, AL), rfl, (by simp [m_told, ixn, bI, ej, c_2, c_2n, s_3, s_4, s_5] <;> (repeat' apply And.intro) <;> rfl), by rw [ht]; exact hP, va_K.moved hW.alike hK, hD⟩, hS.F ht⟩) hS.2.2 d_Mo_told_87
        · by_cases s_6 : w0 = 3
          · refine lv_tableIn (off := 62) (tgt := 88) hx hb d_Mo_told_26 (by rw [s_6]; decide) (by rw [s_6]; decide) (by rw [s_6]; decide) (by decide) ?_
            refine lv_aload_n hx hb d_Mo_told_88 rfl (lv_at hl 0 rfl) ?_
            refine va_get (D := (dC, dI)) (ci := 7) (v := .ref (ad 9)) (C := R_Mo) (T := F_Mo) (N := 31) hx hb hG iG_Mo hown hK hP 0 rfl rfl 12 (by decide) (hG _ k_535) (fun _ h9 => h9) rfl d_Mo_told_89 ?_
            refine lv_iload_n hx hb d_Mo_told_92 rfl (lv_at hl 1 rfl) ?_
            refine ra_iald (n := 300) (j := j) (f := AI 9) hx hb hK hP 9 8 rfl rfl (by omega) (by decide) d_Mo_told_93 ?_
            refine lv_i2l hx hb d_Mo_told_94 rfl ?_
            exact W.lret (v := ((AI 9 j).toInt64)) hx hb hr (fun t ht hW => ⟨⟨_, (0, yr, nf, no, nt, bd, nb, fl, AI, AN, AB, AL), rfl, (by simp [m_told, ixn, bI, ej, c_2, c_2n, s_3, s_4, s_5, s_6] <;> (repeat' apply And.intro) <;> rfl), by rw [ht]; exact hP, va_K.moved hW.alike hK, hD⟩, hS.F ht⟩) hS.2.2 d_Mo_told_95
          · by_cases s_7 : w0 = 4
            · refine lv_tableIn (off := 70) (tgt := 96) hx hb d_Mo_told_26 (by rw [s_7]; decide) (by rw [s_7]; decide) (by rw [s_7]; decide) (by decide) ?_
              refine lv_aload_n hx hb d_Mo_told_96 rfl (lv_at hl 0 rfl) ?_
              refine va_get (D := (dC, dI)) (ci := 7) (v := .ref (ad 10)) (C := R_Mo) (T := F_Mo) (N := 31) hx hb hG iG_Mo hown hK hP 0 rfl rfl 13 (by decide) (hG _ k_536) (fun _ h9 => h9) rfl d_Mo_told_97 ?_
              refine lv_iload_n hx hb d_Mo_told_100 rfl (lv_at hl 1 rfl) ?_
              refine ra_lald (n := 300) (j := j) (f := AL 10) hx hb hK hP 10 9 rfl rfl (by omega) (by decide) d_Mo_told_101 ?_
              exact W.lret (v := (AL 10 j)) hx hb hr (fun t ht hW => ⟨⟨_, (0, yr, nf, no, nt, bd, nb, fl, AI, AN, AB, AL), rfl, (by simp [m_told, ixn, bI, ej, c_2, c_2n, s_3, s_4, s_5, s_6, s_7] <;> (repeat' apply And.intro) <;> rfl), by rw [ht]; exact hP, va_K.moved hW.alike hK, hD⟩, hS.F ht⟩) hS.2.2 d_Mo_told_102
            · by_cases s_8 : w0 = 5
              · refine lv_tableIn (off := 77) (tgt := 103) hx hb d_Mo_told_26 (by rw [s_8]; decide) (by rw [s_8]; decide) (by rw [s_8]; decide) (by decide) ?_
                refine lv_aload_n hx hb d_Mo_told_103 rfl (lv_at hl 0 rfl) ?_
                refine va_get (D := (dC, dI)) (ci := 7) (v := .ref (ad 11)) (C := R_Mo) (T := F_Mo) (N := 31) hx hb hG iG_Mo hown hK hP 0 rfl rfl 14 (by decide) (hG _ k_537) (fun _ h9 => h9) rfl d_Mo_told_104 ?_
                refine lv_iload_n hx hb d_Mo_told_107 rfl (lv_at hl 1 rfl) ?_
                refine ra_iald (n := 300) (j := j) (f := AI 11) hx hb hK hP 11 10 rfl rfl (by omega) (by decide) d_Mo_told_108 ?_
                refine lv_i2l hx hb d_Mo_told_109 rfl ?_
                exact W.lret (v := ((AI 11 j).toInt64)) hx hb hr (fun t ht hW => ⟨⟨_, (0, yr, nf, no, nt, bd, nb, fl, AI, AN, AB, AL), rfl, (by simp [m_told, ixn, bI, ej, c_2, c_2n, s_3, s_4, s_5, s_6, s_7, s_8] <;> (repeat' apply And.intro) <;> rfl), by rw [ht]; exact hP, va_K.moved hW.alike hK, hD⟩, hS.F ht⟩) hS.2.2 d_Mo_told_110
              · refine lv_tableOut (tgt := 111) hx hb d_Mo_told_26 (by have h9 := And.intro trivial trivial; have := lv_neT s_3 (show (0 : Int32).toInt = 0 by decide); have := lv_neT s_4 (show (1 : Int32).toInt = 1 by decide); have := lv_neT s_5 (show (2 : Int32).toInt = 2 by decide); have := lv_neT s_6 (show (3 : Int32).toInt = 3 by decide); have := lv_neT s_7 (show (4 : Int32).toInt = 4 by decide); have := lv_neT s_8 (show (5 : Int32).toInt = 5 by decide); omega) (by decide) ?_
                refine lv_ldc2 (own := R_Mo) (v := (-1000000000000000001)) hx hb hown (hG _ k_731) d_Mo_told_111 ?_
                exact W.lret (v := (-1000000000000000001)) hx hb hr (fun t ht hW => ⟨⟨_, (0, yr, nf, no, nt, bd, nb, fl, AI, AN, AB, AL), rfl, (by simp [m_told, ixn, bI, ej, c_2, c_2n, s_3, s_4, s_5, s_6, s_7, s_8] <;> (repeat' apply And.intro) <;> rfl), by rw [ht]; exact hP, va_K.moved hW.alike hK, hD⟩, hS.F ht⟩) hS.2.2 d_Mo_told_114
  · have c_2n : inN i0 no = false := c_2
    refine lv_ldc2 (own := R_Mo) (v := (-1000000000000000001)) hx hb hown (hG _ k_731) d_Mo_told_21 ?_
    exact W.lret (v := (-1000000000000000001)) hx hb hr (fun t ht hW => ⟨⟨_, (0, yr, nf, no, nt, bd, nb, fl, AI, AN, AB, AL), rfl, (by simp [m_told, ixn, bI, c_2, c_2n] <;> (repeat' apply And.intro) <;> rfl), by rw [ht]; exact hP, va_K.moved hW.alike hK, hD⟩, hS.F ht⟩) hS.2.2 d_Mo_told_24

theorem d_Mo_sum_0 : decode b_Mo_sum 0 = .ok (.aload_n 0, 1) := by decide +kernel
theorem d_Mo_sum_1 : decode b_Mo_sum 1 = .ok (.iconst 0, 1) := by decide +kernel
theorem d_Mo_sum_2 : decode b_Mo_sum 2 = .ok (.putfield 91, 3) := by decide +kernel
theorem d_Mo_sum_5 : decode b_Mo_sum 5 = .ok (.iload_n 1, 1) := by decide +kernel
theorem d_Mo_sum_6 : decode b_Mo_sum 6 = .ok (.ifCond .ne 35, 3) := by decide +kernel
theorem d_Mo_sum_9 : decode b_Mo_sum 9 = .ok (.lconst 0, 1) := by decide +kernel
theorem d_Mo_sum_10 : decode b_Mo_sum 10 = .ok (.lstore_n 2, 1) := by decide +kernel
theorem d_Mo_sum_11 : decode b_Mo_sum 11 = .ok (.iconst 0, 1) := by decide +kernel
theorem d_Mo_sum_12 : decode b_Mo_sum 12 = .ok (.istore 4, 2) := by decide +kernel
theorem d_Mo_sum_14 : decode b_Mo_sum 14 = .ok (.iload 4, 2) := by decide +kernel
theorem d_Mo_sum_16 : decode b_Mo_sum 16 = .ok (.aload_n 0, 1) := by decide +kernel
theorem d_Mo_sum_17 : decode b_Mo_sum 17 = .ok (.getfield 94, 3) := by decide +kernel
theorem d_Mo_sum_20 : decode b_Mo_sum 20 = .ok (.if_icmp .ge 19, 3) := by decide +kernel
theorem d_Mo_sum_23 : decode b_Mo_sum 23 = .ok (.lload_n 2, 1) := by decide +kernel
theorem d_Mo_sum_24 : decode b_Mo_sum 24 = .ok (.aload_n 0, 1) := by decide +kernel
theorem d_Mo_sum_25 : decode b_Mo_sum 25 = .ok (.getfield 13, 3) := by decide +kernel
theorem d_Mo_sum_28 : decode b_Mo_sum 28 = .ok (.iload 4, 2) := by decide +kernel
theorem d_Mo_sum_30 : decode b_Mo_sum 30 = .ok (.laload, 1) := by decide +kernel
theorem d_Mo_sum_31 : decode b_Mo_sum 31 = .ok (.ladd, 1) := by decide +kernel
theorem d_Mo_sum_32 : decode b_Mo_sum 32 = .ok (.lstore_n 2, 1) := by decide +kernel
theorem d_Mo_sum_33 : decode b_Mo_sum 33 = .ok (.iinc 4 1, 3) := by decide +kernel
theorem d_Mo_sum_36 : decode b_Mo_sum 36 = .ok (.goto (-22), 3) := by decide +kernel
theorem d_Mo_sum_39 : decode b_Mo_sum 39 = .ok (.lload_n 2, 1) := by decide +kernel
theorem d_Mo_sum_40 : decode b_Mo_sum 40 = .ok (.lreturn, 1) := by decide +kernel
theorem d_Mo_sum_41 : decode b_Mo_sum 41 = .ok (.iload_n 1, 1) := by decide +kernel
theorem d_Mo_sum_42 : decode b_Mo_sum 42 = .ok (.iconst 1, 1) := by decide +kernel
theorem d_Mo_sum_43 : decode b_Mo_sum 43 = .ok (.if_icmp .ne 11, 3) := by decide +kernel
theorem d_Mo_sum_46 : decode b_Mo_sum 46 = .ok (.aload_n 0, 1) := by decide +kernel
theorem d_Mo_sum_47 : decode b_Mo_sum 47 = .ok (.getfield 88, 3) := by decide +kernel
theorem d_Mo_sum_50 : decode b_Mo_sum 50 = .ok (.i2l, 1) := by decide +kernel
theorem d_Mo_sum_51 : decode b_Mo_sum 51 = .ok (.goto 32, 3) := by decide +kernel
theorem d_Mo_sum_54 : decode b_Mo_sum 54 = .ok (.iload_n 1, 1) := by decide +kernel
theorem d_Mo_sum_55 : decode b_Mo_sum 55 = .ok (.iconst 2, 1) := by decide +kernel
theorem d_Mo_sum_56 : decode b_Mo_sum 56 = .ok (.if_icmp .ne 11, 3) := by decide +kernel
theorem d_Mo_sum_59 : decode b_Mo_sum 59 = .ok (.aload_n 0, 1) := by decide +kernel
theorem d_Mo_sum_60 : decode b_Mo_sum 60 = .ok (.getfield 101, 3) := by decide +kernel
theorem d_Mo_sum_63 : decode b_Mo_sum 63 = .ok (.i2l, 1) := by decide +kernel
theorem d_Mo_sum_64 : decode b_Mo_sum 64 = .ok (.goto 19, 3) := by decide +kernel
theorem d_Mo_sum_67 : decode b_Mo_sum 67 = .ok (.iload_n 1, 1) := by decide +kernel
theorem d_Mo_sum_68 : decode b_Mo_sum 68 = .ok (.iconst 3, 1) := by decide +kernel
theorem d_Mo_sum_69 : decode b_Mo_sum 69 = .ok (.if_icmp .ne 11, 3) := by decide +kernel
theorem d_Mo_sum_72 : decode b_Mo_sum 72 = .ok (.aload_n 0, 1) := by decide +kernel
theorem d_Mo_sum_73 : decode b_Mo_sum 73 = .ok (.getfield 159, 3) := by decide +kernel
theorem d_Mo_sum_76 : decode b_Mo_sum 76 = .ok (.i2l, 1) := by decide +kernel
theorem d_Mo_sum_77 : decode b_Mo_sum 77 = .ok (.goto 6, 3) := by decide +kernel
theorem d_Mo_sum_80 : decode b_Mo_sum 80 = .ok (.ldc2_w 135, 3) := by decide +kernel
theorem d_Mo_sum_83 : decode b_Mo_sum 83 = .ok (.lreturn, 1) := by decide +kernel
set_option maxHeartbeats 4000000 in
set_option maxRecDepth 100000 in
theorem lp_Mo_sum {p : Program} {l : Launch} {e : Env} {s : State} {m : MethodId} {args : Array Value} {below : List Frame} {meth : Method} {c : Code} {Q : State → Prop} {R : Room} {H : Heap} {locs : List Loc} {cells slots : Nat} {dC : Nat → ClassId} {dI : Nat → Nat → Nat} {ad : Nat → Nat} {cA : Nat → ClassId} {th yr : Int32} {nf no nt : Nat} {bd : Int32} {nb : Nat} {fl : Int32} {AI : Nat → Nat → Int32} {AN : Nat → Nat → Nat} {AB : Nat → Nat → Bool} {AL : Nat → Nat → Int64} (hx : p.tables.exec = Jvm.exec) (hb : c.code = b_Mo_sum) (hml : c.maxLocals = 5) (hown : s.vm.findClass R_Mo = some m.cls) (hts : ∀ w ∈ w_Mo_sum, w.before args s = true) (hK : va_K (dC, dI) classes (mtys cA) s) (hP : va_P (dC, dI) classes (mw ad cA th yr nf no nt bd nb fl AI AN AB AL) H) (hnf : nf ≤ 30) (w0 : Int32)
    (exit : ∀ ls : Array Slot, lv_has ls 5 [(4, .int (nI nf)), (2, .long (sumL (AL 2) nf)), (0, .ref (ad 0)), (1, .int w0)] → W p l e R s m args below meth c H locs cells slots Q (F0 m 39 ls [])) :
    ∀ n i : Nat, i ≤ nf → nf + 1 ≤ i + n → ∀ ls : Array Slot, lv_has ls 5 [(4, .int (nI i)), (2, .long (sumL (AL 2) i)), (0, .ref (ad 0)), (1, .int w0)] → W p l e R s m args below meth c H locs cells slots Q (F0 m 14 ls []) := by
  have hG := fun (w : Cond) (h : w ∈ wG) => hts w (List.mem_cons_of_mem _ h)
  intro n
  induction n with
  | zero =>
    intro i h1 h2
    omega
  | succ n ih =>
    intro i hi hin ls hl
    refine lv_iload hx hb d_Mo_sum_14 (lv_at hl 0 rfl) ?_
    refine lv_aload_n hx hb d_Mo_sum_16 rfl (lv_at hl 2 rfl) ?_
    refine va_get (D := (dC, dI)) (ci := 7) (v := .int (nI nf)) (C := R_Mo) (T := F_Mo) (N := 31) hx hb hG iG_Mo hown hK hP 0 rfl rfl 2 (by decide) (hG _ k_525) (fun _ h9 => h9) rfl d_Mo_sum_17 ?_
    refine lv_icmp_ge (tgt := 39) hx hb d_Mo_sum_20 (by decide) (fun c_1 => ?_) (fun c_1 => ?_)
    · obtain rfl : i = nf := by have := (nI_leI (by omega) (by omega)).mp c_1; omega
      exact exit ls (lv_sub hl [0, 1, 2, 3] rfl)
    · have hlt : i < nf := by have h9 := c_1; rw [nI_leI (by omega) (by omega)] at h9; omega
      refine lv_lload_n hx hb d_Mo_sum_23 rfl (lv_at hl 1 rfl) ?_
      refine lv_aload_n hx hb d_Mo_sum_24 rfl (lv_at hl 2 rfl) ?_
      refine va_get (D := (dC, dI)) (ci := 7) (v := .ref (ad 2)) (C := R_Mo) (T := F_Mo) (N := 31) hx hb hG iG_Mo hown hK hP 0 rfl rfl 4 (by decide) (hG _ k_527) (fun _ h9 => h9) rfl d_Mo_sum_25 ?_
      refine lv_iload hx hb d_Mo_sum_28 (lv_at hl 0 rfl) ?_
      refine ra_lald (n := 30) (j := i) (f := AL 2) hx hb hK hP 2 1 rfl rfl (by omega) (by decide) d_Mo_sum_30 ?_
      refine lv_ladd hx hb d_Mo_sum_31 ?_
      refine lv_topL (y := sumL (AL 2) (i + 1)) rfl ?_
      refine lv_lstore_n (lv' := [(2, .long (sumL (AL 2) (i + 1))), (4, .int (nI i)), (0, .ref (ad 0)), (1, .int w0)]) hx hb d_Mo_sum_32 rfl hl (by decide) rfl (fun ls hl => ?_)
      refine lv_iinc (v := nI (i + 1)) (lv' := [(4, .int (nI (i + 1))), (2, .long (sumL (AL 2) (i + 1))), (0, .ref (ad 0)), (1, .int w0)]) hx hb d_Mo_sum_33 hl (k := 1) rfl (nI_1 i) (by decide) rfl (fun ls hl => ?_)
      refine lv_goto (tgt := 14) hx hb d_Mo_sum_36 (by decide) ?_
      exact ih (i + 1) (by omega) (by omega) ls (lv_sub hl [0, 1, 2, 3] rfl)
set_option maxHeartbeats 4000000 in
set_option maxRecDepth 100000 in
theorem c_Mo_sum (l : Launch) (dC : Nat → ClassId) (dI : Nat → Nat → Nat) (ad : Nat → Nat) (cA : Nat → ClassId) (th yr : Int32) (nf no nt : Nat) (bd : Int32) (nb : Nat) (fl : Int32) (AI : Nat → Nat → Int32) (AN : Nat → Nat → Nat) (AB : Nat → Nat → Bool) (AL : Nat → Nat → Int64) (sz : Nat) (w0 : Int32) (hI : InvM nf no nt nb AI AN) : Met l y_Mo_sum w_Mo_sum { frames := 0, cells := 0, slots := 0, locals := 0 } (mu_P (dC, dI) classes (mtys cA) (mw ad cA th yr nf no nt bd nb fl AI AN AB AL) sz [.ref (ad 0), .int w0]) (va_Ql (fun r u => (r, u) = m_sum (th, yr, nf, no, nt, bd, nb, fl, AI, AN, AB, AL) w0) (mu_B (dC, dI) classes (mtys cA) (va_A (mw ad cA th yr nf no nt bd nb fl AI AN AB AL) sz) (mwS ad cA)) (va_A (mw ad cA th yr nf no nt bd nb fl AI AN AB AL) sz)) 0 0 (va_A (mw ad cA th yr nf no nt bd nb fl AI AN AB AL) sz) := by
  refine Met.ofW (cc := b_Mo_sum) (maxL := 5) (ret := (some .long)) (by decide) rfl ?_
  intro p e s m args below meth c s₁ B hml hv
  obtain ⟨rfl, hsz, hP, hK, hD0, hN⟩ := hv
  have hx := B.exec
  have hb := B.bytes
  have hr := B.returns
  have hts := atoms_spec (ws := w_Mo_sum) B.pre
  have hG := fun (w : Cond) (h : w ∈ wG) => hts w (List.mem_cons_of_mem _ h)
  have hown : s.vm.findClass R_Mo = some m.cls := findClass_of_methodNamed B.named
  have hlocks := B.notSynchronized
  subst hsz
  have hD := hD0.self (sz := s.heap.size)
  generalize hAe : va_A (mw ad cA th yr nf no nt bd nb fl AI AN AB AL) s.heap.size = A at hD ⊢
  have hA : ∀ q : Nat, s.heap.size ≤ q → A q := fun q h => by rw [← hAe]; exact Or.inr h
  have hS : va_S A s.heap s.heap [] := va_S.rf
  have hP : va_P (dC, dI) classes (mw ad cA th yr nf no nt bd nb fl AI AN AB AL) s.heap := hP
  have hl := lv_entry ([.ref (ad 0), .int w0]) (n := 5) (Nat.le_of_ble_eq_true rfl)
  rw [lg_entry_eq]
  generalize (lg_sl ([.ref (ad 0), .int w0]) ++ List.replicate (5 - (lg_sl ([.ref (ad 0), .int w0])).length) Slot.unset).toArray = ls at hl ⊢
  have hl : lv_has ls 5 [(0, .ref (ad 0)), (1, .int w0)] := hl
  obtain ⟨hnf, hno, hnt, hnb, hfu, hft, hbf, hrw, hce, hdn⟩ := id hI
  refine lv_aload_n hx hb d_Mo_sum_0 rfl (lv_at hl 0 rfl) ?_
  refine lv_iconst (v := 0) hx hb d_Mo_sum_1 (by decide) ?_
  refine va_put (D := (dC, dI)) (ci := 7) (v := .int 0) (ty := .int) (C := R_Mo) (T := F_Mo) (N := 31) hx hb hG iG_Mo t_Mo t_Mo_ok n_Mo hown hK hP hD hS 0 rfl rfl 0 (by decide) (hG _ k_523) (fun _ h9 => h9) rfl (by decide +kernel) rfl rfl (Nat.le_of_ble_eq_true rfl) d_Mo_sum_2 (fun H locs hP hD hS => ?_)
  have hP : va_P (dC, dI) classes (mw ad cA 0 yr nf no nt bd nb fl AI AN AB AL) H := hP
  have hD : va_D A (mw ad cA 0 yr nf no nt bd nb fl AI AN AB AL) := hD
  refine lv_iload_n hx hb d_Mo_sum_5 rfl (lv_at hl 1 rfl) ?_
  refine lv_if_ne (tgt := 41) hx hb d_Mo_sum_6 (by decide) (fun c_1 => ?_) (fun c_1 => ?_)
  · refine lv_iload_n hx hb d_Mo_sum_41 rfl (lv_at hl 1 rfl) ?_
    refine lv_iconst (v := 1) hx hb d_Mo_sum_42 (by decide) ?_
    refine lv_icmp_ne (tgt := 54) hx hb d_Mo_sum_43 (by decide) (fun c_2 => ?_) (fun c_2 => ?_)
    · refine lv_iload_n hx hb d_Mo_sum_54 rfl (lv_at hl 1 rfl) ?_
      refine lv_iconst (v := 2) hx hb d_Mo_sum_55 (by decide) ?_
      refine lv_icmp_ne (tgt := 67) hx hb d_Mo_sum_56 (by decide) (fun c_3 => ?_) (fun c_3 => ?_)
      · refine lv_iload_n hx hb d_Mo_sum_67 rfl (lv_at hl 1 rfl) ?_
        refine lv_iconst (v := 3) hx hb d_Mo_sum_68 (by decide) ?_
        refine lv_icmp_ne (tgt := 80) hx hb d_Mo_sum_69 (by decide) (fun c_4 => ?_) (fun c_4 => ?_)
        · refine lv_ldc2 (own := R_Mo) (v := (-1)) hx hb hown (hG _ k_672) d_Mo_sum_80 ?_
          exact W.lret (v := (-1)) hx hb hr (fun t ht hW => ⟨⟨_, (0, yr, nf, no, nt, bd, nb, fl, AI, AN, AB, AL), rfl, (by simp [m_sum, ixn, bI, c_1, c_2, c_3, c_4] <;> (repeat' apply And.intro) <;> rfl), by rw [ht]; exact hP, va_K.moved hW.alike hK, hD⟩, hS.F ht⟩) hS.2.2 d_Mo_sum_83
        · refine lv_aload_n hx hb d_Mo_sum_72 rfl (lv_at hl 0 rfl) ?_
          refine va_get (D := (dC, dI)) (ci := 7) (v := .int (nI nt)) (C := R_Mo) (T := F_Mo) (N := 31) hx hb hG iG_Mo hown hK hP 0 rfl rfl 16 (by decide) (hG _ k_539) (fun _ h9 => h9) rfl d_Mo_sum_73 ?_
          refine lv_i2l hx hb d_Mo_sum_76 rfl ?_
          refine lv_goto (tgt := 83) hx hb d_Mo_sum_77 (by decide) ?_
          exact W.lret (v := ((nI nt).toInt64)) hx hb hr (fun t ht hW => ⟨⟨_, (0, yr, nf, no, nt, bd, nb, fl, AI, AN, AB, AL), rfl, (by simp [m_sum, ixn, bI, c_1, c_2, c_3, c_4] <;> (repeat' apply And.intro) <;> rfl), by rw [ht]; exact hP, va_K.moved hW.alike hK, hD⟩, hS.F ht⟩) hS.2.2 d_Mo_sum_83
      · refine lv_aload_n hx hb d_Mo_sum_59 rfl (lv_at hl 0 rfl) ?_
        refine va_get (D := (dC, dI)) (ci := 7) (v := .int (nI no)) (C := R_Mo) (T := F_Mo) (N := 31) hx hb hG iG_Mo hown hK hP 0 rfl rfl 6 (by decide) (hG _ k_529) (fun _ h9 => h9) rfl d_Mo_sum_60 ?_
        refine lv_i2l hx hb d_Mo_sum_63 rfl ?_
        refine lv_goto (tgt := 83) hx hb d_Mo_sum_64 (by decide) ?_
        exact W.lret (v := ((nI no).toInt64)) hx hb hr (fun t ht hW => ⟨⟨_, (0, yr, nf, no, nt, bd, nb, fl, AI, AN, AB, AL), rfl, (by simp [m_sum, ixn, bI, c_1, c_2, c_3] <;> (repeat' apply And.intro) <;> rfl), by rw [ht]; exact hP, va_K.moved hW.alike hK, hD⟩, hS.F ht⟩) hS.2.2 d_Mo_sum_83
    · refine lv_aload_n hx hb d_Mo_sum_46 rfl (lv_at hl 0 rfl) ?_
      refine va_get (D := (dC, dI)) (ci := 7) (v := .int yr) (C := R_Mo) (T := F_Mo) (N := 31) hx hb hG iG_Mo hown hK hP 0 rfl rfl 1 (by decide) (hG _ k_524) (fun _ h9 => h9) rfl d_Mo_sum_47 ?_
      refine lv_i2l hx hb d_Mo_sum_50 rfl ?_
      refine lv_goto (tgt := 83) hx hb d_Mo_sum_51 (by decide) ?_
      exact W.lret (v := (yr.toInt64)) hx hb hr (fun t ht hW => ⟨⟨_, (0, yr, nf, no, nt, bd, nb, fl, AI, AN, AB, AL), rfl, (by simp [m_sum, ixn, bI, c_1, c_2] <;> (repeat' apply And.intro) <;> rfl), by rw [ht]; exact hP, va_K.moved hW.alike hK, hD⟩, hS.F ht⟩) hS.2.2 d_Mo_sum_83
  · refine lv_lconst (v := 0) hx hb d_Mo_sum_9 (by decide) ?_
    refine lv_lstore_n (lv' := [(2, .long 0), (0, .ref (ad 0)), (1, .int w0)]) hx hb d_Mo_sum_10 rfl hl (by decide) rfl (fun ls hl => ?_)
    refine lv_iconst (v := 0) hx hb d_Mo_sum_11 (by decide) ?_
    refine lv_istore (lv' := [(4, .int 0), (2, .long 0), (0, .ref (ad 0)), (1, .int w0)]) hx hb d_Mo_sum_12 hl (by decide) rfl (fun ls hl => ?_)
    refine lp_Mo_sum hx hb hml hown hts hK hP hnf w0 (fun ls hl => ?_) (nf + 1) 0 (by omega) (by omega) ls (lv_sub hl [0, 1, 2, 3] rfl)
    refine lv_lload_n hx hb d_Mo_sum_39 rfl (lv_at hl 1 rfl) ?_
    exact W.lret (v := (sumL (AL 2) nf)) hx hb hr (fun t ht hW => ⟨⟨_, (0, yr, nf, no, nt, bd, nb, fl, AI, AN, AB, AL), rfl, (by simp [m_sum, ixn, bI, c_1] <;> (repeat' apply And.intro) <;> rfl), by rw [ht]; exact hP, va_K.moved hW.alike hK, hD⟩, hS.F ht⟩) hS.2.2 d_Mo_sum_40
end
section
theorem d_Mo_invoice_0 : decode b_Mo_invoice 0 = .ok (.aload_n 0, 1) := by decide +kernel
theorem d_Mo_invoice_1 : decode b_Mo_invoice 1 = .ok (.iconst 0, 1) := by decide +kernel
theorem d_Mo_invoice_2 : decode b_Mo_invoice 2 = .ok (.putfield 91, 3) := by decide +kernel
theorem d_Mo_invoice_5 : decode b_Mo_invoice 5 = .ok (.iload_n 1, 1) := by decide +kernel
theorem d_Mo_invoice_6 : decode b_Mo_invoice 6 = .ok (.i2l, 1) := by decide +kernel
theorem d_Mo_invoice_7 : decode b_Mo_invoice 7 = .ok (.lconst 0, 1) := by decide +kernel
theorem d_Mo_invoice_8 : decode b_Mo_invoice 8 = .ok (.aload_n 0, 1) := by decide +kernel
theorem d_Mo_invoice_9 : decode b_Mo_invoice 9 = .ok (.getfield 101, 3) := by decide +kernel
theorem d_Mo_invoice_12 : decode b_Mo_invoice 12 = .ok (.iconst 1, 1) := by decide +kernel
theorem d_Mo_invoice_13 : decode b_Mo_invoice 13 = .ok (.isub, 1) := by decide +kernel
theorem d_Mo_invoice_14 : decode b_Mo_invoice 14 = .ok (.i2l, 1) := by decide +kernel
theorem d_Mo_invoice_15 : decode b_Mo_invoice 15 = .ok (.invokestatic 97, 3) := by decide +kernel
theorem d_Mo_invoice_18 : decode b_Mo_invoice 18 = .ok (.ifCond .ne 7, 3) := by decide +kernel
theorem d_Mo_invoice_21 : decode b_Mo_invoice 21 = .ok (.ldc2_w 135, 3) := by decide +kernel
theorem d_Mo_invoice_24 : decode b_Mo_invoice 24 = .ok (.lreturn, 1) := by decide +kernel
theorem d_Mo_invoice_25 : decode b_Mo_invoice 25 = .ok (.iload_n 2, 1) := by decide +kernel
theorem d_Mo_invoice_26 : decode b_Mo_invoice 26 = .ok (.i2l, 1) := by decide +kernel
theorem d_Mo_invoice_27 : decode b_Mo_invoice 27 = .ok (.lconst 1, 1) := by decide +kernel
theorem d_Mo_invoice_28 : decode b_Mo_invoice 28 = .ok (.ldc2_w 128, 3) := by decide +kernel
theorem d_Mo_invoice_31 : decode b_Mo_invoice 31 = .ok (.invokestatic 97, 3) := by decide +kernel
theorem d_Mo_invoice_34 : decode b_Mo_invoice 34 = .ok (.ifCond .eq 28, 3) := by decide +kernel
theorem d_Mo_invoice_37 : decode b_Mo_invoice 37 = .ok (.iload_n 3, 1) := by decide +kernel
theorem d_Mo_invoice_38 : decode b_Mo_invoice 38 = .ok (.i2l, 1) := by decide +kernel
theorem d_Mo_invoice_39 : decode b_Mo_invoice 39 = .ok (.lconst 0, 1) := by decide +kernel
theorem d_Mo_invoice_40 : decode b_Mo_invoice 40 = .ok (.ldc2_w 137, 3) := by decide +kernel
theorem d_Mo_invoice_43 : decode b_Mo_invoice 43 = .ok (.invokestatic 97, 3) := by decide +kernel
theorem d_Mo_invoice_46 : decode b_Mo_invoice 46 = .ok (.ifCond .eq 16, 3) := by decide +kernel
theorem d_Mo_invoice_49 : decode b_Mo_invoice 49 = .ok (.iload 4, 2) := by decide +kernel
theorem d_Mo_invoice_51 : decode b_Mo_invoice 51 = .ok (.i2l, 1) := by decide +kernel
theorem d_Mo_invoice_52 : decode b_Mo_invoice 52 = .ok (.lconst 0, 1) := by decide +kernel
theorem d_Mo_invoice_53 : decode b_Mo_invoice 53 = .ok (.ldc2_w 139, 3) := by decide +kernel
theorem d_Mo_invoice_56 : decode b_Mo_invoice 56 = .ok (.invokestatic 97, 3) := by decide +kernel
theorem d_Mo_invoice_59 : decode b_Mo_invoice 59 = .ok (.ifCond .ne 7, 3) := by decide +kernel
theorem d_Mo_invoice_62 : decode b_Mo_invoice 62 = .ok (.ldc2_w 141, 3) := by decide +kernel
theorem d_Mo_invoice_65 : decode b_Mo_invoice 65 = .ok (.lreturn, 1) := by decide +kernel
theorem d_Mo_invoice_66 : decode b_Mo_invoice 66 = .ok (.aload_n 0, 1) := by decide +kernel
theorem d_Mo_invoice_67 : decode b_Mo_invoice 67 = .ok (.getfield 30, 3) := by decide +kernel
theorem d_Mo_invoice_70 : decode b_Mo_invoice 70 = .ok (.iload_n 1, 1) := by decide +kernel
theorem d_Mo_invoice_71 : decode b_Mo_invoice 71 = .ok (.iaload, 1) := by decide +kernel
theorem d_Mo_invoice_72 : decode b_Mo_invoice 72 = .ok (.iconst 1, 1) := by decide +kernel
theorem d_Mo_invoice_73 : decode b_Mo_invoice 73 = .ok (.if_icmp .ne 26, 3) := by decide +kernel
theorem d_Mo_invoice_76 : decode b_Mo_invoice 76 = .ok (.aload_n 0, 1) := by decide +kernel
theorem d_Mo_invoice_77 : decode b_Mo_invoice 77 = .ok (.getfield 26, 3) := by decide +kernel
theorem d_Mo_invoice_80 : decode b_Mo_invoice 80 = .ok (.iload_n 1, 1) := by decide +kernel
theorem d_Mo_invoice_81 : decode b_Mo_invoice 81 = .ok (.baload, 1) := by decide +kernel
theorem d_Mo_invoice_82 : decode b_Mo_invoice 82 = .ok (.ifCond .eq 21, 3) := by decide +kernel
theorem d_Mo_invoice_85 : decode b_Mo_invoice 85 = .ok (.aload_n 0, 1) := by decide +kernel
theorem d_Mo_invoice_86 : decode b_Mo_invoice 86 = .ok (.getfield 45, 3) := by decide +kernel
theorem d_Mo_invoice_89 : decode b_Mo_invoice 89 = .ok (.iload_n 1, 1) := by decide +kernel
theorem d_Mo_invoice_90 : decode b_Mo_invoice 90 = .ok (.iaload, 1) := by decide +kernel
theorem d_Mo_invoice_91 : decode b_Mo_invoice 91 = .ok (.iload 4, 2) := by decide +kernel
theorem d_Mo_invoice_93 : decode b_Mo_invoice 93 = .ok (.bipush 30, 2) := by decide +kernel
theorem d_Mo_invoice_95 : decode b_Mo_invoice 95 = .ok (.idiv, 1) := by decide +kernel
theorem d_Mo_invoice_96 : decode b_Mo_invoice 96 = .ok (.if_icmp .lt 7, 3) := by decide +kernel
theorem d_Mo_invoice_99 : decode b_Mo_invoice 99 = .ok (.ldc2_w 143, 3) := by decide +kernel
theorem d_Mo_invoice_102 : decode b_Mo_invoice 102 = .ok (.lreturn, 1) := by decide +kernel
theorem d_Mo_invoice_103 : decode b_Mo_invoice 103 = .ok (.aload_n 0, 1) := by decide +kernel
theorem d_Mo_invoice_104 : decode b_Mo_invoice 104 = .ok (.iload_n 3, 1) := by decide +kernel
theorem d_Mo_invoice_105 : decode b_Mo_invoice 105 = .ok (.iload 4, 2) := by decide +kernel
theorem d_Mo_invoice_107 : decode b_Mo_invoice 107 = .ok (.invokevirtual 145, 3) := by decide +kernel
theorem d_Mo_invoice_110 : decode b_Mo_invoice 110 = .ok (.istore 5, 2) := by decide +kernel
theorem d_Mo_invoice_112 : decode b_Mo_invoice 112 = .ok (.iload 5, 2) := by decide +kernel
theorem d_Mo_invoice_114 : decode b_Mo_invoice 114 = .ok (.ifCond .ge 11, 3) := by decide +kernel
theorem d_Mo_invoice_117 : decode b_Mo_invoice 117 = .ok (.iload_n 3, 1) := by decide +kernel
theorem d_Mo_invoice_118 : decode b_Mo_invoice 118 = .ok (.ifCond .le 7, 3) := by decide +kernel
theorem d_Mo_invoice_121 : decode b_Mo_invoice 121 = .ok (.ldc2_w 149, 3) := by decide +kernel
theorem d_Mo_invoice_124 : decode b_Mo_invoice 124 = .ok (.lreturn, 1) := by decide +kernel
theorem d_Mo_invoice_125 : decode b_Mo_invoice 125 = .ok (.iload 5, 2) := by decide +kernel
theorem d_Mo_invoice_127 : decode b_Mo_invoice 127 = .ok (.ifCond .ge 8, 3) := by decide +kernel
theorem d_Mo_invoice_130 : decode b_Mo_invoice 130 = .ok (.iload_n 2, 1) := by decide +kernel
theorem d_Mo_invoice_131 : decode b_Mo_invoice 131 = .ok (.i2l, 1) := by decide +kernel
theorem d_Mo_invoice_132 : decode b_Mo_invoice 132 = .ok (.goto 23, 3) := by decide +kernel
theorem d_Mo_invoice_135 : decode b_Mo_invoice 135 = .ok (.iload_n 2, 1) := by decide +kernel
theorem d_Mo_invoice_136 : decode b_Mo_invoice 136 = .ok (.i2l, 1) := by decide +kernel
theorem d_Mo_invoice_137 : decode b_Mo_invoice 137 = .ok (.aload_n 0, 1) := by decide +kernel
theorem d_Mo_invoice_138 : decode b_Mo_invoice 138 = .ok (.getfield 73, 3) := by decide +kernel
theorem d_Mo_invoice_141 : decode b_Mo_invoice 141 = .ok (.iload 5, 2) := by decide +kernel
theorem d_Mo_invoice_143 : decode b_Mo_invoice 143 = .ok (.iaload, 1) := by decide +kernel
theorem d_Mo_invoice_144 : decode b_Mo_invoice 144 = .ok (.i2l, 1) := by decide +kernel
theorem d_Mo_invoice_145 : decode b_Mo_invoice 145 = .ok (.lmul, 1) := by decide +kernel
theorem d_Mo_invoice_146 : decode b_Mo_invoice 146 = .ok (.aload_n 0, 1) := by decide +kernel
theorem d_Mo_invoice_147 : decode b_Mo_invoice 147 = .ok (.getfield 76, 3) := by decide +kernel
theorem d_Mo_invoice_150 : decode b_Mo_invoice 150 = .ok (.iload 5, 2) := by decide +kernel
theorem d_Mo_invoice_152 : decode b_Mo_invoice 152 = .ok (.iaload, 1) := by decide +kernel
theorem d_Mo_invoice_153 : decode b_Mo_invoice 153 = .ok (.i2l, 1) := by decide +kernel
theorem d_Mo_invoice_154 : decode b_Mo_invoice 154 = .ok (.ldiv, 1) := by decide +kernel
theorem d_Mo_invoice_155 : decode b_Mo_invoice 155 = .ok (.lstore 6, 2) := by decide +kernel
theorem d_Mo_invoice_157 : decode b_Mo_invoice 157 = .ok (.aload_n 0, 1) := by decide +kernel
theorem d_Mo_invoice_158 : decode b_Mo_invoice 158 = .ok (.getfield 23, 3) := by decide +kernel
theorem d_Mo_invoice_161 : decode b_Mo_invoice 161 = .ok (.iload_n 1, 1) := by decide +kernel
theorem d_Mo_invoice_162 : decode b_Mo_invoice 162 = .ok (.iaload, 1) := by decide +kernel
theorem d_Mo_invoice_163 : decode b_Mo_invoice 163 = .ok (.i2l, 1) := by decide +kernel
theorem d_Mo_invoice_164 : decode b_Mo_invoice 164 = .ok (.aload_n 0, 1) := by decide +kernel
theorem d_Mo_invoice_165 : decode b_Mo_invoice 165 = .ok (.getfield 63, 3) := by decide +kernel
theorem d_Mo_invoice_168 : decode b_Mo_invoice 168 = .ok (.i2l, 1) := by decide +kernel
theorem d_Mo_invoice_169 : decode b_Mo_invoice 169 = .ok (.lmul, 1) := by decide +kernel
theorem d_Mo_invoice_170 : decode b_Mo_invoice 170 = .ok (.ldc2_w 151, 3) := by decide +kernel
theorem d_Mo_invoice_173 : decode b_Mo_invoice 173 = .ok (.ldiv, 1) := by decide +kernel
theorem d_Mo_invoice_174 : decode b_Mo_invoice 174 = .ok (.lstore 8, 2) := by decide +kernel
theorem d_Mo_invoice_176 : decode b_Mo_invoice 176 = .ok (.lload 6, 2) := by decide +kernel
theorem d_Mo_invoice_178 : decode b_Mo_invoice 178 = .ok (.aload_n 0, 1) := by decide +kernel
theorem d_Mo_invoice_179 : decode b_Mo_invoice 179 = .ok (.getfield 23, 3) := by decide +kernel
theorem d_Mo_invoice_182 : decode b_Mo_invoice 182 = .ok (.iload_n 1, 1) := by decide +kernel
theorem d_Mo_invoice_183 : decode b_Mo_invoice 183 = .ok (.iaload, 1) := by decide +kernel
theorem d_Mo_invoice_184 : decode b_Mo_invoice 184 = .ok (.i2l, 1) := by decide +kernel
theorem d_Mo_invoice_185 : decode b_Mo_invoice 185 = .ok (.lload 8, 2) := by decide +kernel
theorem d_Mo_invoice_187 : decode b_Mo_invoice 187 = .ok (.lsub, 1) := by decide +kernel
theorem d_Mo_invoice_188 : decode b_Mo_invoice 188 = .ok (.aload_n 0, 1) := by decide +kernel
theorem d_Mo_invoice_189 : decode b_Mo_invoice 189 = .ok (.getfield 23, 3) := by decide +kernel
theorem d_Mo_invoice_192 : decode b_Mo_invoice 192 = .ok (.iload_n 1, 1) := by decide +kernel
theorem d_Mo_invoice_193 : decode b_Mo_invoice 193 = .ok (.iaload, 1) := by decide +kernel
theorem d_Mo_invoice_194 : decode b_Mo_invoice 194 = .ok (.i2l, 1) := by decide +kernel
theorem d_Mo_invoice_195 : decode b_Mo_invoice 195 = .ok (.lload 8, 2) := by decide +kernel
theorem d_Mo_invoice_197 : decode b_Mo_invoice 197 = .ok (.ladd, 1) := by decide +kernel
theorem d_Mo_invoice_198 : decode b_Mo_invoice 198 = .ok (.invokestatic 97, 3) := by decide +kernel
theorem d_Mo_invoice_201 : decode b_Mo_invoice 201 = .ok (.ifCond .ne 7, 3) := by decide +kernel
theorem d_Mo_invoice_204 : decode b_Mo_invoice 204 = .ok (.ldc2_w 153, 3) := by decide +kernel
theorem d_Mo_invoice_207 : decode b_Mo_invoice 207 = .ok (.lreturn, 1) := by decide +kernel
theorem d_Mo_invoice_208 : decode b_Mo_invoice 208 = .ok (.aload_n 0, 1) := by decide +kernel
theorem d_Mo_invoice_209 : decode b_Mo_invoice 209 = .ok (.aload_n 0, 1) := by decide +kernel
theorem d_Mo_invoice_210 : decode b_Mo_invoice 210 = .ok (.getfield 20, 3) := by decide +kernel
theorem d_Mo_invoice_213 : decode b_Mo_invoice 213 = .ok (.iload_n 1, 1) := by decide +kernel
theorem d_Mo_invoice_214 : decode b_Mo_invoice 214 = .ok (.iaload, 1) := by decide +kernel
theorem d_Mo_invoice_215 : decode b_Mo_invoice 215 = .ok (.lconst 0, 1) := by decide +kernel
theorem d_Mo_invoice_216 : decode b_Mo_invoice 216 = .ok (.lload 6, 2) := by decide +kernel
theorem d_Mo_invoice_218 : decode b_Mo_invoice 218 = .ok (.aload_n 0, 1) := by decide +kernel
theorem d_Mo_invoice_219 : decode b_Mo_invoice 219 = .ok (.getfield 26, 3) := by decide +kernel
theorem d_Mo_invoice_222 : decode b_Mo_invoice 222 = .ok (.iload_n 1, 1) := by decide +kernel
theorem d_Mo_invoice_223 : decode b_Mo_invoice 223 = .ok (.baload, 1) := by decide +kernel
theorem d_Mo_invoice_224 : decode b_Mo_invoice 224 = .ok (.ifCond .eq 7, 3) := by decide +kernel
theorem d_Mo_invoice_227 : decode b_Mo_invoice 227 = .ok (.lconst 0, 1) := by decide +kernel
theorem d_Mo_invoice_228 : decode b_Mo_invoice 228 = .ok (.goto 10, 3) := by decide +kernel
theorem d_Mo_invoice_231 : decode b_Mo_invoice 231 = .ok (.aload_n 0, 1) := by decide +kernel
theorem d_Mo_invoice_232 : decode b_Mo_invoice 232 = .ok (.getfield 23, 3) := by decide +kernel
theorem d_Mo_invoice_235 : decode b_Mo_invoice 235 = .ok (.iload_n 1, 1) := by decide +kernel
theorem d_Mo_invoice_236 : decode b_Mo_invoice 236 = .ok (.iaload, 1) := by decide +kernel
theorem d_Mo_invoice_237 : decode b_Mo_invoice 237 = .ok (.i2l, 1) := by decide +kernel
theorem d_Mo_invoice_238 : decode b_Mo_invoice 238 = .ok (.invokevirtual 124, 3) := by decide +kernel
theorem d_Mo_invoice_241 : decode b_Mo_invoice 241 = .ok (.ifCond .ne 7, 3) := by decide +kernel
theorem d_Mo_invoice_244 : decode b_Mo_invoice 244 = .ok (.ldc2_w 155, 3) := by decide +kernel
theorem d_Mo_invoice_247 : decode b_Mo_invoice 247 = .ok (.lreturn, 1) := by decide +kernel
theorem d_Mo_invoice_248 : decode b_Mo_invoice 248 = .ok (.aload_n 0, 1) := by decide +kernel
theorem d_Mo_invoice_249 : decode b_Mo_invoice 249 = .ok (.getfield 17, 3) := by decide +kernel
theorem d_Mo_invoice_252 : decode b_Mo_invoice 252 = .ok (.aload_n 0, 1) := by decide +kernel
theorem d_Mo_invoice_253 : decode b_Mo_invoice 253 = .ok (.getfield 20, 3) := by decide +kernel
theorem d_Mo_invoice_256 : decode b_Mo_invoice 256 = .ok (.iload_n 1, 1) := by decide +kernel
theorem d_Mo_invoice_257 : decode b_Mo_invoice 257 = .ok (.iaload, 1) := by decide +kernel
theorem d_Mo_invoice_258 : decode b_Mo_invoice 258 = .ok (.dup2, 1) := by decide +kernel
theorem d_Mo_invoice_259 : decode b_Mo_invoice 259 = .ok (.laload, 1) := by decide +kernel
theorem d_Mo_invoice_260 : decode b_Mo_invoice 260 = .ok (.lload 6, 2) := by decide +kernel
theorem d_Mo_invoice_262 : decode b_Mo_invoice 262 = .ok (.ladd, 1) := by decide +kernel
theorem d_Mo_invoice_263 : decode b_Mo_invoice 263 = .ok (.lastore, 1) := by decide +kernel
theorem d_Mo_invoice_264 : decode b_Mo_invoice 264 = .ok (.aload_n 0, 1) := by decide +kernel
theorem d_Mo_invoice_265 : decode b_Mo_invoice 265 = .ok (.getfield 39, 3) := by decide +kernel
theorem d_Mo_invoice_268 : decode b_Mo_invoice 268 = .ok (.iload_n 1, 1) := by decide +kernel
theorem d_Mo_invoice_269 : decode b_Mo_invoice 269 = .ok (.lload 6, 2) := by decide +kernel
theorem d_Mo_invoice_271 : decode b_Mo_invoice 271 = .ok (.aload_n 0, 1) := by decide +kernel
theorem d_Mo_invoice_272 : decode b_Mo_invoice 272 = .ok (.getfield 23, 3) := by decide +kernel
theorem d_Mo_invoice_275 : decode b_Mo_invoice 275 = .ok (.iload_n 1, 1) := by decide +kernel
theorem d_Mo_invoice_276 : decode b_Mo_invoice 276 = .ok (.iaload, 1) := by decide +kernel
theorem d_Mo_invoice_277 : decode b_Mo_invoice 277 = .ok (.i2l, 1) := by decide +kernel
theorem d_Mo_invoice_278 : decode b_Mo_invoice 278 = .ok (.lsub, 1) := by decide +kernel
theorem d_Mo_invoice_279 : decode b_Mo_invoice 279 = .ok (.lastore, 1) := by decide +kernel
theorem d_Mo_invoice_280 : decode b_Mo_invoice 280 = .ok (.aload_n 0, 1) := by decide +kernel
theorem d_Mo_invoice_281 : decode b_Mo_invoice 281 = .ok (.getfield 42, 3) := by decide +kernel
theorem d_Mo_invoice_284 : decode b_Mo_invoice 284 = .ok (.iload_n 1, 1) := by decide +kernel
theorem d_Mo_invoice_285 : decode b_Mo_invoice 285 = .ok (.dup2, 1) := by decide +kernel
theorem d_Mo_invoice_286 : decode b_Mo_invoice 286 = .ok (.iaload, 1) := by decide +kernel
theorem d_Mo_invoice_287 : decode b_Mo_invoice 287 = .ok (.iconst 1, 1) := by decide +kernel
theorem d_Mo_invoice_288 : decode b_Mo_invoice 288 = .ok (.iadd, 1) := by decide +kernel
theorem d_Mo_invoice_289 : decode b_Mo_invoice 289 = .ok (.iastore, 1) := by decide +kernel
theorem d_Mo_invoice_290 : decode b_Mo_invoice 290 = .ok (.aload_n 0, 1) := by decide +kernel
theorem d_Mo_invoice_291 : decode b_Mo_invoice 291 = .ok (.getfield 45, 3) := by decide +kernel
theorem d_Mo_invoice_294 : decode b_Mo_invoice 294 = .ok (.iload_n 1, 1) := by decide +kernel
theorem d_Mo_invoice_295 : decode b_Mo_invoice 295 = .ok (.iload 4, 2) := by decide +kernel
theorem d_Mo_invoice_297 : decode b_Mo_invoice 297 = .ok (.bipush 30, 2) := by decide +kernel
theorem d_Mo_invoice_299 : decode b_Mo_invoice 299 = .ok (.idiv, 1) := by decide +kernel
theorem d_Mo_invoice_300 : decode b_Mo_invoice 300 = .ok (.iastore, 1) := by decide +kernel
theorem d_Mo_invoice_301 : decode b_Mo_invoice 301 = .ok (.aload_n 0, 1) := by decide +kernel
theorem d_Mo_invoice_302 : decode b_Mo_invoice 302 = .ok (.getfield 26, 3) := by decide +kernel
theorem d_Mo_invoice_305 : decode b_Mo_invoice 305 = .ok (.iload_n 1, 1) := by decide +kernel
theorem d_Mo_invoice_306 : decode b_Mo_invoice 306 = .ok (.baload, 1) := by decide +kernel
theorem d_Mo_invoice_307 : decode b_Mo_invoice 307 = .ok (.ifCond .ne 10, 3) := by decide +kernel
theorem d_Mo_invoice_310 : decode b_Mo_invoice 310 = .ok (.aload_n 0, 1) := by decide +kernel
theorem d_Mo_invoice_311 : decode b_Mo_invoice 311 = .ok (.getfield 30, 3) := by decide +kernel
theorem d_Mo_invoice_314 : decode b_Mo_invoice 314 = .ok (.iload_n 1, 1) := by decide +kernel
theorem d_Mo_invoice_315 : decode b_Mo_invoice 315 = .ok (.iconst 2, 1) := by decide +kernel
theorem d_Mo_invoice_316 : decode b_Mo_invoice 316 = .ok (.iastore, 1) := by decide +kernel
theorem d_Mo_invoice_317 : decode b_Mo_invoice 317 = .ok (.lload 6, 2) := by decide +kernel
theorem d_Mo_invoice_319 : decode b_Mo_invoice 319 = .ok (.lreturn, 1) := by decide +kernel
set_option maxHeartbeats 4000000 in
set_option maxRecDepth 100000 in
theorem c_Mo_invoice (l : Launch) (dC : Nat → ClassId) (dI : Nat → Nat → Nat) (ad : Nat → Nat) (cA : Nat → ClassId) (th yr : Int32) (nf no nt : Nat) (bd : Int32) (nb : Nat) (fl : Int32) (AI : Nat → Nat → Int32) (AN : Nat → Nat → Nat) (AB : Nat → Nat → Bool) (AL : Nat → Nat → Int64) (sz : Nat) (i0 c0 cu on : Int32) (hI : InvM nf no nt nb AI AN) : Met l y_Mo_invoice w_Mo_invoice { frames := 3, cells := 0, slots := 0, locals := 79 } (mu_P (dC, dI) classes (mtys cA) (mw ad cA th yr nf no nt bd nb fl AI AN AB AL) sz [.ref (ad 0), .int i0, .int c0, .int cu, .int on]) (va_Ql (fun r u => (r, u) = m_invoice (th, yr, nf, no, nt, bd, nb, fl, AI, AN, AB, AL) i0 c0 cu on) (mu_B (dC, dI) classes (mtys cA) (va_A (mw ad cA th yr nf no nt bd nb fl AI AN AB AL) sz) (mwS ad cA)) (va_A (mw ad cA th yr nf no nt bd nb fl AI AN AB AL) sz)) 0 0 (va_A (mw ad cA th yr nf no nt bd nb fl AI AN AB AL) sz) := by
  refine Met.ofW (cc := b_Mo_invoice) (maxL := 10) (ret := (some .long)) (by decide) rfl ?_
  intro p e s m args below meth c s₁ B hml hv
  obtain ⟨rfl, hsz, hP, hK, hD0, hN⟩ := hv
  have hx := B.exec
  have hb := B.bytes
  have hr := B.returns
  have hts := atoms_spec (ws := w_Mo_invoice) B.pre
  have hG := fun (w : Cond) (h : w ∈ wG) => hts w (List.mem_cons_of_mem _ h)
  have hown : s.vm.findClass R_Mo = some m.cls := findClass_of_methodNamed B.named
  have hlocks := B.notSynchronized
  subst hsz
  have hD := hD0.self (sz := s.heap.size)
  generalize hAe : va_A (mw ad cA th yr nf no nt bd nb fl AI AN AB AL) s.heap.size = A at hD ⊢
  have hA : ∀ q : Nat, s.heap.size ≤ q → A q := fun q h => by rw [← hAe]; exact Or.inr h
  have hS : va_S A s.heap s.heap [] := va_S.rf
  have hP : va_P (dC, dI) classes (mw ad cA th yr nf no nt bd nb fl AI AN AB AL) s.heap := hP
  have hl := lv_entry ([.ref (ad 0), .int i0, .int c0, .int cu, .int on]) (n := 10) (Nat.le_of_ble_eq_true rfl)
  rw [lg_entry_eq]
  generalize (lg_sl ([.ref (ad 0), .int i0, .int c0, .int cu, .int on]) ++ List.replicate (10 - (lg_sl ([.ref (ad 0), .int i0, .int c0, .int cu, .int on])).length) Slot.unset).toArray = ls at hl ⊢
  have hl : lv_has ls 10 [(0, .ref (ad 0)), (1, .int i0), (2, .int c0), (3, .int cu), (4, .int on)] := hl
  obtain ⟨hnf, hno, hnt, hnb, hfu, hft, hbf, hrw, hce, hdn⟩ := id hI
  refine lv_aload_n hx hb d_Mo_invoice_0 rfl (lv_at hl 0 rfl) ?_
  refine lv_iconst (v := 0) hx hb d_Mo_invoice_1 (by decide) ?_
  refine va_put (D := (dC, dI)) (ci := 7) (v := .int 0) (ty := .int) (C := R_Mo) (T := F_Mo) (N := 31) hx hb hG iG_Mo t_Mo t_Mo_ok n_Mo hown hK hP hD hS 0 rfl rfl 0 (by decide) (hG _ k_523) (fun _ h9 => h9) rfl (by decide +kernel) rfl rfl (Nat.le_of_ble_eq_true rfl) d_Mo_invoice_2 (fun H locs hP hD hS => ?_)
  have hP : va_P (dC, dI) classes (mw ad cA 0 yr nf no nt bd nb fl AI AN AB AL) H := hP
  have hD : va_D A (mw ad cA 0 yr nf no nt bd nb fl AI AN AB AL) := hD
  refine lv_iload_n hx hb d_Mo_invoice_5 rfl (lv_at hl 1 rfl) ?_
  refine lv_i2l hx hb d_Mo_invoice_6 rfl ?_
  refine lv_lconst (v := 0) hx hb d_Mo_invoice_7 (by decide) ?_
  refine lv_aload_n hx hb d_Mo_invoice_8 rfl (lv_at hl 0 rfl) ?_
  refine va_get (D := (dC, dI)) (ci := 7) (v := .int (nI no)) (C := R_Mo) (T := F_Mo) (N := 31) hx hb hG iG_Mo hown hK hP 0 rfl rfl 6 (by decide) (hG _ k_529) (fun _ h9 => h9) rfl d_Mo_invoice_9 ?_
  refine lv_iconst (v := 1) hx hb d_Mo_invoice_12 (by decide) ?_
  refine lv_isub hx hb d_Mo_invoice_13 ?_
  refine lv_i2l hx hb d_Mo_invoice_14 rfl ?_
  refine rd_calli (va_runS (As := [.long (i0.toInt64), .long 0, .long ((nI no - 1).toInt64)]) (rest := []) ⟨hx, hb, hml, hown, hts⟩ (c_Mo_in l dC dI (mtys cA) (mw ad cA 0 yr nf no nt bd nb fl AI AN AB AL) (i0.toInt64) 0 ((nI no - 1).toInt64)) (cwS 3 hts (gd_S k_629 k_630 k_17 k_631) rfl rfl rfl (by decide +kernel) ⟨Nat.le_of_ble_eq_true rfl, Nat.le_of_ble_eq_true rfl⟩) (rd_preS hK hN hP) rfl rfl hl.1 rfl (lv_room (Nat.le_of_ble_eq_true rfl)) d_Mo_invoice_15 ⟨Nat.zero_le _, Nat.zero_le _⟩) (fun r_1 hr_1 => ?_)
  subst hr_1
  refine lb_if_ne (tgt := 25) hx hb d_Mo_invoice_18 (by decide) (fun c_2 => ?_) (fun c_2 => ?_)
  · obtain ⟨j, hj, rfl⟩ := inN_of (n := no) (by omega) c_2
    have ej : (nI j).toNatClampNeg = j := nI_clamp (by omega)
    have c_2n : inN (nI j) no = true := c_2
    refine lv_iload_n hx hb d_Mo_invoice_25 rfl (lv_at hl 2 rfl) ?_
    refine lv_i2l hx hb d_Mo_invoice_26 rfl ?_
    refine lv_lconst (v := 1) hx hb d_Mo_invoice_27 (by decide) ?_
    refine lv_ldc2 (own := R_Mo) (v := 1000000000) hx hb hown (hG _ k_658) d_Mo_invoice_28 ?_
    refine rd_calli (va_runS (As := [.long (c0.toInt64), .long 1, .long 1000000000]) (rest := []) ⟨hx, hb, hml, hown, hts⟩ (c_Mo_in l dC dI (mtys cA) (mw ad cA 0 yr nf no nt bd nb fl AI AN AB AL) (c0.toInt64) 1 1000000000) (cwS 3 hts (gd_S k_629 k_630 k_17 k_631) rfl rfl rfl (by decide +kernel) ⟨Nat.le_of_ble_eq_true rfl, Nat.le_of_ble_eq_true rfl⟩) (rd_preS hK hN hP) rfl rfl hl.1 rfl (lv_room (Nat.le_of_ble_eq_true rfl)) d_Mo_invoice_31 ⟨Nat.zero_le _, Nat.zero_le _⟩) (fun r_3 hr_3 => ?_)
    subst hr_3
    refine lb_if_eq (tgt := 62) hx hb d_Mo_invoice_34 (by decide) (fun c_4 => ?_) (fun c_4 => ?_)
    · refine lv_ldc2 (own := R_Mo) (v := (-2)) hx hb hown (hG _ k_675) d_Mo_invoice_62 ?_
      exact W.lret (v := (-2)) hx hb hr (fun t ht hW => ⟨⟨_, (0, yr, nf, no, nt, bd, nb, fl, AI, AN, AB, AL), rfl, (by simp [m_invoice, m_house, ixn, bI, ej, c_2, c_2n, c_4] <;> (repeat' apply And.intro) <;> rfl), by rw [ht]; exact hP, va_K.moved hW.alike hK, hD⟩, hS.F ht⟩) hS.2.2 d_Mo_invoice_65
    · refine lv_iload_n hx hb d_Mo_invoice_37 rfl (lv_at hl 3 rfl) ?_
      refine lv_i2l hx hb d_Mo_invoice_38 rfl ?_
      refine lv_lconst (v := 0) hx hb d_Mo_invoice_39 (by decide) ?_
      refine lv_ldc2 (own := R_Mo) (v := 9) hx hb hown (hG _ k_673) d_Mo_invoice_40 ?_
      refine rd_calli (va_runS (As := [.long (cu.toInt64), .long 0, .long 9]) (rest := []) ⟨hx, hb, hml, hown, hts⟩ (c_Mo_in l dC dI (mtys cA) (mw ad cA 0 yr nf no nt bd nb fl AI AN AB AL) (cu.toInt64) 0 9) (cwS 3 hts (gd_S k_629 k_630 k_17 k_631) rfl rfl rfl (by decide +kernel) ⟨Nat.le_of_ble_eq_true rfl, Nat.le_of_ble_eq_true rfl⟩) (rd_preS hK hN hP) rfl rfl hl.1 rfl (lv_room (Nat.le_of_ble_eq_true rfl)) d_Mo_invoice_43 ⟨Nat.zero_le _, Nat.zero_le _⟩) (fun r_5 hr_5 => ?_)
      subst hr_5
      refine lb_if_eq (tgt := 62) hx hb d_Mo_invoice_46 (by decide) (fun c_6 => ?_) (fun c_6 => ?_)
      · refine lv_ldc2 (own := R_Mo) (v := (-2)) hx hb hown (hG _ k_675) d_Mo_invoice_62 ?_
        exact W.lret (v := (-2)) hx hb hr (fun t ht hW => ⟨⟨_, (0, yr, nf, no, nt, bd, nb, fl, AI, AN, AB, AL), rfl, (by simp [m_invoice, m_house, ixn, bI, ej, c_2, c_2n, c_4, c_6] <;> (repeat' apply And.intro) <;> rfl), by rw [ht]; exact hP, va_K.moved hW.alike hK, hD⟩, hS.F ht⟩) hS.2.2 d_Mo_invoice_65
      · refine lv_iload hx hb d_Mo_invoice_49 (lv_at hl 4 rfl) ?_
        refine lv_i2l hx hb d_Mo_invoice_51 rfl ?_
        refine lv_lconst (v := 0) hx hb d_Mo_invoice_52 (by decide) ?_
        refine lv_ldc2 (own := R_Mo) (v := 100000) hx hb hown (hG _ k_674) d_Mo_invoice_53 ?_
        refine rd_calli (va_runS (As := [.long (on.toInt64), .long 0, .long 100000]) (rest := []) ⟨hx, hb, hml, hown, hts⟩ (c_Mo_in l dC dI (mtys cA) (mw ad cA 0 yr nf no nt bd nb fl AI AN AB AL) (on.toInt64) 0 100000) (cwS 3 hts (gd_S k_629 k_630 k_17 k_631) rfl rfl rfl (by decide +kernel) ⟨Nat.le_of_ble_eq_true rfl, Nat.le_of_ble_eq_true rfl⟩) (rd_preS hK hN hP) rfl rfl hl.1 rfl (lv_room (Nat.le_of_ble_eq_true rfl)) d_Mo_invoice_56 ⟨Nat.zero_le _, Nat.zero_le _⟩) (fun r_7 hr_7 => ?_)
        subst hr_7
        refine lb_if_ne (tgt := 66) hx hb d_Mo_invoice_59 (by decide) (fun c_8 => ?_) (fun c_8 => ?_)
        · obtain ⟨k, hk, rfl⟩ := in9 c_6
          have ek : (nI k).toNatClampNeg = k := nI_clamp (by omega)
          have hrk := hrw k hk
          have hfj := hfu j hj
          refine lv_aload_n hx hb d_Mo_invoice_66 rfl (lv_at hl 0 rfl) ?_
          refine va_get (D := (dC, dI)) (ci := 7) (v := .ref (ad 7)) (C := R_Mo) (T := F_Mo) (N := 31) hx hb hG iG_Mo hown hK hP 0 rfl rfl 10 (by decide) (hG _ k_533) (fun _ h9 => h9) rfl d_Mo_invoice_67 ?_
          refine lv_iload_n hx hb d_Mo_invoice_70 rfl (lv_at hl 1 rfl) ?_
          refine ra_iald (n := 300) (j := j) (f := AI 7) hx hb hK hP 7 6 rfl rfl (by omega) (by decide) d_Mo_invoice_71 ?_
          refine lv_iconst (v := 1) hx hb d_Mo_invoice_72 (by decide) ?_
          refine lv_icmp_ne (tgt := 99) hx hb d_Mo_invoice_73 (by decide) (fun c_9 => ?_) (fun c_9 => ?_)
          · refine lv_ldc2 (own := R_Mo) (v := (-3)) hx hb hown (hG _ k_676) d_Mo_invoice_99 ?_
            exact W.lret (v := (-3)) hx hb hr (fun t ht hW => ⟨⟨_, (0, yr, nf, no, nt, bd, nb, fl, AI, AN, AB, AL), rfl, (by simp [m_invoice, m_house, ixn, bI, ej, ek, c_2, c_2n, c_4, c_6, c_8, c_9] <;> (repeat' apply And.intro) <;> rfl), by rw [ht]; exact hP, va_K.moved hW.alike hK, hD⟩, hS.F ht⟩) hS.2.2 d_Mo_invoice_102
          · refine lv_aload_n hx hb d_Mo_invoice_76 rfl (lv_at hl 0 rfl) ?_
            refine va_get (D := (dC, dI)) (ci := 7) (v := .ref (ad 6)) (C := R_Mo) (T := F_Mo) (N := 31) hx hb hG iG_Mo hown hK hP 0 rfl rfl 9 (by decide) (hG _ k_532) (fun _ h9 => h9) rfl d_Mo_invoice_77 ?_
            refine lv_iload_n hx hb d_Mo_invoice_80 rfl (lv_at hl 1 rfl) ?_
            refine rb_zald (n := 300) (j := j) (g := AB 6) hx hb hK hP 6 5 rfl rfl (by omega) (by decide) d_Mo_invoice_81 ?_
            refine lb_if_eq (tgt := 103) hx hb d_Mo_invoice_82 (by decide) (fun c_10 => ?_) (fun c_10 => ?_)
            · refine lv_aload_n hx hb d_Mo_invoice_103 rfl (lv_at hl 0 rfl) ?_
              refine lv_iload_n hx hb d_Mo_invoice_104 rfl (lv_at hl 3 rfl) ?_
              refine lv_iload hx hb d_Mo_invoice_105 (lv_at hl 4 rfl) ?_
              refine rd_calli (va_runV (As := [.int (nI k), .int on]) (rest := []) ⟨hx, hb, hml, hown, hts⟩ (c_Mo_rowOn l dC dI ad cA 0 yr nf no nt bd nb fl AI AN AB AL k on (by omega) (by omega)) (cwV 2 hts (gd_V k_677 k_679 k_11 k_17 k_680) rfl rfl rfl (by decide +kernel) ⟨Nat.le_of_ble_eq_true rfl, Nat.le_of_ble_eq_true rfl⟩) (rd_preV 0 hK hN hP rfl rfl) rfl rfl hl.1 rfl (lv_room (Nat.le_of_ble_eq_true rfl)) d_Mo_invoice_107 ⟨Nat.zero_le _, Nat.zero_le _⟩) (fun r_11 hr_11 => ?_)
              subst hr_11
              rcases hro : m_rowOn AI AN k on with _ | r
              · refine lv_topI (y := (-1)) rfl ?_
                refine lv_istore (lv' := [(5, .int (-1)), (0, .ref (ad 0)), (1, .int (nI j)), (2, .int c0), (3, .int (nI k)), (4, .int on)]) hx hb d_Mo_invoice_110 hl (by decide) rfl (fun ls hl => ?_)
                refine lv_iload hx hb d_Mo_invoice_112 (lv_at hl 0 rfl) ?_
                refine lv_if_ge (tgt := 125) hx hb d_Mo_invoice_114 (by decide) (fun c_12 => ?_) (fun c_12 => ?_)
                · exact absurd c_12 (by decide)
                · refine lv_iload_n hx hb d_Mo_invoice_117 rfl (lv_at hl 4 rfl) ?_
                  refine lv_if_le (tgt := 125) hx hb d_Mo_invoice_118 (by decide) (fun c_13 => ?_) (fun c_13 => ?_)
                  · rw [← Int32.not_lt] at c_13
                    refine lv_iload hx hb d_Mo_invoice_125 (lv_at hl 0 rfl) ?_
                    refine lv_if_ge (tgt := 135) hx hb d_Mo_invoice_127 (by decide) (fun c_14 => ?_) (fun c_14 => ?_)
                    · exact absurd c_14 (by decide)
                    · refine lv_iload_n hx hb d_Mo_invoice_130 rfl (lv_at hl 3 rfl) ?_
                      refine lv_i2l hx hb d_Mo_invoice_131 rfl ?_
                      refine lv_goto (tgt := 155) hx hb d_Mo_invoice_132 (by decide) ?_
                      refine lv_lstore (lv' := [(6, .long (c0.toInt64)), (5, .int (-1)), (0, .ref (ad 0)), (1, .int (nI j)), (2, .int c0), (3, .int (nI k)), (4, .int on)]) hx hb d_Mo_invoice_155 hl (by decide) rfl (fun ls hl => ?_)
                      refine lv_aload_n hx hb d_Mo_invoice_157 rfl (lv_at hl 2 rfl) ?_
                      refine va_get (D := (dC, dI)) (ci := 7) (v := .ref (ad 5)) (C := R_Mo) (T := F_Mo) (N := 31) hx hb hG iG_Mo hown hK hP 0 rfl rfl 8 (by decide) (hG _ k_531) (fun _ h9 => h9) rfl d_Mo_invoice_158 ?_
                      refine lv_iload_n hx hb d_Mo_invoice_161 rfl (lv_at hl 3 rfl) ?_
                      refine ra_iald (n := 300) (j := j) (f := AI 5) hx hb hK hP 5 4 rfl rfl (by omega) (by decide) d_Mo_invoice_162 ?_
                      refine lv_i2l hx hb d_Mo_invoice_163 rfl ?_
                      refine lv_aload_n hx hb d_Mo_invoice_164 rfl (lv_at hl 2 rfl) ?_
                      refine va_get (D := (dC, dI)) (ci := 7) (v := .int bd) (C := R_Mo) (T := F_Mo) (N := 31) hx hb hG iG_Mo hown hK hP 0 rfl rfl 22 (by decide) (hG _ k_545) (fun _ h9 => h9) rfl d_Mo_invoice_165 ?_
                      refine lv_i2l hx hb d_Mo_invoice_168 rfl ?_
                      refine lv_lmul hx hb d_Mo_invoice_169 ?_
                      refine lv_ldc2 (own := R_Mo) (v := 1000) hx hb hown (hG _ k_682) d_Mo_invoice_170 ?_
                      refine lv_ldiv hx hb d_Mo_invoice_173 (by decide) ?_
                      refine lv_lstore (lv' := [(8, .long ((((AI 5 j).toInt64) * (bd.toInt64)) / 1000)), (6, .long (c0.toInt64)), (5, .int (-1)), (0, .ref (ad 0)), (1, .int (nI j)), (2, .int c0), (3, .int (nI k)), (4, .int on)]) hx hb d_Mo_invoice_174 hl (by decide) rfl (fun ls hl => ?_)
                      refine lv_lload hx hb d_Mo_invoice_176 (lv_at hl 1 rfl) ?_
                      refine lv_aload_n hx hb d_Mo_invoice_178 rfl (lv_at hl 3 rfl) ?_
                      refine va_get (D := (dC, dI)) (ci := 7) (v := .ref (ad 5)) (C := R_Mo) (T := F_Mo) (N := 31) hx hb hG iG_Mo hown hK hP 0 rfl rfl 8 (by decide) (hG _ k_531) (fun _ h9 => h9) rfl d_Mo_invoice_179 ?_
                      refine lv_iload_n hx hb d_Mo_invoice_182 rfl (lv_at hl 4 rfl) ?_
                      refine ra_iald (n := 300) (j := j) (f := AI 5) hx hb hK hP 5 4 rfl rfl (by omega) (by decide) d_Mo_invoice_183 ?_
                      refine lv_i2l hx hb d_Mo_invoice_184 rfl ?_
                      refine lv_lload hx hb d_Mo_invoice_185 (lv_at hl 0 rfl) ?_
                      refine lv_lsub hx hb d_Mo_invoice_187 ?_
                      refine lv_aload_n hx hb d_Mo_invoice_188 rfl (lv_at hl 3 rfl) ?_
                      refine va_get (D := (dC, dI)) (ci := 7) (v := .ref (ad 5)) (C := R_Mo) (T := F_Mo) (N := 31) hx hb hG iG_Mo hown hK hP 0 rfl rfl 8 (by decide) (hG _ k_531) (fun _ h9 => h9) rfl d_Mo_invoice_189 ?_
                      refine lv_iload_n hx hb d_Mo_invoice_192 rfl (lv_at hl 4 rfl) ?_
                      refine ra_iald (n := 300) (j := j) (f := AI 5) hx hb hK hP 5 4 rfl rfl (by omega) (by decide) d_Mo_invoice_193 ?_
                      refine lv_i2l hx hb d_Mo_invoice_194 rfl ?_
                      refine lv_lload hx hb d_Mo_invoice_195 (lv_at hl 0 rfl) ?_
                      refine lv_ladd hx hb d_Mo_invoice_197 ?_
                      refine rd_calli (va_runS (As := [.long (c0.toInt64), .long (((AI 5 j).toInt64) - ((((AI 5 j).toInt64) * (bd.toInt64)) / 1000)), .long (((AI 5 j).toInt64) + ((((AI 5 j).toInt64) * (bd.toInt64)) / 1000))]) (rest := []) ⟨hx, hb, hml, hown, hts⟩ (c_Mo_in l dC dI (mtys cA) (mw ad cA 0 yr nf no nt bd nb fl AI AN AB AL) (c0.toInt64) (((AI 5 j).toInt64) - ((((AI 5 j).toInt64) * (bd.toInt64)) / 1000)) (((AI 5 j).toInt64) + ((((AI 5 j).toInt64) * (bd.toInt64)) / 1000))) (cwS 3 hts (gd_S k_629 k_630 k_17 k_631) rfl rfl rfl (by decide +kernel) ⟨Nat.le_of_ble_eq_true rfl, Nat.le_of_ble_eq_true rfl⟩) (rd_preS hK hN hP) rfl rfl hl.1 rfl (lv_room (Nat.le_of_ble_eq_true rfl)) d_Mo_invoice_198 ⟨Nat.zero_le _, Nat.zero_le _⟩) (fun r_15 hr_15 => ?_)
                      subst hr_15
                      refine lb_if_ne (tgt := 208) hx hb d_Mo_invoice_201 (by decide) (fun c_16 => ?_) (fun c_16 => ?_)
                      · refine lv_aload_n hx hb d_Mo_invoice_208 rfl (lv_at hl 3 rfl) ?_
                        refine lv_aload_n hx hb d_Mo_invoice_209 rfl (lv_at hl 3 rfl) ?_
                        refine va_get (D := (dC, dI)) (ci := 7) (v := .ref (ad 4)) (C := R_Mo) (T := F_Mo) (N := 31) hx hb hG iG_Mo hown hK hP 0 rfl rfl 7 (by decide) (hG _ k_530) (fun _ h9 => h9) rfl d_Mo_invoice_210 ?_
                        refine lv_iload_n hx hb d_Mo_invoice_213 rfl (lv_at hl 4 rfl) ?_
                        refine rn_iald (n := 300) (j := j) (g := AN 4) hx hb hK hP 4 3 rfl rfl (by omega) (by decide) d_Mo_invoice_214 ?_
                        refine lv_lconst (v := 0) hx hb d_Mo_invoice_215 (by decide) ?_
                        refine lv_lload hx hb d_Mo_invoice_216 (lv_at hl 1 rfl) ?_
                        refine lv_aload_n hx hb d_Mo_invoice_218 rfl (lv_at hl 3 rfl) ?_
                        refine va_get (D := (dC, dI)) (ci := 7) (v := .ref (ad 6)) (C := R_Mo) (T := F_Mo) (N := 31) hx hb hG iG_Mo hown hK hP 0 rfl rfl 9 (by decide) (hG _ k_532) (fun _ h9 => h9) rfl d_Mo_invoice_219 ?_
                        refine lv_iload_n hx hb d_Mo_invoice_222 rfl (lv_at hl 4 rfl) ?_
                        refine rb_zald (n := 300) (j := j) (g := AB 6) hx hb hK hP 6 5 rfl rfl (by omega) (by decide) d_Mo_invoice_223 ?_
                        refine lb_if_eq (tgt := 231) hx hb d_Mo_invoice_224 (by decide) (fun c_17 => ?_) (fun c_17 => ?_)
                        · refine lv_aload_n hx hb d_Mo_invoice_231 rfl (lv_at hl 3 rfl) ?_
                          refine va_get (D := (dC, dI)) (ci := 7) (v := .ref (ad 5)) (C := R_Mo) (T := F_Mo) (N := 31) hx hb hG iG_Mo hown hK hP 0 rfl rfl 8 (by decide) (hG _ k_531) (fun _ h9 => h9) rfl d_Mo_invoice_232 ?_
                          refine lv_iload_n hx hb d_Mo_invoice_235 rfl (lv_at hl 4 rfl) ?_
                          refine ra_iald (n := 300) (j := j) (f := AI 5) hx hb hK hP 5 4 rfl rfl (by omega) (by decide) d_Mo_invoice_236 ?_
                          refine lv_i2l hx hb d_Mo_invoice_237 rfl ?_
                          refine rd_calli (va_runV (As := [.int (nI ((AN 4 j))), .long 0, .long (c0.toInt64), .long ((AI 5 j).toInt64)]) (rest := []) ⟨hx, hb, hml, hown, hts⟩ (c_Mo_fits l dC dI ad cA 0 yr nf no nt bd nb fl AI AN AB AL ((AN 4 j)) 0 (c0.toInt64) ((AI 5 j).toInt64) hno (by omega)) (cwV 4 hts (gd_V k_641 k_643 k_8 k_17 k_644) rfl rfl rfl (by decide +kernel) ⟨Nat.le_of_ble_eq_true rfl, Nat.le_of_ble_eq_true rfl⟩) (rd_preV 0 hK hN hP rfl rfl) rfl rfl hl.1 rfl (lv_room (Nat.le_of_ble_eq_true rfl)) d_Mo_invoice_238 ⟨Nat.zero_le _, Nat.zero_le _⟩) (fun r_18 hr_18 => ?_)
                          subst hr_18
                          refine lb_if_ne (tgt := 248) hx hb d_Mo_invoice_241 (by decide) (fun c_19 => ?_) (fun c_19 => ?_)
                          · refine lv_aload_n hx hb d_Mo_invoice_248 rfl (lv_at hl 3 rfl) ?_
                            refine va_get (D := (dC, dI)) (ci := 7) (v := .ref (ad 3)) (C := R_Mo) (T := F_Mo) (N := 31) hx hb hG iG_Mo hown hK hP 0 rfl rfl 5 (by decide) (hG _ k_528) (fun _ h9 => h9) rfl d_Mo_invoice_249 ?_
                            refine lv_aload_n hx hb d_Mo_invoice_252 rfl (lv_at hl 3 rfl) ?_
                            refine va_get (D := (dC, dI)) (ci := 7) (v := .ref (ad 4)) (C := R_Mo) (T := F_Mo) (N := 31) hx hb hG iG_Mo hown hK hP 0 rfl rfl 7 (by decide) (hG _ k_530) (fun _ h9 => h9) rfl d_Mo_invoice_253 ?_
                            refine lv_iload_n hx hb d_Mo_invoice_256 rfl (lv_at hl 4 rfl) ?_
                            refine rn_iald (n := 300) (j := j) (g := AN 4) hx hb hK hP 4 3 rfl rfl (by omega) (by decide) d_Mo_invoice_257 ?_
                            refine lv_dup2_11 hx hb d_Mo_invoice_258 rfl rfl ?_
                            refine ra_lald (n := 30) (j := ((AN 4 j))) (f := AL 3) hx hb hK hP 3 2 rfl rfl (by omega) (by decide) d_Mo_invoice_259 ?_
                            refine lv_lload hx hb d_Mo_invoice_260 (lv_at hl 1 rfl) ?_
                            refine lv_ladd hx hb d_Mo_invoice_262 ?_
                            refine ra_last (n := 30) (j := ((AN 4 j))) (f := AL 3) hx hb hK hP hD hS 3 2 rfl rfl (by omega) (by decide) d_Mo_invoice_263 (fun H locs hP hD hS => ?_)
                            have hP : va_P (dC, dI) classes (mw ad cA 0 yr nf no nt bd nb fl AI AN AB (va_up AL 3 (va_up (AL 3) ((AN 4 j)) ((AL 3 ((AN 4 j))) + (c0.toInt64))))) H := hP
                            have hD : va_D A (mw ad cA 0 yr nf no nt bd nb fl AI AN AB (va_up AL 3 (va_up (AL 3) ((AN 4 j)) ((AL 3 ((AN 4 j))) + (c0.toInt64))))) := hD
                            refine lv_aload_n hx hb d_Mo_invoice_264 rfl (lv_at hl 3 rfl) ?_
                            refine va_get (D := (dC, dI)) (ci := 7) (v := .ref (ad 10)) (C := R_Mo) (T := F_Mo) (N := 31) hx hb hG iG_Mo hown hK hP 0 rfl rfl 13 (by decide) (hG _ k_536) (fun _ h9 => h9) rfl d_Mo_invoice_265 ?_
                            refine lv_iload_n hx hb d_Mo_invoice_268 rfl (lv_at hl 4 rfl) ?_
                            refine lv_lload hx hb d_Mo_invoice_269 (lv_at hl 1 rfl) ?_
                            refine lv_aload_n hx hb d_Mo_invoice_271 rfl (lv_at hl 3 rfl) ?_
                            refine va_get (D := (dC, dI)) (ci := 7) (v := .ref (ad 5)) (C := R_Mo) (T := F_Mo) (N := 31) hx hb hG iG_Mo hown hK hP 0 rfl rfl 8 (by decide) (hG _ k_531) (fun _ h9 => h9) rfl d_Mo_invoice_272 ?_
                            refine lv_iload_n hx hb d_Mo_invoice_275 rfl (lv_at hl 4 rfl) ?_
                            refine ra_iald (n := 300) (j := j) (f := AI 5) hx hb hK hP 5 4 rfl rfl (by omega) (by decide) d_Mo_invoice_276 ?_
                            refine lv_i2l hx hb d_Mo_invoice_277 rfl ?_
                            refine lv_lsub hx hb d_Mo_invoice_278 ?_
                            refine ra_last (n := 300) (j := j) (f := AL 10) hx hb hK hP hD hS 10 9 rfl rfl (by omega) (by decide) d_Mo_invoice_279 (fun H locs hP hD hS => ?_)
                            have hP : va_P (dC, dI) classes (mw ad cA 0 yr nf no nt bd nb fl AI AN AB (va_up (va_up AL 3 (va_up (AL 3) ((AN 4 j)) ((AL 3 ((AN 4 j))) + (c0.toInt64)))) 10 (va_up (AL 10) j ((c0.toInt64) - ((AI 5 j).toInt64))))) H := hP
                            have hD : va_D A (mw ad cA 0 yr nf no nt bd nb fl AI AN AB (va_up (va_up AL 3 (va_up (AL 3) ((AN 4 j)) ((AL 3 ((AN 4 j))) + (c0.toInt64)))) 10 (va_up (AL 10) j ((c0.toInt64) - ((AI 5 j).toInt64))))) := hD
                            refine lv_aload_n hx hb d_Mo_invoice_280 rfl (lv_at hl 3 rfl) ?_
                            refine va_get (D := (dC, dI)) (ci := 7) (v := .ref (ad 11)) (C := R_Mo) (T := F_Mo) (N := 31) hx hb hG iG_Mo hown hK hP 0 rfl rfl 14 (by decide) (hG _ k_537) (fun _ h9 => h9) rfl d_Mo_invoice_281 ?_
                            refine lv_iload_n hx hb d_Mo_invoice_284 rfl (lv_at hl 4 rfl) ?_
                            refine lv_dup2_11 hx hb d_Mo_invoice_285 rfl rfl ?_
                            refine ra_iald (n := 300) (j := j) (f := AI 11) hx hb hK hP 11 10 rfl rfl (by omega) (by decide) d_Mo_invoice_286 ?_
                            refine lv_iconst (v := 1) hx hb d_Mo_invoice_287 (by decide) ?_
                            refine lv_iadd hx hb d_Mo_invoice_288 ?_
                            refine ra_iast (n := 300) (j := j) (f := AI 11) hx hb hK hP hD hS 11 10 rfl rfl (by omega) (by decide) d_Mo_invoice_289 (fun H locs hP hD hS => ?_)
                            have hP : va_P (dC, dI) classes (mw ad cA 0 yr nf no nt bd nb fl (va_up AI 11 (va_up (AI 11) j ((AI 11 j) + 1))) AN AB (va_up (va_up AL 3 (va_up (AL 3) ((AN 4 j)) ((AL 3 ((AN 4 j))) + (c0.toInt64)))) 10 (va_up (AL 10) j ((c0.toInt64) - ((AI 5 j).toInt64))))) H := hP
                            have hD : va_D A (mw ad cA 0 yr nf no nt bd nb fl (va_up AI 11 (va_up (AI 11) j ((AI 11 j) + 1))) AN AB (va_up (va_up AL 3 (va_up (AL 3) ((AN 4 j)) ((AL 3 ((AN 4 j))) + (c0.toInt64)))) 10 (va_up (AL 10) j ((c0.toInt64) - ((AI 5 j).toInt64))))) := hD
                            refine lv_aload_n hx hb d_Mo_invoice_290 rfl (lv_at hl 3 rfl) ?_
                            refine va_get (D := (dC, dI)) (ci := 7) (v := .ref (ad 12)) (C := R_Mo) (T := F_Mo) (N := 31) hx hb hG iG_Mo hown hK hP 0 rfl rfl 15 (by decide) (hG _ k_538) (fun _ h9 => h9) rfl d_Mo_invoice_291 ?_
                            refine lv_iload_n hx hb d_Mo_invoice_294 rfl (lv_at hl 4 rfl) ?_
                            refine lv_iload hx hb d_Mo_invoice_295 (lv_at hl 7 rfl) ?_
                            refine lv_bipush (v := 30) hx hb d_Mo_invoice_297 (by decide) ?_
                            refine lv_idiv hx hb d_Mo_invoice_299 (by decide) ?_
                            refine ra_iast (n := 300) (j := j) (f := AI 12) hx hb hK hP hD hS 12 11 rfl rfl (by omega) (by decide) d_Mo_invoice_300 (fun H locs hP hD hS => ?_)
                            have hP : va_P (dC, dI) classes (mw ad cA 0 yr nf no nt bd nb fl (va_up (va_up AI 11 (va_up (AI 11) j ((AI 11 j) + 1))) 12 (va_up (AI 12) j (on / 30))) AN AB (va_up (va_up AL 3 (va_up (AL 3) ((AN 4 j)) ((AL 3 ((AN 4 j))) + (c0.toInt64)))) 10 (va_up (AL 10) j ((c0.toInt64) - ((AI 5 j).toInt64))))) H := hP
                            have hD : va_D A (mw ad cA 0 yr nf no nt bd nb fl (va_up (va_up AI 11 (va_up (AI 11) j ((AI 11 j) + 1))) 12 (va_up (AI 12) j (on / 30))) AN AB (va_up (va_up AL 3 (va_up (AL 3) ((AN 4 j)) ((AL 3 ((AN 4 j))) + (c0.toInt64)))) 10 (va_up (AL 10) j ((c0.toInt64) - ((AI 5 j).toInt64))))) := hD
                            refine lv_aload_n hx hb d_Mo_invoice_301 rfl (lv_at hl 3 rfl) ?_
                            refine va_get (D := (dC, dI)) (ci := 7) (v := .ref (ad 6)) (C := R_Mo) (T := F_Mo) (N := 31) hx hb hG iG_Mo hown hK hP 0 rfl rfl 9 (by decide) (hG _ k_532) (fun _ h9 => h9) rfl d_Mo_invoice_302 ?_
                            refine lv_iload_n hx hb d_Mo_invoice_305 rfl (lv_at hl 4 rfl) ?_
                            refine rb_zald (n := 300) (j := j) (g := AB 6) hx hb hK hP 6 5 rfl rfl (by omega) (by decide) d_Mo_invoice_306 ?_
                            refine lb_if_ne (tgt := 317) hx hb d_Mo_invoice_307 (by decide) (fun c_20 => ?_) (fun c_20 => ?_)
                            · exact absurd (c_10.symm.trans c_20) (by decide)
                            · refine lv_aload_n hx hb d_Mo_invoice_310 rfl (lv_at hl 3 rfl) ?_
                              refine va_get (D := (dC, dI)) (ci := 7) (v := .ref (ad 7)) (C := R_Mo) (T := F_Mo) (N := 31) hx hb hG iG_Mo hown hK hP 0 rfl rfl 10 (by decide) (hG _ k_533) (fun _ h9 => h9) rfl d_Mo_invoice_311 ?_
                              refine lv_iload_n hx hb d_Mo_invoice_314 rfl (lv_at hl 4 rfl) ?_
                              refine lv_iconst (v := 2) hx hb d_Mo_invoice_315 (by decide) ?_
                              refine ra_iast (n := 300) (j := j) (f := AI 7) hx hb hK hP hD hS 7 6 rfl rfl (by omega) (by decide) d_Mo_invoice_316 (fun H locs hP hD hS => ?_)
                              have hP : va_P (dC, dI) classes (mw ad cA 0 yr nf no nt bd nb fl (va_up (va_up (va_up AI 11 (va_up (AI 11) j ((AI 11 j) + 1))) 12 (va_up (AI 12) j (on / 30))) 7 (va_up (AI 7) j 2)) AN AB (va_up (va_up AL 3 (va_up (AL 3) ((AN 4 j)) ((AL 3 ((AN 4 j))) + (c0.toInt64)))) 10 (va_up (AL 10) j ((c0.toInt64) - ((AI 5 j).toInt64))))) H := hP
                              have hD : va_D A (mw ad cA 0 yr nf no nt bd nb fl (va_up (va_up (va_up AI 11 (va_up (AI 11) j ((AI 11 j) + 1))) 12 (va_up (AI 12) j (on / 30))) 7 (va_up (AI 7) j 2)) AN AB (va_up (va_up AL 3 (va_up (AL 3) ((AN 4 j)) ((AL 3 ((AN 4 j))) + (c0.toInt64)))) 10 (va_up (AL 10) j ((c0.toInt64) - ((AI 5 j).toInt64))))) := hD
                              refine lv_lload hx hb d_Mo_invoice_317 (lv_at hl 1 rfl) ?_
                              exact W.lret (v := (c0.toInt64)) hx hb hr (fun t ht hW => ⟨⟨_, (0, yr, nf, no, nt, bd, nb, fl, va_up (va_up (va_up AI 11 (va_up (AI 11) j ((AI 11 j) + 1))) 12 (va_up (AI 12) j (on / 30))) 7 (va_up (AI 7) j 2), AN, AB, va_up (va_up AL 3 (va_up (AL 3) ((AN 4 j)) ((AL 3 ((AN 4 j))) + (c0.toInt64)))) 10 (va_up (AL 10) j ((c0.toInt64) - ((AI 5 j).toInt64)))), rfl, (by simp [m_invoice, m_house, ixn, bI, ej, ek, c_2, c_2n, c_4, c_6, c_8, c_9, c_10, hro, c_13, c_16, c_19] <;> (repeat' apply And.intro) <;> rfl), by rw [ht]; exact hP, va_K.moved hW.alike hK, hD⟩, hS.F ht⟩) hS.2.2 d_Mo_invoice_319
                          · refine lv_ldc2 (own := R_Mo) (v := (-4)) hx hb hown (hG _ k_684) d_Mo_invoice_244 ?_
                            exact W.lret (v := (-4)) hx hb hr (fun t ht hW => ⟨⟨_, (0, yr, nf, no, nt, bd, nb, fl, AI, AN, AB, AL), rfl, (by simp [m_invoice, m_house, ixn, bI, ej, ek, c_2, c_2n, c_4, c_6, c_8, c_9, c_10, hro, c_13, c_16, c_19] <;> (repeat' apply And.intro) <;> rfl), by rw [ht]; exact hP, va_K.moved hW.alike hK, hD⟩, hS.F ht⟩) hS.2.2 d_Mo_invoice_247
                        · exact absurd (c_10.symm.trans c_17) (by decide)
                      · refine lv_ldc2 (own := R_Mo) (v := (-5)) hx hb hown (hG _ k_683) d_Mo_invoice_204 ?_
                        exact W.lret (v := (-5)) hx hb hr (fun t ht hW => ⟨⟨_, (0, yr, nf, no, nt, bd, nb, fl, AI, AN, AB, AL), rfl, (by simp [m_invoice, m_house, ixn, bI, ej, ek, c_2, c_2n, c_4, c_6, c_8, c_9, c_10, hro, c_13, c_16] <;> (repeat' apply And.intro) <;> rfl), by rw [ht]; exact hP, va_K.moved hW.alike hK, hD⟩, hS.F ht⟩) hS.2.2 d_Mo_invoice_207
                  · rw [Int32.not_le] at c_13
                    refine lv_ldc2 (own := R_Mo) (v := (-6)) hx hb hown (hG _ k_681) d_Mo_invoice_121 ?_
                    exact W.lret (v := (-6)) hx hb hr (fun t ht hW => ⟨⟨_, (0, yr, nf, no, nt, bd, nb, fl, AI, AN, AB, AL), rfl, (by simp [m_invoice, m_house, ixn, bI, ej, ek, c_2, c_2n, c_4, c_6, c_8, c_9, c_10, hro, c_13] <;> (repeat' apply And.intro) <;> rfl), by rw [ht]; exact hP, va_K.moved hW.alike hK, hD⟩, hS.F ht⟩) hS.2.2 d_Mo_invoice_124
              · have hr10 : r < AN 18 k := lst_lt hro
                refine lv_topI (y := nI (10 * k + r)) rfl ?_
                refine lv_istore (lv' := [(5, .int (nI (10 * k + r))), (0, .ref (ad 0)), (1, .int (nI j)), (2, .int c0), (3, .int (nI k)), (4, .int on)]) hx hb d_Mo_invoice_110 hl (by decide) rfl (fun ls hl => ?_)
                refine lv_iload hx hb d_Mo_invoice_112 (lv_at hl 0 rfl) ?_
                refine lv_if_ge (tgt := 125) hx hb d_Mo_invoice_114 (by decide) (fun c_21 => ?_) (fun c_21 => ?_)
                · refine lv_iload hx hb d_Mo_invoice_125 (lv_at hl 0 rfl) ?_
                  refine lv_if_ge (tgt := 135) hx hb d_Mo_invoice_127 (by decide) (fun c_22 => ?_) (fun c_22 => ?_)
                  · refine lv_iload_n hx hb d_Mo_invoice_135 rfl (lv_at hl 3 rfl) ?_
                    refine lv_i2l hx hb d_Mo_invoice_136 rfl ?_
                    refine lv_aload_n hx hb d_Mo_invoice_137 rfl (lv_at hl 1 rfl) ?_
                    refine va_get (D := (dC, dI)) (ci := 7) (v := .ref (ad 20)) (C := R_Mo) (T := F_Mo) (N := 31) hx hb hG iG_Mo hown hK hP 0 rfl rfl 25 (by decide) (hG _ k_548) (fun _ h9 => h9) rfl d_Mo_invoice_138 ?_
                    refine lv_iload hx hb d_Mo_invoice_141 (lv_at hl 0 rfl) ?_
                    refine ra_iald (n := 100) (j := (10 * k + r)) (f := AI 20) hx hb hK hP 20 19 rfl rfl (by omega) (by decide) d_Mo_invoice_143 ?_
                    refine lv_i2l hx hb d_Mo_invoice_144 rfl ?_
                    refine lv_lmul hx hb d_Mo_invoice_145 ?_
                    refine lv_aload_n hx hb d_Mo_invoice_146 rfl (lv_at hl 1 rfl) ?_
                    refine va_get (D := (dC, dI)) (ci := 7) (v := .ref (ad 21)) (C := R_Mo) (T := F_Mo) (N := 31) hx hb hG iG_Mo hown hK hP 0 rfl rfl 26 (by decide) (hG _ k_549) (fun _ h9 => h9) rfl d_Mo_invoice_147 ?_
                    refine lv_iload hx hb d_Mo_invoice_150 (lv_at hl 0 rfl) ?_
                    refine ra_iald (n := 100) (j := (10 * k + r)) (f := AI 21) hx hb hK hP 21 20 rfl rfl (by omega) (by decide) d_Mo_invoice_152 ?_
                    refine lv_i2l hx hb d_Mo_invoice_153 rfl ?_
                    refine lv_ldiv hx hb d_Mo_invoice_154 (ne0_64 (hdn k r hk hr10)) ?_
                    refine lv_lstore (lv' := [(6, .long (((c0.toInt64) * ((AI 20 (10 * k + r)).toInt64)) / ((AI 21 (10 * k + r)).toInt64))), (5, .int (nI (10 * k + r))), (0, .ref (ad 0)), (1, .int (nI j)), (2, .int c0), (3, .int (nI k)), (4, .int on)]) hx hb d_Mo_invoice_155 hl (by decide) rfl (fun ls hl => ?_)
                    refine lv_aload_n hx hb d_Mo_invoice_157 rfl (lv_at hl 2 rfl) ?_
                    refine va_get (D := (dC, dI)) (ci := 7) (v := .ref (ad 5)) (C := R_Mo) (T := F_Mo) (N := 31) hx hb hG iG_Mo hown hK hP 0 rfl rfl 8 (by decide) (hG _ k_531) (fun _ h9 => h9) rfl d_Mo_invoice_158 ?_
                    refine lv_iload_n hx hb d_Mo_invoice_161 rfl (lv_at hl 3 rfl) ?_
                    refine ra_iald (n := 300) (j := j) (f := AI 5) hx hb hK hP 5 4 rfl rfl (by omega) (by decide) d_Mo_invoice_162 ?_
                    refine lv_i2l hx hb d_Mo_invoice_163 rfl ?_
                    refine lv_aload_n hx hb d_Mo_invoice_164 rfl (lv_at hl 2 rfl) ?_
                    refine va_get (D := (dC, dI)) (ci := 7) (v := .int bd) (C := R_Mo) (T := F_Mo) (N := 31) hx hb hG iG_Mo hown hK hP 0 rfl rfl 22 (by decide) (hG _ k_545) (fun _ h9 => h9) rfl d_Mo_invoice_165 ?_
                    refine lv_i2l hx hb d_Mo_invoice_168 rfl ?_
                    refine lv_lmul hx hb d_Mo_invoice_169 ?_
                    refine lv_ldc2 (own := R_Mo) (v := 1000) hx hb hown (hG _ k_682) d_Mo_invoice_170 ?_
                    refine lv_ldiv hx hb d_Mo_invoice_173 (by decide) ?_
                    refine lv_lstore (lv' := [(8, .long ((((AI 5 j).toInt64) * (bd.toInt64)) / 1000)), (6, .long (((c0.toInt64) * ((AI 20 (10 * k + r)).toInt64)) / ((AI 21 (10 * k + r)).toInt64))), (5, .int (nI (10 * k + r))), (0, .ref (ad 0)), (1, .int (nI j)), (2, .int c0), (3, .int (nI k)), (4, .int on)]) hx hb d_Mo_invoice_174 hl (by decide) rfl (fun ls hl => ?_)
                    refine lv_lload hx hb d_Mo_invoice_176 (lv_at hl 1 rfl) ?_
                    refine lv_aload_n hx hb d_Mo_invoice_178 rfl (lv_at hl 3 rfl) ?_
                    refine va_get (D := (dC, dI)) (ci := 7) (v := .ref (ad 5)) (C := R_Mo) (T := F_Mo) (N := 31) hx hb hG iG_Mo hown hK hP 0 rfl rfl 8 (by decide) (hG _ k_531) (fun _ h9 => h9) rfl d_Mo_invoice_179 ?_
                    refine lv_iload_n hx hb d_Mo_invoice_182 rfl (lv_at hl 4 rfl) ?_
                    refine ra_iald (n := 300) (j := j) (f := AI 5) hx hb hK hP 5 4 rfl rfl (by omega) (by decide) d_Mo_invoice_183 ?_
                    refine lv_i2l hx hb d_Mo_invoice_184 rfl ?_
                    refine lv_lload hx hb d_Mo_invoice_185 (lv_at hl 0 rfl) ?_
                    refine lv_lsub hx hb d_Mo_invoice_187 ?_
                    refine lv_aload_n hx hb d_Mo_invoice_188 rfl (lv_at hl 3 rfl) ?_
                    refine va_get (D := (dC, dI)) (ci := 7) (v := .ref (ad 5)) (C := R_Mo) (T := F_Mo) (N := 31) hx hb hG iG_Mo hown hK hP 0 rfl rfl 8 (by decide) (hG _ k_531) (fun _ h9 => h9) rfl d_Mo_invoice_189 ?_
                    refine lv_iload_n hx hb d_Mo_invoice_192 rfl (lv_at hl 4 rfl) ?_
                    refine ra_iald (n := 300) (j := j) (f := AI 5) hx hb hK hP 5 4 rfl rfl (by omega) (by decide) d_Mo_invoice_193 ?_
                    refine lv_i2l hx hb d_Mo_invoice_194 rfl ?_
                    refine lv_lload hx hb d_Mo_invoice_195 (lv_at hl 0 rfl) ?_
                    refine lv_ladd hx hb d_Mo_invoice_197 ?_
                    refine rd_calli (va_runS (As := [.long (((c0.toInt64) * ((AI 20 (10 * k + r)).toInt64)) / ((AI 21 (10 * k + r)).toInt64)), .long (((AI 5 j).toInt64) - ((((AI 5 j).toInt64) * (bd.toInt64)) / 1000)), .long (((AI 5 j).toInt64) + ((((AI 5 j).toInt64) * (bd.toInt64)) / 1000))]) (rest := []) ⟨hx, hb, hml, hown, hts⟩ (c_Mo_in l dC dI (mtys cA) (mw ad cA 0 yr nf no nt bd nb fl AI AN AB AL) (((c0.toInt64) * ((AI 20 (10 * k + r)).toInt64)) / ((AI 21 (10 * k + r)).toInt64)) (((AI 5 j).toInt64) - ((((AI 5 j).toInt64) * (bd.toInt64)) / 1000)) (((AI 5 j).toInt64) + ((((AI 5 j).toInt64) * (bd.toInt64)) / 1000))) (cwS 3 hts (gd_S k_629 k_630 k_17 k_631) rfl rfl rfl (by decide +kernel) ⟨Nat.le_of_ble_eq_true rfl, Nat.le_of_ble_eq_true rfl⟩) (rd_preS hK hN hP) rfl rfl hl.1 rfl (lv_room (Nat.le_of_ble_eq_true rfl)) d_Mo_invoice_198 ⟨Nat.zero_le _, Nat.zero_le _⟩) (fun r_23 hr_23 => ?_)
                    subst hr_23
                    refine lb_if_ne (tgt := 208) hx hb d_Mo_invoice_201 (by decide) (fun c_24 => ?_) (fun c_24 => ?_)
                    · refine lv_aload_n hx hb d_Mo_invoice_208 rfl (lv_at hl 3 rfl) ?_
                      refine lv_aload_n hx hb d_Mo_invoice_209 rfl (lv_at hl 3 rfl) ?_
                      refine va_get (D := (dC, dI)) (ci := 7) (v := .ref (ad 4)) (C := R_Mo) (T := F_Mo) (N := 31) hx hb hG iG_Mo hown hK hP 0 rfl rfl 7 (by decide) (hG _ k_530) (fun _ h9 => h9) rfl d_Mo_invoice_210 ?_
                      refine lv_iload_n hx hb d_Mo_invoice_213 rfl (lv_at hl 4 rfl) ?_
                      refine rn_iald (n := 300) (j := j) (g := AN 4) hx hb hK hP 4 3 rfl rfl (by omega) (by decide) d_Mo_invoice_214 ?_
                      refine lv_lconst (v := 0) hx hb d_Mo_invoice_215 (by decide) ?_
                      refine lv_lload hx hb d_Mo_invoice_216 (lv_at hl 1 rfl) ?_
                      refine lv_aload_n hx hb d_Mo_invoice_218 rfl (lv_at hl 3 rfl) ?_
                      refine va_get (D := (dC, dI)) (ci := 7) (v := .ref (ad 6)) (C := R_Mo) (T := F_Mo) (N := 31) hx hb hG iG_Mo hown hK hP 0 rfl rfl 9 (by decide) (hG _ k_532) (fun _ h9 => h9) rfl d_Mo_invoice_219 ?_
                      refine lv_iload_n hx hb d_Mo_invoice_222 rfl (lv_at hl 4 rfl) ?_
                      refine rb_zald (n := 300) (j := j) (g := AB 6) hx hb hK hP 6 5 rfl rfl (by omega) (by decide) d_Mo_invoice_223 ?_
                      refine lb_if_eq (tgt := 231) hx hb d_Mo_invoice_224 (by decide) (fun c_25 => ?_) (fun c_25 => ?_)
                      · refine lv_aload_n hx hb d_Mo_invoice_231 rfl (lv_at hl 3 rfl) ?_
                        refine va_get (D := (dC, dI)) (ci := 7) (v := .ref (ad 5)) (C := R_Mo) (T := F_Mo) (N := 31) hx hb hG iG_Mo hown hK hP 0 rfl rfl 8 (by decide) (hG _ k_531) (fun _ h9 => h9) rfl d_Mo_invoice_232 ?_
                        refine lv_iload_n hx hb d_Mo_invoice_235 rfl (lv_at hl 4 rfl) ?_
                        refine ra_iald (n := 300) (j := j) (f := AI 5) hx hb hK hP 5 4 rfl rfl (by omega) (by decide) d_Mo_invoice_236 ?_
                        refine lv_i2l hx hb d_Mo_invoice_237 rfl ?_
                        refine rd_calli (va_runV (As := [.int (nI ((AN 4 j))), .long 0, .long (((c0.toInt64) * ((AI 20 (10 * k + r)).toInt64)) / ((AI 21 (10 * k + r)).toInt64)), .long ((AI 5 j).toInt64)]) (rest := []) ⟨hx, hb, hml, hown, hts⟩ (c_Mo_fits l dC dI ad cA 0 yr nf no nt bd nb fl AI AN AB AL ((AN 4 j)) 0 (((c0.toInt64) * ((AI 20 (10 * k + r)).toInt64)) / ((AI 21 (10 * k + r)).toInt64)) ((AI 5 j).toInt64) hno (by omega)) (cwV 4 hts (gd_V k_641 k_643 k_8 k_17 k_644) rfl rfl rfl (by decide +kernel) ⟨Nat.le_of_ble_eq_true rfl, Nat.le_of_ble_eq_true rfl⟩) (rd_preV 0 hK hN hP rfl rfl) rfl rfl hl.1 rfl (lv_room (Nat.le_of_ble_eq_true rfl)) d_Mo_invoice_238 ⟨Nat.zero_le _, Nat.zero_le _⟩) (fun r_26 hr_26 => ?_)
                        subst hr_26
                        refine lb_if_ne (tgt := 248) hx hb d_Mo_invoice_241 (by decide) (fun c_27 => ?_) (fun c_27 => ?_)
                        · refine lv_aload_n hx hb d_Mo_invoice_248 rfl (lv_at hl 3 rfl) ?_
                          refine va_get (D := (dC, dI)) (ci := 7) (v := .ref (ad 3)) (C := R_Mo) (T := F_Mo) (N := 31) hx hb hG iG_Mo hown hK hP 0 rfl rfl 5 (by decide) (hG _ k_528) (fun _ h9 => h9) rfl d_Mo_invoice_249 ?_
                          refine lv_aload_n hx hb d_Mo_invoice_252 rfl (lv_at hl 3 rfl) ?_
                          refine va_get (D := (dC, dI)) (ci := 7) (v := .ref (ad 4)) (C := R_Mo) (T := F_Mo) (N := 31) hx hb hG iG_Mo hown hK hP 0 rfl rfl 7 (by decide) (hG _ k_530) (fun _ h9 => h9) rfl d_Mo_invoice_253 ?_
                          refine lv_iload_n hx hb d_Mo_invoice_256 rfl (lv_at hl 4 rfl) ?_
                          refine rn_iald (n := 300) (j := j) (g := AN 4) hx hb hK hP 4 3 rfl rfl (by omega) (by decide) d_Mo_invoice_257 ?_
                          refine lv_dup2_11 hx hb d_Mo_invoice_258 rfl rfl ?_
                          refine ra_lald (n := 30) (j := ((AN 4 j))) (f := AL 3) hx hb hK hP 3 2 rfl rfl (by omega) (by decide) d_Mo_invoice_259 ?_
                          refine lv_lload hx hb d_Mo_invoice_260 (lv_at hl 1 rfl) ?_
                          refine lv_ladd hx hb d_Mo_invoice_262 ?_
                          refine ra_last (n := 30) (j := ((AN 4 j))) (f := AL 3) hx hb hK hP hD hS 3 2 rfl rfl (by omega) (by decide) d_Mo_invoice_263 (fun H locs hP hD hS => ?_)
                          have hP : va_P (dC, dI) classes (mw ad cA 0 yr nf no nt bd nb fl AI AN AB (va_up AL 3 (va_up (AL 3) ((AN 4 j)) ((AL 3 ((AN 4 j))) + (((c0.toInt64) * ((AI 20 (10 * k + r)).toInt64)) / ((AI 21 (10 * k + r)).toInt64)))))) H := hP
                          have hD : va_D A (mw ad cA 0 yr nf no nt bd nb fl AI AN AB (va_up AL 3 (va_up (AL 3) ((AN 4 j)) ((AL 3 ((AN 4 j))) + (((c0.toInt64) * ((AI 20 (10 * k + r)).toInt64)) / ((AI 21 (10 * k + r)).toInt64)))))) := hD
                          refine lv_aload_n hx hb d_Mo_invoice_264 rfl (lv_at hl 3 rfl) ?_
                          refine va_get (D := (dC, dI)) (ci := 7) (v := .ref (ad 10)) (C := R_Mo) (T := F_Mo) (N := 31) hx hb hG iG_Mo hown hK hP 0 rfl rfl 13 (by decide) (hG _ k_536) (fun _ h9 => h9) rfl d_Mo_invoice_265 ?_
                          refine lv_iload_n hx hb d_Mo_invoice_268 rfl (lv_at hl 4 rfl) ?_
                          refine lv_lload hx hb d_Mo_invoice_269 (lv_at hl 1 rfl) ?_
                          refine lv_aload_n hx hb d_Mo_invoice_271 rfl (lv_at hl 3 rfl) ?_
                          refine va_get (D := (dC, dI)) (ci := 7) (v := .ref (ad 5)) (C := R_Mo) (T := F_Mo) (N := 31) hx hb hG iG_Mo hown hK hP 0 rfl rfl 8 (by decide) (hG _ k_531) (fun _ h9 => h9) rfl d_Mo_invoice_272 ?_
                          refine lv_iload_n hx hb d_Mo_invoice_275 rfl (lv_at hl 4 rfl) ?_
                          refine ra_iald (n := 300) (j := j) (f := AI 5) hx hb hK hP 5 4 rfl rfl (by omega) (by decide) d_Mo_invoice_276 ?_
                          refine lv_i2l hx hb d_Mo_invoice_277 rfl ?_
                          refine lv_lsub hx hb d_Mo_invoice_278 ?_
                          refine ra_last (n := 300) (j := j) (f := AL 10) hx hb hK hP hD hS 10 9 rfl rfl (by omega) (by decide) d_Mo_invoice_279 (fun H locs hP hD hS => ?_)
                          have hP : va_P (dC, dI) classes (mw ad cA 0 yr nf no nt bd nb fl AI AN AB (va_up (va_up AL 3 (va_up (AL 3) ((AN 4 j)) ((AL 3 ((AN 4 j))) + (((c0.toInt64) * ((AI 20 (10 * k + r)).toInt64)) / ((AI 21 (10 * k + r)).toInt64))))) 10 (va_up (AL 10) j ((((c0.toInt64) * ((AI 20 (10 * k + r)).toInt64)) / ((AI 21 (10 * k + r)).toInt64)) - ((AI 5 j).toInt64))))) H := hP
                          have hD : va_D A (mw ad cA 0 yr nf no nt bd nb fl AI AN AB (va_up (va_up AL 3 (va_up (AL 3) ((AN 4 j)) ((AL 3 ((AN 4 j))) + (((c0.toInt64) * ((AI 20 (10 * k + r)).toInt64)) / ((AI 21 (10 * k + r)).toInt64))))) 10 (va_up (AL 10) j ((((c0.toInt64) * ((AI 20 (10 * k + r)).toInt64)) / ((AI 21 (10 * k + r)).toInt64)) - ((AI 5 j).toInt64))))) := hD
                          refine lv_aload_n hx hb d_Mo_invoice_280 rfl (lv_at hl 3 rfl) ?_
                          refine va_get (D := (dC, dI)) (ci := 7) (v := .ref (ad 11)) (C := R_Mo) (T := F_Mo) (N := 31) hx hb hG iG_Mo hown hK hP 0 rfl rfl 14 (by decide) (hG _ k_537) (fun _ h9 => h9) rfl d_Mo_invoice_281 ?_
                          refine lv_iload_n hx hb d_Mo_invoice_284 rfl (lv_at hl 4 rfl) ?_
                          refine lv_dup2_11 hx hb d_Mo_invoice_285 rfl rfl ?_
                          refine ra_iald (n := 300) (j := j) (f := AI 11) hx hb hK hP 11 10 rfl rfl (by omega) (by decide) d_Mo_invoice_286 ?_
                          refine lv_iconst (v := 1) hx hb d_Mo_invoice_287 (by decide) ?_
                          refine lv_iadd hx hb d_Mo_invoice_288 ?_
                          refine ra_iast (n := 300) (j := j) (f := AI 11) hx hb hK hP hD hS 11 10 rfl rfl (by omega) (by decide) d_Mo_invoice_289 (fun H locs hP hD hS => ?_)
                          have hP : va_P (dC, dI) classes (mw ad cA 0 yr nf no nt bd nb fl (va_up AI 11 (va_up (AI 11) j ((AI 11 j) + 1))) AN AB (va_up (va_up AL 3 (va_up (AL 3) ((AN 4 j)) ((AL 3 ((AN 4 j))) + (((c0.toInt64) * ((AI 20 (10 * k + r)).toInt64)) / ((AI 21 (10 * k + r)).toInt64))))) 10 (va_up (AL 10) j ((((c0.toInt64) * ((AI 20 (10 * k + r)).toInt64)) / ((AI 21 (10 * k + r)).toInt64)) - ((AI 5 j).toInt64))))) H := hP
                          have hD : va_D A (mw ad cA 0 yr nf no nt bd nb fl (va_up AI 11 (va_up (AI 11) j ((AI 11 j) + 1))) AN AB (va_up (va_up AL 3 (va_up (AL 3) ((AN 4 j)) ((AL 3 ((AN 4 j))) + (((c0.toInt64) * ((AI 20 (10 * k + r)).toInt64)) / ((AI 21 (10 * k + r)).toInt64))))) 10 (va_up (AL 10) j ((((c0.toInt64) * ((AI 20 (10 * k + r)).toInt64)) / ((AI 21 (10 * k + r)).toInt64)) - ((AI 5 j).toInt64))))) := hD
                          refine lv_aload_n hx hb d_Mo_invoice_290 rfl (lv_at hl 3 rfl) ?_
                          refine va_get (D := (dC, dI)) (ci := 7) (v := .ref (ad 12)) (C := R_Mo) (T := F_Mo) (N := 31) hx hb hG iG_Mo hown hK hP 0 rfl rfl 15 (by decide) (hG _ k_538) (fun _ h9 => h9) rfl d_Mo_invoice_291 ?_
                          refine lv_iload_n hx hb d_Mo_invoice_294 rfl (lv_at hl 4 rfl) ?_
                          refine lv_iload hx hb d_Mo_invoice_295 (lv_at hl 7 rfl) ?_
                          refine lv_bipush (v := 30) hx hb d_Mo_invoice_297 (by decide) ?_
                          refine lv_idiv hx hb d_Mo_invoice_299 (by decide) ?_
                          refine ra_iast (n := 300) (j := j) (f := AI 12) hx hb hK hP hD hS 12 11 rfl rfl (by omega) (by decide) d_Mo_invoice_300 (fun H locs hP hD hS => ?_)
                          have hP : va_P (dC, dI) classes (mw ad cA 0 yr nf no nt bd nb fl (va_up (va_up AI 11 (va_up (AI 11) j ((AI 11 j) + 1))) 12 (va_up (AI 12) j (on / 30))) AN AB (va_up (va_up AL 3 (va_up (AL 3) ((AN 4 j)) ((AL 3 ((AN 4 j))) + (((c0.toInt64) * ((AI 20 (10 * k + r)).toInt64)) / ((AI 21 (10 * k + r)).toInt64))))) 10 (va_up (AL 10) j ((((c0.toInt64) * ((AI 20 (10 * k + r)).toInt64)) / ((AI 21 (10 * k + r)).toInt64)) - ((AI 5 j).toInt64))))) H := hP
                          have hD : va_D A (mw ad cA 0 yr nf no nt bd nb fl (va_up (va_up AI 11 (va_up (AI 11) j ((AI 11 j) + 1))) 12 (va_up (AI 12) j (on / 30))) AN AB (va_up (va_up AL 3 (va_up (AL 3) ((AN 4 j)) ((AL 3 ((AN 4 j))) + (((c0.toInt64) * ((AI 20 (10 * k + r)).toInt64)) / ((AI 21 (10 * k + r)).toInt64))))) 10 (va_up (AL 10) j ((((c0.toInt64) * ((AI 20 (10 * k + r)).toInt64)) / ((AI 21 (10 * k + r)).toInt64)) - ((AI 5 j).toInt64))))) := hD
                          refine lv_aload_n hx hb d_Mo_invoice_301 rfl (lv_at hl 3 rfl) ?_
                          refine va_get (D := (dC, dI)) (ci := 7) (v := .ref (ad 6)) (C := R_Mo) (T := F_Mo) (N := 31) hx hb hG iG_Mo hown hK hP 0 rfl rfl 9 (by decide) (hG _ k_532) (fun _ h9 => h9) rfl d_Mo_invoice_302 ?_
                          refine lv_iload_n hx hb d_Mo_invoice_305 rfl (lv_at hl 4 rfl) ?_
                          refine rb_zald (n := 300) (j := j) (g := AB 6) hx hb hK hP 6 5 rfl rfl (by omega) (by decide) d_Mo_invoice_306 ?_
                          refine lb_if_ne (tgt := 317) hx hb d_Mo_invoice_307 (by decide) (fun c_28 => ?_) (fun c_28 => ?_)
                          · exact absurd (c_10.symm.trans c_28) (by decide)
                          · refine lv_aload_n hx hb d_Mo_invoice_310 rfl (lv_at hl 3 rfl) ?_
                            refine va_get (D := (dC, dI)) (ci := 7) (v := .ref (ad 7)) (C := R_Mo) (T := F_Mo) (N := 31) hx hb hG iG_Mo hown hK hP 0 rfl rfl 10 (by decide) (hG _ k_533) (fun _ h9 => h9) rfl d_Mo_invoice_311 ?_
                            refine lv_iload_n hx hb d_Mo_invoice_314 rfl (lv_at hl 4 rfl) ?_
                            refine lv_iconst (v := 2) hx hb d_Mo_invoice_315 (by decide) ?_
                            refine ra_iast (n := 300) (j := j) (f := AI 7) hx hb hK hP hD hS 7 6 rfl rfl (by omega) (by decide) d_Mo_invoice_316 (fun H locs hP hD hS => ?_)
                            have hP : va_P (dC, dI) classes (mw ad cA 0 yr nf no nt bd nb fl (va_up (va_up (va_up AI 11 (va_up (AI 11) j ((AI 11 j) + 1))) 12 (va_up (AI 12) j (on / 30))) 7 (va_up (AI 7) j 2)) AN AB (va_up (va_up AL 3 (va_up (AL 3) ((AN 4 j)) ((AL 3 ((AN 4 j))) + (((c0.toInt64) * ((AI 20 (10 * k + r)).toInt64)) / ((AI 21 (10 * k + r)).toInt64))))) 10 (va_up (AL 10) j ((((c0.toInt64) * ((AI 20 (10 * k + r)).toInt64)) / ((AI 21 (10 * k + r)).toInt64)) - ((AI 5 j).toInt64))))) H := hP
                            have hD : va_D A (mw ad cA 0 yr nf no nt bd nb fl (va_up (va_up (va_up AI 11 (va_up (AI 11) j ((AI 11 j) + 1))) 12 (va_up (AI 12) j (on / 30))) 7 (va_up (AI 7) j 2)) AN AB (va_up (va_up AL 3 (va_up (AL 3) ((AN 4 j)) ((AL 3 ((AN 4 j))) + (((c0.toInt64) * ((AI 20 (10 * k + r)).toInt64)) / ((AI 21 (10 * k + r)).toInt64))))) 10 (va_up (AL 10) j ((((c0.toInt64) * ((AI 20 (10 * k + r)).toInt64)) / ((AI 21 (10 * k + r)).toInt64)) - ((AI 5 j).toInt64))))) := hD
                            refine lv_lload hx hb d_Mo_invoice_317 (lv_at hl 1 rfl) ?_
                            exact W.lret (v := (((c0.toInt64) * ((AI 20 (10 * k + r)).toInt64)) / ((AI 21 (10 * k + r)).toInt64))) hx hb hr (fun t ht hW => ⟨⟨_, (0, yr, nf, no, nt, bd, nb, fl, va_up (va_up (va_up AI 11 (va_up (AI 11) j ((AI 11 j) + 1))) 12 (va_up (AI 12) j (on / 30))) 7 (va_up (AI 7) j 2), AN, AB, va_up (va_up AL 3 (va_up (AL 3) ((AN 4 j)) ((AL 3 ((AN 4 j))) + (((c0.toInt64) * ((AI 20 (10 * k + r)).toInt64)) / ((AI 21 (10 * k + r)).toInt64))))) 10 (va_up (AL 10) j ((((c0.toInt64) * ((AI 20 (10 * k + r)).toInt64)) / ((AI 21 (10 * k + r)).toInt64)) - ((AI 5 j).toInt64)))), rfl, (by simp [m_invoice, m_house, ixn, bI, ej, ek, c_2, c_2n, c_4, c_6, c_8, c_9, c_10, hro, c_24, c_27] <;> (repeat' apply And.intro) <;> rfl), by rw [ht]; exact hP, va_K.moved hW.alike hK, hD⟩, hS.F ht⟩) hS.2.2 d_Mo_invoice_319
                        · refine lv_ldc2 (own := R_Mo) (v := (-4)) hx hb hown (hG _ k_684) d_Mo_invoice_244 ?_
                          exact W.lret (v := (-4)) hx hb hr (fun t ht hW => ⟨⟨_, (0, yr, nf, no, nt, bd, nb, fl, AI, AN, AB, AL), rfl, (by simp [m_invoice, m_house, ixn, bI, ej, ek, c_2, c_2n, c_4, c_6, c_8, c_9, c_10, hro, c_24, c_27] <;> (repeat' apply And.intro) <;> rfl), by rw [ht]; exact hP, va_K.moved hW.alike hK, hD⟩, hS.F ht⟩) hS.2.2 d_Mo_invoice_247
                      · exact absurd (c_10.symm.trans c_25) (by decide)
                    · refine lv_ldc2 (own := R_Mo) (v := (-5)) hx hb hown (hG _ k_683) d_Mo_invoice_204 ?_
                      exact W.lret (v := (-5)) hx hb hr (fun t ht hW => ⟨⟨_, (0, yr, nf, no, nt, bd, nb, fl, AI, AN, AB, AL), rfl, (by simp [m_invoice, m_house, ixn, bI, ej, ek, c_2, c_2n, c_4, c_6, c_8, c_9, c_10, hro, c_24] <;> (repeat' apply And.intro) <;> rfl), by rw [ht]; exact hP, va_K.moved hW.alike hK, hD⟩, hS.F ht⟩) hS.2.2 d_Mo_invoice_207
                  · exact absurd (nI_pos' (by omega)) c_22
                · exact absurd (nI_pos' (by omega)) c_21
            · refine lv_aload_n hx hb d_Mo_invoice_85 rfl (lv_at hl 0 rfl) ?_
              refine va_get (D := (dC, dI)) (ci := 7) (v := .ref (ad 12)) (C := R_Mo) (T := F_Mo) (N := 31) hx hb hG iG_Mo hown hK hP 0 rfl rfl 15 (by decide) (hG _ k_538) (fun _ h9 => h9) rfl d_Mo_invoice_86 ?_
              refine lv_iload_n hx hb d_Mo_invoice_89 rfl (lv_at hl 1 rfl) ?_
              refine ra_iald (n := 300) (j := j) (f := AI 12) hx hb hK hP 12 11 rfl rfl (by omega) (by decide) d_Mo_invoice_90 ?_
              refine lv_iload hx hb d_Mo_invoice_91 (lv_at hl 4 rfl) ?_
              refine lv_bipush (v := 30) hx hb d_Mo_invoice_93 (by decide) ?_
              refine lv_idiv hx hb d_Mo_invoice_95 (by decide) ?_
              refine lv_icmp_lt (tgt := 103) hx hb d_Mo_invoice_96 (by decide) (fun c_29 => ?_) (fun c_29 => ?_)
              · rw [← Int32.not_le] at c_29
                refine lv_aload_n hx hb d_Mo_invoice_103 rfl (lv_at hl 0 rfl) ?_
                refine lv_iload_n hx hb d_Mo_invoice_104 rfl (lv_at hl 3 rfl) ?_
                refine lv_iload hx hb d_Mo_invoice_105 (lv_at hl 4 rfl) ?_
                refine rd_calli (va_runV (As := [.int (nI k), .int on]) (rest := []) ⟨hx, hb, hml, hown, hts⟩ (c_Mo_rowOn l dC dI ad cA 0 yr nf no nt bd nb fl AI AN AB AL k on (by omega) (by omega)) (cwV 2 hts (gd_V k_677 k_679 k_11 k_17 k_680) rfl rfl rfl (by decide +kernel) ⟨Nat.le_of_ble_eq_true rfl, Nat.le_of_ble_eq_true rfl⟩) (rd_preV 0 hK hN hP rfl rfl) rfl rfl hl.1 rfl (lv_room (Nat.le_of_ble_eq_true rfl)) d_Mo_invoice_107 ⟨Nat.zero_le _, Nat.zero_le _⟩) (fun r_30 hr_30 => ?_)
                subst hr_30
                rcases hro : m_rowOn AI AN k on with _ | r
                · refine lv_topI (y := (-1)) rfl ?_
                  refine lv_istore (lv' := [(5, .int (-1)), (0, .ref (ad 0)), (1, .int (nI j)), (2, .int c0), (3, .int (nI k)), (4, .int on)]) hx hb d_Mo_invoice_110 hl (by decide) rfl (fun ls hl => ?_)
                  refine lv_iload hx hb d_Mo_invoice_112 (lv_at hl 0 rfl) ?_
                  refine lv_if_ge (tgt := 125) hx hb d_Mo_invoice_114 (by decide) (fun c_31 => ?_) (fun c_31 => ?_)
                  · exact absurd c_31 (by decide)
                  · refine lv_iload_n hx hb d_Mo_invoice_117 rfl (lv_at hl 4 rfl) ?_
                    refine lv_if_le (tgt := 125) hx hb d_Mo_invoice_118 (by decide) (fun c_32 => ?_) (fun c_32 => ?_)
                    · rw [← Int32.not_lt] at c_32
                      refine lv_iload hx hb d_Mo_invoice_125 (lv_at hl 0 rfl) ?_
                      refine lv_if_ge (tgt := 135) hx hb d_Mo_invoice_127 (by decide) (fun c_33 => ?_) (fun c_33 => ?_)
                      · exact absurd c_33 (by decide)
                      · refine lv_iload_n hx hb d_Mo_invoice_130 rfl (lv_at hl 3 rfl) ?_
                        refine lv_i2l hx hb d_Mo_invoice_131 rfl ?_
                        refine lv_goto (tgt := 155) hx hb d_Mo_invoice_132 (by decide) ?_
                        refine lv_lstore (lv' := [(6, .long (c0.toInt64)), (5, .int (-1)), (0, .ref (ad 0)), (1, .int (nI j)), (2, .int c0), (3, .int (nI k)), (4, .int on)]) hx hb d_Mo_invoice_155 hl (by decide) rfl (fun ls hl => ?_)
                        refine lv_aload_n hx hb d_Mo_invoice_157 rfl (lv_at hl 2 rfl) ?_
                        refine va_get (D := (dC, dI)) (ci := 7) (v := .ref (ad 5)) (C := R_Mo) (T := F_Mo) (N := 31) hx hb hG iG_Mo hown hK hP 0 rfl rfl 8 (by decide) (hG _ k_531) (fun _ h9 => h9) rfl d_Mo_invoice_158 ?_
                        refine lv_iload_n hx hb d_Mo_invoice_161 rfl (lv_at hl 3 rfl) ?_
                        refine ra_iald (n := 300) (j := j) (f := AI 5) hx hb hK hP 5 4 rfl rfl (by omega) (by decide) d_Mo_invoice_162 ?_
                        refine lv_i2l hx hb d_Mo_invoice_163 rfl ?_
                        refine lv_aload_n hx hb d_Mo_invoice_164 rfl (lv_at hl 2 rfl) ?_
                        refine va_get (D := (dC, dI)) (ci := 7) (v := .int bd) (C := R_Mo) (T := F_Mo) (N := 31) hx hb hG iG_Mo hown hK hP 0 rfl rfl 22 (by decide) (hG _ k_545) (fun _ h9 => h9) rfl d_Mo_invoice_165 ?_
                        refine lv_i2l hx hb d_Mo_invoice_168 rfl ?_
                        refine lv_lmul hx hb d_Mo_invoice_169 ?_
                        refine lv_ldc2 (own := R_Mo) (v := 1000) hx hb hown (hG _ k_682) d_Mo_invoice_170 ?_
                        refine lv_ldiv hx hb d_Mo_invoice_173 (by decide) ?_
                        refine lv_lstore (lv' := [(8, .long ((((AI 5 j).toInt64) * (bd.toInt64)) / 1000)), (6, .long (c0.toInt64)), (5, .int (-1)), (0, .ref (ad 0)), (1, .int (nI j)), (2, .int c0), (3, .int (nI k)), (4, .int on)]) hx hb d_Mo_invoice_174 hl (by decide) rfl (fun ls hl => ?_)
                        refine lv_lload hx hb d_Mo_invoice_176 (lv_at hl 1 rfl) ?_
                        refine lv_aload_n hx hb d_Mo_invoice_178 rfl (lv_at hl 3 rfl) ?_
                        refine va_get (D := (dC, dI)) (ci := 7) (v := .ref (ad 5)) (C := R_Mo) (T := F_Mo) (N := 31) hx hb hG iG_Mo hown hK hP 0 rfl rfl 8 (by decide) (hG _ k_531) (fun _ h9 => h9) rfl d_Mo_invoice_179 ?_
                        refine lv_iload_n hx hb d_Mo_invoice_182 rfl (lv_at hl 4 rfl) ?_
                        refine ra_iald (n := 300) (j := j) (f := AI 5) hx hb hK hP 5 4 rfl rfl (by omega) (by decide) d_Mo_invoice_183 ?_
                        refine lv_i2l hx hb d_Mo_invoice_184 rfl ?_
                        refine lv_lload hx hb d_Mo_invoice_185 (lv_at hl 0 rfl) ?_
                        refine lv_lsub hx hb d_Mo_invoice_187 ?_
                        refine lv_aload_n hx hb d_Mo_invoice_188 rfl (lv_at hl 3 rfl) ?_
                        refine va_get (D := (dC, dI)) (ci := 7) (v := .ref (ad 5)) (C := R_Mo) (T := F_Mo) (N := 31) hx hb hG iG_Mo hown hK hP 0 rfl rfl 8 (by decide) (hG _ k_531) (fun _ h9 => h9) rfl d_Mo_invoice_189 ?_
                        refine lv_iload_n hx hb d_Mo_invoice_192 rfl (lv_at hl 4 rfl) ?_
                        refine ra_iald (n := 300) (j := j) (f := AI 5) hx hb hK hP 5 4 rfl rfl (by omega) (by decide) d_Mo_invoice_193 ?_
                        refine lv_i2l hx hb d_Mo_invoice_194 rfl ?_
                        refine lv_lload hx hb d_Mo_invoice_195 (lv_at hl 0 rfl) ?_
                        refine lv_ladd hx hb d_Mo_invoice_197 ?_
                        refine rd_calli (va_runS (As := [.long (c0.toInt64), .long (((AI 5 j).toInt64) - ((((AI 5 j).toInt64) * (bd.toInt64)) / 1000)), .long (((AI 5 j).toInt64) + ((((AI 5 j).toInt64) * (bd.toInt64)) / 1000))]) (rest := []) ⟨hx, hb, hml, hown, hts⟩ (c_Mo_in l dC dI (mtys cA) (mw ad cA 0 yr nf no nt bd nb fl AI AN AB AL) (c0.toInt64) (((AI 5 j).toInt64) - ((((AI 5 j).toInt64) * (bd.toInt64)) / 1000)) (((AI 5 j).toInt64) + ((((AI 5 j).toInt64) * (bd.toInt64)) / 1000))) (cwS 3 hts (gd_S k_629 k_630 k_17 k_631) rfl rfl rfl (by decide +kernel) ⟨Nat.le_of_ble_eq_true rfl, Nat.le_of_ble_eq_true rfl⟩) (rd_preS hK hN hP) rfl rfl hl.1 rfl (lv_room (Nat.le_of_ble_eq_true rfl)) d_Mo_invoice_198 ⟨Nat.zero_le _, Nat.zero_le _⟩) (fun r_34 hr_34 => ?_)
                        subst hr_34
                        refine lb_if_ne (tgt := 208) hx hb d_Mo_invoice_201 (by decide) (fun c_35 => ?_) (fun c_35 => ?_)
                        · refine lv_aload_n hx hb d_Mo_invoice_208 rfl (lv_at hl 3 rfl) ?_
                          refine lv_aload_n hx hb d_Mo_invoice_209 rfl (lv_at hl 3 rfl) ?_
                          refine va_get (D := (dC, dI)) (ci := 7) (v := .ref (ad 4)) (C := R_Mo) (T := F_Mo) (N := 31) hx hb hG iG_Mo hown hK hP 0 rfl rfl 7 (by decide) (hG _ k_530) (fun _ h9 => h9) rfl d_Mo_invoice_210 ?_
                          refine lv_iload_n hx hb d_Mo_invoice_213 rfl (lv_at hl 4 rfl) ?_
                          refine rn_iald (n := 300) (j := j) (g := AN 4) hx hb hK hP 4 3 rfl rfl (by omega) (by decide) d_Mo_invoice_214 ?_
                          refine lv_lconst (v := 0) hx hb d_Mo_invoice_215 (by decide) ?_
                          refine lv_lload hx hb d_Mo_invoice_216 (lv_at hl 1 rfl) ?_
                          refine lv_aload_n hx hb d_Mo_invoice_218 rfl (lv_at hl 3 rfl) ?_
                          refine va_get (D := (dC, dI)) (ci := 7) (v := .ref (ad 6)) (C := R_Mo) (T := F_Mo) (N := 31) hx hb hG iG_Mo hown hK hP 0 rfl rfl 9 (by decide) (hG _ k_532) (fun _ h9 => h9) rfl d_Mo_invoice_219 ?_
                          refine lv_iload_n hx hb d_Mo_invoice_222 rfl (lv_at hl 4 rfl) ?_
                          refine rb_zald (n := 300) (j := j) (g := AB 6) hx hb hK hP 6 5 rfl rfl (by omega) (by decide) d_Mo_invoice_223 ?_
                          refine lb_if_eq (tgt := 231) hx hb d_Mo_invoice_224 (by decide) (fun c_36 => ?_) (fun c_36 => ?_)
                          · exact absurd (c_10.symm.trans c_36) (by decide)
                          · refine lv_lconst (v := 0) hx hb d_Mo_invoice_227 (by decide) ?_
                            refine lv_goto (tgt := 238) hx hb d_Mo_invoice_228 (by decide) ?_
                            refine rd_calli (va_runV (As := [.int (nI ((AN 4 j))), .long 0, .long (c0.toInt64), .long 0]) (rest := []) ⟨hx, hb, hml, hown, hts⟩ (c_Mo_fits l dC dI ad cA 0 yr nf no nt bd nb fl AI AN AB AL ((AN 4 j)) 0 (c0.toInt64) 0 hno (by omega)) (cwV 4 hts (gd_V k_641 k_643 k_8 k_17 k_644) rfl rfl rfl (by decide +kernel) ⟨Nat.le_of_ble_eq_true rfl, Nat.le_of_ble_eq_true rfl⟩) (rd_preV 0 hK hN hP rfl rfl) rfl rfl hl.1 rfl (lv_room (Nat.le_of_ble_eq_true rfl)) d_Mo_invoice_238 ⟨Nat.zero_le _, Nat.zero_le _⟩) (fun r_37 hr_37 => ?_)
                            subst hr_37
                            refine lb_if_ne (tgt := 248) hx hb d_Mo_invoice_241 (by decide) (fun c_38 => ?_) (fun c_38 => ?_)
                            · refine lv_aload_n hx hb d_Mo_invoice_248 rfl (lv_at hl 3 rfl) ?_
                              refine va_get (D := (dC, dI)) (ci := 7) (v := .ref (ad 3)) (C := R_Mo) (T := F_Mo) (N := 31) hx hb hG iG_Mo hown hK hP 0 rfl rfl 5 (by decide) (hG _ k_528) (fun _ h9 => h9) rfl d_Mo_invoice_249 ?_
                              refine lv_aload_n hx hb d_Mo_invoice_252 rfl (lv_at hl 3 rfl) ?_
                              refine va_get (D := (dC, dI)) (ci := 7) (v := .ref (ad 4)) (C := R_Mo) (T := F_Mo) (N := 31) hx hb hG iG_Mo hown hK hP 0 rfl rfl 7 (by decide) (hG _ k_530) (fun _ h9 => h9) rfl d_Mo_invoice_253 ?_
                              refine lv_iload_n hx hb d_Mo_invoice_256 rfl (lv_at hl 4 rfl) ?_
                              refine rn_iald (n := 300) (j := j) (g := AN 4) hx hb hK hP 4 3 rfl rfl (by omega) (by decide) d_Mo_invoice_257 ?_
                              refine lv_dup2_11 hx hb d_Mo_invoice_258 rfl rfl ?_
                              refine ra_lald (n := 30) (j := ((AN 4 j))) (f := AL 3) hx hb hK hP 3 2 rfl rfl (by omega) (by decide) d_Mo_invoice_259 ?_
                              refine lv_lload hx hb d_Mo_invoice_260 (lv_at hl 1 rfl) ?_
                              refine lv_ladd hx hb d_Mo_invoice_262 ?_
                              refine ra_last (n := 30) (j := ((AN 4 j))) (f := AL 3) hx hb hK hP hD hS 3 2 rfl rfl (by omega) (by decide) d_Mo_invoice_263 (fun H locs hP hD hS => ?_)
                              have hP : va_P (dC, dI) classes (mw ad cA 0 yr nf no nt bd nb fl AI AN AB (va_up AL 3 (va_up (AL 3) ((AN 4 j)) ((AL 3 ((AN 4 j))) + (c0.toInt64))))) H := hP
                              have hD : va_D A (mw ad cA 0 yr nf no nt bd nb fl AI AN AB (va_up AL 3 (va_up (AL 3) ((AN 4 j)) ((AL 3 ((AN 4 j))) + (c0.toInt64))))) := hD
                              refine lv_aload_n hx hb d_Mo_invoice_264 rfl (lv_at hl 3 rfl) ?_
                              refine va_get (D := (dC, dI)) (ci := 7) (v := .ref (ad 10)) (C := R_Mo) (T := F_Mo) (N := 31) hx hb hG iG_Mo hown hK hP 0 rfl rfl 13 (by decide) (hG _ k_536) (fun _ h9 => h9) rfl d_Mo_invoice_265 ?_
                              refine lv_iload_n hx hb d_Mo_invoice_268 rfl (lv_at hl 4 rfl) ?_
                              refine lv_lload hx hb d_Mo_invoice_269 (lv_at hl 1 rfl) ?_
                              refine lv_aload_n hx hb d_Mo_invoice_271 rfl (lv_at hl 3 rfl) ?_
                              refine va_get (D := (dC, dI)) (ci := 7) (v := .ref (ad 5)) (C := R_Mo) (T := F_Mo) (N := 31) hx hb hG iG_Mo hown hK hP 0 rfl rfl 8 (by decide) (hG _ k_531) (fun _ h9 => h9) rfl d_Mo_invoice_272 ?_
                              refine lv_iload_n hx hb d_Mo_invoice_275 rfl (lv_at hl 4 rfl) ?_
                              refine ra_iald (n := 300) (j := j) (f := AI 5) hx hb hK hP 5 4 rfl rfl (by omega) (by decide) d_Mo_invoice_276 ?_
                              refine lv_i2l hx hb d_Mo_invoice_277 rfl ?_
                              refine lv_lsub hx hb d_Mo_invoice_278 ?_
                              refine ra_last (n := 300) (j := j) (f := AL 10) hx hb hK hP hD hS 10 9 rfl rfl (by omega) (by decide) d_Mo_invoice_279 (fun H locs hP hD hS => ?_)
                              have hP : va_P (dC, dI) classes (mw ad cA 0 yr nf no nt bd nb fl AI AN AB (va_up (va_up AL 3 (va_up (AL 3) ((AN 4 j)) ((AL 3 ((AN 4 j))) + (c0.toInt64)))) 10 (va_up (AL 10) j ((c0.toInt64) - ((AI 5 j).toInt64))))) H := hP
                              have hD : va_D A (mw ad cA 0 yr nf no nt bd nb fl AI AN AB (va_up (va_up AL 3 (va_up (AL 3) ((AN 4 j)) ((AL 3 ((AN 4 j))) + (c0.toInt64)))) 10 (va_up (AL 10) j ((c0.toInt64) - ((AI 5 j).toInt64))))) := hD
                              refine lv_aload_n hx hb d_Mo_invoice_280 rfl (lv_at hl 3 rfl) ?_
                              refine va_get (D := (dC, dI)) (ci := 7) (v := .ref (ad 11)) (C := R_Mo) (T := F_Mo) (N := 31) hx hb hG iG_Mo hown hK hP 0 rfl rfl 14 (by decide) (hG _ k_537) (fun _ h9 => h9) rfl d_Mo_invoice_281 ?_
                              refine lv_iload_n hx hb d_Mo_invoice_284 rfl (lv_at hl 4 rfl) ?_
                              refine lv_dup2_11 hx hb d_Mo_invoice_285 rfl rfl ?_
                              refine ra_iald (n := 300) (j := j) (f := AI 11) hx hb hK hP 11 10 rfl rfl (by omega) (by decide) d_Mo_invoice_286 ?_
                              refine lv_iconst (v := 1) hx hb d_Mo_invoice_287 (by decide) ?_
                              refine lv_iadd hx hb d_Mo_invoice_288 ?_
                              refine ra_iast (n := 300) (j := j) (f := AI 11) hx hb hK hP hD hS 11 10 rfl rfl (by omega) (by decide) d_Mo_invoice_289 (fun H locs hP hD hS => ?_)
                              have hP : va_P (dC, dI) classes (mw ad cA 0 yr nf no nt bd nb fl (va_up AI 11 (va_up (AI 11) j ((AI 11 j) + 1))) AN AB (va_up (va_up AL 3 (va_up (AL 3) ((AN 4 j)) ((AL 3 ((AN 4 j))) + (c0.toInt64)))) 10 (va_up (AL 10) j ((c0.toInt64) - ((AI 5 j).toInt64))))) H := hP
                              have hD : va_D A (mw ad cA 0 yr nf no nt bd nb fl (va_up AI 11 (va_up (AI 11) j ((AI 11 j) + 1))) AN AB (va_up (va_up AL 3 (va_up (AL 3) ((AN 4 j)) ((AL 3 ((AN 4 j))) + (c0.toInt64)))) 10 (va_up (AL 10) j ((c0.toInt64) - ((AI 5 j).toInt64))))) := hD
                              refine lv_aload_n hx hb d_Mo_invoice_290 rfl (lv_at hl 3 rfl) ?_
                              refine va_get (D := (dC, dI)) (ci := 7) (v := .ref (ad 12)) (C := R_Mo) (T := F_Mo) (N := 31) hx hb hG iG_Mo hown hK hP 0 rfl rfl 15 (by decide) (hG _ k_538) (fun _ h9 => h9) rfl d_Mo_invoice_291 ?_
                              refine lv_iload_n hx hb d_Mo_invoice_294 rfl (lv_at hl 4 rfl) ?_
                              refine lv_iload hx hb d_Mo_invoice_295 (lv_at hl 7 rfl) ?_
                              refine lv_bipush (v := 30) hx hb d_Mo_invoice_297 (by decide) ?_
                              refine lv_idiv hx hb d_Mo_invoice_299 (by decide) ?_
                              refine ra_iast (n := 300) (j := j) (f := AI 12) hx hb hK hP hD hS 12 11 rfl rfl (by omega) (by decide) d_Mo_invoice_300 (fun H locs hP hD hS => ?_)
                              have hP : va_P (dC, dI) classes (mw ad cA 0 yr nf no nt bd nb fl (va_up (va_up AI 11 (va_up (AI 11) j ((AI 11 j) + 1))) 12 (va_up (AI 12) j (on / 30))) AN AB (va_up (va_up AL 3 (va_up (AL 3) ((AN 4 j)) ((AL 3 ((AN 4 j))) + (c0.toInt64)))) 10 (va_up (AL 10) j ((c0.toInt64) - ((AI 5 j).toInt64))))) H := hP
                              have hD : va_D A (mw ad cA 0 yr nf no nt bd nb fl (va_up (va_up AI 11 (va_up (AI 11) j ((AI 11 j) + 1))) 12 (va_up (AI 12) j (on / 30))) AN AB (va_up (va_up AL 3 (va_up (AL 3) ((AN 4 j)) ((AL 3 ((AN 4 j))) + (c0.toInt64)))) 10 (va_up (AL 10) j ((c0.toInt64) - ((AI 5 j).toInt64))))) := hD
                              refine lv_aload_n hx hb d_Mo_invoice_301 rfl (lv_at hl 3 rfl) ?_
                              refine va_get (D := (dC, dI)) (ci := 7) (v := .ref (ad 6)) (C := R_Mo) (T := F_Mo) (N := 31) hx hb hG iG_Mo hown hK hP 0 rfl rfl 9 (by decide) (hG _ k_532) (fun _ h9 => h9) rfl d_Mo_invoice_302 ?_
                              refine lv_iload_n hx hb d_Mo_invoice_305 rfl (lv_at hl 4 rfl) ?_
                              refine rb_zald (n := 300) (j := j) (g := AB 6) hx hb hK hP 6 5 rfl rfl (by omega) (by decide) d_Mo_invoice_306 ?_
                              refine lb_if_ne (tgt := 317) hx hb d_Mo_invoice_307 (by decide) (fun c_39 => ?_) (fun c_39 => ?_)
                              · refine lv_lload hx hb d_Mo_invoice_317 (lv_at hl 1 rfl) ?_
                                exact W.lret (v := (c0.toInt64)) hx hb hr (fun t ht hW => ⟨⟨_, (0, yr, nf, no, nt, bd, nb, fl, va_up (va_up AI 11 (va_up (AI 11) j ((AI 11 j) + 1))) 12 (va_up (AI 12) j (on / 30)), AN, AB, va_up (va_up AL 3 (va_up (AL 3) ((AN 4 j)) ((AL 3 ((AN 4 j))) + (c0.toInt64)))) 10 (va_up (AL 10) j ((c0.toInt64) - ((AI 5 j).toInt64)))), rfl, (by simp [m_invoice, m_house, ixn, bI, ej, ek, c_2, c_2n, c_4, c_6, c_8, c_9, c_10, c_29, hro, c_32, c_35, c_38] <;> (repeat' apply And.intro) <;> rfl), by rw [ht]; exact hP, va_K.moved hW.alike hK, hD⟩, hS.F ht⟩) hS.2.2 d_Mo_invoice_319
                              · exact absurd (c_10.symm.trans c_39) (by decide)
                            · refine lv_ldc2 (own := R_Mo) (v := (-4)) hx hb hown (hG _ k_684) d_Mo_invoice_244 ?_
                              exact W.lret (v := (-4)) hx hb hr (fun t ht hW => ⟨⟨_, (0, yr, nf, no, nt, bd, nb, fl, AI, AN, AB, AL), rfl, (by simp [m_invoice, m_house, ixn, bI, ej, ek, c_2, c_2n, c_4, c_6, c_8, c_9, c_10, c_29, hro, c_32, c_35, c_38] <;> (repeat' apply And.intro) <;> rfl), by rw [ht]; exact hP, va_K.moved hW.alike hK, hD⟩, hS.F ht⟩) hS.2.2 d_Mo_invoice_247
                        · refine lv_ldc2 (own := R_Mo) (v := (-5)) hx hb hown (hG _ k_683) d_Mo_invoice_204 ?_
                          exact W.lret (v := (-5)) hx hb hr (fun t ht hW => ⟨⟨_, (0, yr, nf, no, nt, bd, nb, fl, AI, AN, AB, AL), rfl, (by simp [m_invoice, m_house, ixn, bI, ej, ek, c_2, c_2n, c_4, c_6, c_8, c_9, c_10, c_29, hro, c_32, c_35] <;> (repeat' apply And.intro) <;> rfl), by rw [ht]; exact hP, va_K.moved hW.alike hK, hD⟩, hS.F ht⟩) hS.2.2 d_Mo_invoice_207
                    · rw [Int32.not_le] at c_32
                      refine lv_ldc2 (own := R_Mo) (v := (-6)) hx hb hown (hG _ k_681) d_Mo_invoice_121 ?_
                      exact W.lret (v := (-6)) hx hb hr (fun t ht hW => ⟨⟨_, (0, yr, nf, no, nt, bd, nb, fl, AI, AN, AB, AL), rfl, (by simp [m_invoice, m_house, ixn, bI, ej, ek, c_2, c_2n, c_4, c_6, c_8, c_9, c_10, c_29, hro, c_32] <;> (repeat' apply And.intro) <;> rfl), by rw [ht]; exact hP, va_K.moved hW.alike hK, hD⟩, hS.F ht⟩) hS.2.2 d_Mo_invoice_124
                · have hr10 : r < AN 18 k := lst_lt hro
                  refine lv_topI (y := nI (10 * k + r)) rfl ?_
                  refine lv_istore (lv' := [(5, .int (nI (10 * k + r))), (0, .ref (ad 0)), (1, .int (nI j)), (2, .int c0), (3, .int (nI k)), (4, .int on)]) hx hb d_Mo_invoice_110 hl (by decide) rfl (fun ls hl => ?_)
                  refine lv_iload hx hb d_Mo_invoice_112 (lv_at hl 0 rfl) ?_
                  refine lv_if_ge (tgt := 125) hx hb d_Mo_invoice_114 (by decide) (fun c_40 => ?_) (fun c_40 => ?_)
                  · refine lv_iload hx hb d_Mo_invoice_125 (lv_at hl 0 rfl) ?_
                    refine lv_if_ge (tgt := 135) hx hb d_Mo_invoice_127 (by decide) (fun c_41 => ?_) (fun c_41 => ?_)
                    · refine lv_iload_n hx hb d_Mo_invoice_135 rfl (lv_at hl 3 rfl) ?_
                      refine lv_i2l hx hb d_Mo_invoice_136 rfl ?_
                      refine lv_aload_n hx hb d_Mo_invoice_137 rfl (lv_at hl 1 rfl) ?_
                      refine va_get (D := (dC, dI)) (ci := 7) (v := .ref (ad 20)) (C := R_Mo) (T := F_Mo) (N := 31) hx hb hG iG_Mo hown hK hP 0 rfl rfl 25 (by decide) (hG _ k_548) (fun _ h9 => h9) rfl d_Mo_invoice_138 ?_
                      refine lv_iload hx hb d_Mo_invoice_141 (lv_at hl 0 rfl) ?_
                      refine ra_iald (n := 100) (j := (10 * k + r)) (f := AI 20) hx hb hK hP 20 19 rfl rfl (by omega) (by decide) d_Mo_invoice_143 ?_
                      refine lv_i2l hx hb d_Mo_invoice_144 rfl ?_
                      refine lv_lmul hx hb d_Mo_invoice_145 ?_
                      refine lv_aload_n hx hb d_Mo_invoice_146 rfl (lv_at hl 1 rfl) ?_
                      refine va_get (D := (dC, dI)) (ci := 7) (v := .ref (ad 21)) (C := R_Mo) (T := F_Mo) (N := 31) hx hb hG iG_Mo hown hK hP 0 rfl rfl 26 (by decide) (hG _ k_549) (fun _ h9 => h9) rfl d_Mo_invoice_147 ?_
                      refine lv_iload hx hb d_Mo_invoice_150 (lv_at hl 0 rfl) ?_
                      refine ra_iald (n := 100) (j := (10 * k + r)) (f := AI 21) hx hb hK hP 21 20 rfl rfl (by omega) (by decide) d_Mo_invoice_152 ?_
                      refine lv_i2l hx hb d_Mo_invoice_153 rfl ?_
                      refine lv_ldiv hx hb d_Mo_invoice_154 (ne0_64 (hdn k r hk hr10)) ?_
                      refine lv_lstore (lv' := [(6, .long (((c0.toInt64) * ((AI 20 (10 * k + r)).toInt64)) / ((AI 21 (10 * k + r)).toInt64))), (5, .int (nI (10 * k + r))), (0, .ref (ad 0)), (1, .int (nI j)), (2, .int c0), (3, .int (nI k)), (4, .int on)]) hx hb d_Mo_invoice_155 hl (by decide) rfl (fun ls hl => ?_)
                      refine lv_aload_n hx hb d_Mo_invoice_157 rfl (lv_at hl 2 rfl) ?_
                      refine va_get (D := (dC, dI)) (ci := 7) (v := .ref (ad 5)) (C := R_Mo) (T := F_Mo) (N := 31) hx hb hG iG_Mo hown hK hP 0 rfl rfl 8 (by decide) (hG _ k_531) (fun _ h9 => h9) rfl d_Mo_invoice_158 ?_
                      refine lv_iload_n hx hb d_Mo_invoice_161 rfl (lv_at hl 3 rfl) ?_
                      refine ra_iald (n := 300) (j := j) (f := AI 5) hx hb hK hP 5 4 rfl rfl (by omega) (by decide) d_Mo_invoice_162 ?_
                      refine lv_i2l hx hb d_Mo_invoice_163 rfl ?_
                      refine lv_aload_n hx hb d_Mo_invoice_164 rfl (lv_at hl 2 rfl) ?_
                      refine va_get (D := (dC, dI)) (ci := 7) (v := .int bd) (C := R_Mo) (T := F_Mo) (N := 31) hx hb hG iG_Mo hown hK hP 0 rfl rfl 22 (by decide) (hG _ k_545) (fun _ h9 => h9) rfl d_Mo_invoice_165 ?_
                      refine lv_i2l hx hb d_Mo_invoice_168 rfl ?_
                      refine lv_lmul hx hb d_Mo_invoice_169 ?_
                      refine lv_ldc2 (own := R_Mo) (v := 1000) hx hb hown (hG _ k_682) d_Mo_invoice_170 ?_
                      refine lv_ldiv hx hb d_Mo_invoice_173 (by decide) ?_
                      refine lv_lstore (lv' := [(8, .long ((((AI 5 j).toInt64) * (bd.toInt64)) / 1000)), (6, .long (((c0.toInt64) * ((AI 20 (10 * k + r)).toInt64)) / ((AI 21 (10 * k + r)).toInt64))), (5, .int (nI (10 * k + r))), (0, .ref (ad 0)), (1, .int (nI j)), (2, .int c0), (3, .int (nI k)), (4, .int on)]) hx hb d_Mo_invoice_174 hl (by decide) rfl (fun ls hl => ?_)
                      refine lv_lload hx hb d_Mo_invoice_176 (lv_at hl 1 rfl) ?_
                      refine lv_aload_n hx hb d_Mo_invoice_178 rfl (lv_at hl 3 rfl) ?_
                      refine va_get (D := (dC, dI)) (ci := 7) (v := .ref (ad 5)) (C := R_Mo) (T := F_Mo) (N := 31) hx hb hG iG_Mo hown hK hP 0 rfl rfl 8 (by decide) (hG _ k_531) (fun _ h9 => h9) rfl d_Mo_invoice_179 ?_
                      refine lv_iload_n hx hb d_Mo_invoice_182 rfl (lv_at hl 4 rfl) ?_
                      refine ra_iald (n := 300) (j := j) (f := AI 5) hx hb hK hP 5 4 rfl rfl (by omega) (by decide) d_Mo_invoice_183 ?_
                      refine lv_i2l hx hb d_Mo_invoice_184 rfl ?_
                      refine lv_lload hx hb d_Mo_invoice_185 (lv_at hl 0 rfl) ?_
                      refine lv_lsub hx hb d_Mo_invoice_187 ?_
                      refine lv_aload_n hx hb d_Mo_invoice_188 rfl (lv_at hl 3 rfl) ?_
                      refine va_get (D := (dC, dI)) (ci := 7) (v := .ref (ad 5)) (C := R_Mo) (T := F_Mo) (N := 31) hx hb hG iG_Mo hown hK hP 0 rfl rfl 8 (by decide) (hG _ k_531) (fun _ h9 => h9) rfl d_Mo_invoice_189 ?_
                      refine lv_iload_n hx hb d_Mo_invoice_192 rfl (lv_at hl 4 rfl) ?_
                      refine ra_iald (n := 300) (j := j) (f := AI 5) hx hb hK hP 5 4 rfl rfl (by omega) (by decide) d_Mo_invoice_193 ?_
                      refine lv_i2l hx hb d_Mo_invoice_194 rfl ?_
                      refine lv_lload hx hb d_Mo_invoice_195 (lv_at hl 0 rfl) ?_
                      refine lv_ladd hx hb d_Mo_invoice_197 ?_
                      refine rd_calli (va_runS (As := [.long (((c0.toInt64) * ((AI 20 (10 * k + r)).toInt64)) / ((AI 21 (10 * k + r)).toInt64)), .long (((AI 5 j).toInt64) - ((((AI 5 j).toInt64) * (bd.toInt64)) / 1000)), .long (((AI 5 j).toInt64) + ((((AI 5 j).toInt64) * (bd.toInt64)) / 1000))]) (rest := []) ⟨hx, hb, hml, hown, hts⟩ (c_Mo_in l dC dI (mtys cA) (mw ad cA 0 yr nf no nt bd nb fl AI AN AB AL) (((c0.toInt64) * ((AI 20 (10 * k + r)).toInt64)) / ((AI 21 (10 * k + r)).toInt64)) (((AI 5 j).toInt64) - ((((AI 5 j).toInt64) * (bd.toInt64)) / 1000)) (((AI 5 j).toInt64) + ((((AI 5 j).toInt64) * (bd.toInt64)) / 1000))) (cwS 3 hts (gd_S k_629 k_630 k_17 k_631) rfl rfl rfl (by decide +kernel) ⟨Nat.le_of_ble_eq_true rfl, Nat.le_of_ble_eq_true rfl⟩) (rd_preS hK hN hP) rfl rfl hl.1 rfl (lv_room (Nat.le_of_ble_eq_true rfl)) d_Mo_invoice_198 ⟨Nat.zero_le _, Nat.zero_le _⟩) (fun r_42 hr_42 => ?_)
                      subst hr_42
                      refine lb_if_ne (tgt := 208) hx hb d_Mo_invoice_201 (by decide) (fun c_43 => ?_) (fun c_43 => ?_)
                      · refine lv_aload_n hx hb d_Mo_invoice_208 rfl (lv_at hl 3 rfl) ?_
                        refine lv_aload_n hx hb d_Mo_invoice_209 rfl (lv_at hl 3 rfl) ?_
                        refine va_get (D := (dC, dI)) (ci := 7) (v := .ref (ad 4)) (C := R_Mo) (T := F_Mo) (N := 31) hx hb hG iG_Mo hown hK hP 0 rfl rfl 7 (by decide) (hG _ k_530) (fun _ h9 => h9) rfl d_Mo_invoice_210 ?_
                        refine lv_iload_n hx hb d_Mo_invoice_213 rfl (lv_at hl 4 rfl) ?_
                        refine rn_iald (n := 300) (j := j) (g := AN 4) hx hb hK hP 4 3 rfl rfl (by omega) (by decide) d_Mo_invoice_214 ?_
                        refine lv_lconst (v := 0) hx hb d_Mo_invoice_215 (by decide) ?_
                        refine lv_lload hx hb d_Mo_invoice_216 (lv_at hl 1 rfl) ?_
                        refine lv_aload_n hx hb d_Mo_invoice_218 rfl (lv_at hl 3 rfl) ?_
                        refine va_get (D := (dC, dI)) (ci := 7) (v := .ref (ad 6)) (C := R_Mo) (T := F_Mo) (N := 31) hx hb hG iG_Mo hown hK hP 0 rfl rfl 9 (by decide) (hG _ k_532) (fun _ h9 => h9) rfl d_Mo_invoice_219 ?_
                        refine lv_iload_n hx hb d_Mo_invoice_222 rfl (lv_at hl 4 rfl) ?_
                        refine rb_zald (n := 300) (j := j) (g := AB 6) hx hb hK hP 6 5 rfl rfl (by omega) (by decide) d_Mo_invoice_223 ?_
                        refine lb_if_eq (tgt := 231) hx hb d_Mo_invoice_224 (by decide) (fun c_44 => ?_) (fun c_44 => ?_)
                        · exact absurd (c_10.symm.trans c_44) (by decide)
                        · refine lv_lconst (v := 0) hx hb d_Mo_invoice_227 (by decide) ?_
                          refine lv_goto (tgt := 238) hx hb d_Mo_invoice_228 (by decide) ?_
                          refine rd_calli (va_runV (As := [.int (nI ((AN 4 j))), .long 0, .long (((c0.toInt64) * ((AI 20 (10 * k + r)).toInt64)) / ((AI 21 (10 * k + r)).toInt64)), .long 0]) (rest := []) ⟨hx, hb, hml, hown, hts⟩ (c_Mo_fits l dC dI ad cA 0 yr nf no nt bd nb fl AI AN AB AL ((AN 4 j)) 0 (((c0.toInt64) * ((AI 20 (10 * k + r)).toInt64)) / ((AI 21 (10 * k + r)).toInt64)) 0 hno (by omega)) (cwV 4 hts (gd_V k_641 k_643 k_8 k_17 k_644) rfl rfl rfl (by decide +kernel) ⟨Nat.le_of_ble_eq_true rfl, Nat.le_of_ble_eq_true rfl⟩) (rd_preV 0 hK hN hP rfl rfl) rfl rfl hl.1 rfl (lv_room (Nat.le_of_ble_eq_true rfl)) d_Mo_invoice_238 ⟨Nat.zero_le _, Nat.zero_le _⟩) (fun r_45 hr_45 => ?_)
                          subst hr_45
                          refine lb_if_ne (tgt := 248) hx hb d_Mo_invoice_241 (by decide) (fun c_46 => ?_) (fun c_46 => ?_)
                          · refine lv_aload_n hx hb d_Mo_invoice_248 rfl (lv_at hl 3 rfl) ?_
                            refine va_get (D := (dC, dI)) (ci := 7) (v := .ref (ad 3)) (C := R_Mo) (T := F_Mo) (N := 31) hx hb hG iG_Mo hown hK hP 0 rfl rfl 5 (by decide) (hG _ k_528) (fun _ h9 => h9) rfl d_Mo_invoice_249 ?_
                            refine lv_aload_n hx hb d_Mo_invoice_252 rfl (lv_at hl 3 rfl) ?_
                            refine va_get (D := (dC, dI)) (ci := 7) (v := .ref (ad 4)) (C := R_Mo) (T := F_Mo) (N := 31) hx hb hG iG_Mo hown hK hP 0 rfl rfl 7 (by decide) (hG _ k_530) (fun _ h9 => h9) rfl d_Mo_invoice_253 ?_
                            refine lv_iload_n hx hb d_Mo_invoice_256 rfl (lv_at hl 4 rfl) ?_
                            refine rn_iald (n := 300) (j := j) (g := AN 4) hx hb hK hP 4 3 rfl rfl (by omega) (by decide) d_Mo_invoice_257 ?_
                            refine lv_dup2_11 hx hb d_Mo_invoice_258 rfl rfl ?_
                            refine ra_lald (n := 30) (j := ((AN 4 j))) (f := AL 3) hx hb hK hP 3 2 rfl rfl (by omega) (by decide) d_Mo_invoice_259 ?_
                            refine lv_lload hx hb d_Mo_invoice_260 (lv_at hl 1 rfl) ?_
                            refine lv_ladd hx hb d_Mo_invoice_262 ?_
                            refine ra_last (n := 30) (j := ((AN 4 j))) (f := AL 3) hx hb hK hP hD hS 3 2 rfl rfl (by omega) (by decide) d_Mo_invoice_263 (fun H locs hP hD hS => ?_)
                            have hP : va_P (dC, dI) classes (mw ad cA 0 yr nf no nt bd nb fl AI AN AB (va_up AL 3 (va_up (AL 3) ((AN 4 j)) ((AL 3 ((AN 4 j))) + (((c0.toInt64) * ((AI 20 (10 * k + r)).toInt64)) / ((AI 21 (10 * k + r)).toInt64)))))) H := hP
                            have hD : va_D A (mw ad cA 0 yr nf no nt bd nb fl AI AN AB (va_up AL 3 (va_up (AL 3) ((AN 4 j)) ((AL 3 ((AN 4 j))) + (((c0.toInt64) * ((AI 20 (10 * k + r)).toInt64)) / ((AI 21 (10 * k + r)).toInt64)))))) := hD
                            refine lv_aload_n hx hb d_Mo_invoice_264 rfl (lv_at hl 3 rfl) ?_
                            refine va_get (D := (dC, dI)) (ci := 7) (v := .ref (ad 10)) (C := R_Mo) (T := F_Mo) (N := 31) hx hb hG iG_Mo hown hK hP 0 rfl rfl 13 (by decide) (hG _ k_536) (fun _ h9 => h9) rfl d_Mo_invoice_265 ?_
                            refine lv_iload_n hx hb d_Mo_invoice_268 rfl (lv_at hl 4 rfl) ?_
                            refine lv_lload hx hb d_Mo_invoice_269 (lv_at hl 1 rfl) ?_
                            refine lv_aload_n hx hb d_Mo_invoice_271 rfl (lv_at hl 3 rfl) ?_
                            refine va_get (D := (dC, dI)) (ci := 7) (v := .ref (ad 5)) (C := R_Mo) (T := F_Mo) (N := 31) hx hb hG iG_Mo hown hK hP 0 rfl rfl 8 (by decide) (hG _ k_531) (fun _ h9 => h9) rfl d_Mo_invoice_272 ?_
                            refine lv_iload_n hx hb d_Mo_invoice_275 rfl (lv_at hl 4 rfl) ?_
                            refine ra_iald (n := 300) (j := j) (f := AI 5) hx hb hK hP 5 4 rfl rfl (by omega) (by decide) d_Mo_invoice_276 ?_
                            refine lv_i2l hx hb d_Mo_invoice_277 rfl ?_
                            refine lv_lsub hx hb d_Mo_invoice_278 ?_
                            refine ra_last (n := 300) (j := j) (f := AL 10) hx hb hK hP hD hS 10 9 rfl rfl (by omega) (by decide) d_Mo_invoice_279 (fun H locs hP hD hS => ?_)
                            have hP : va_P (dC, dI) classes (mw ad cA 0 yr nf no nt bd nb fl AI AN AB (va_up (va_up AL 3 (va_up (AL 3) ((AN 4 j)) ((AL 3 ((AN 4 j))) + (((c0.toInt64) * ((AI 20 (10 * k + r)).toInt64)) / ((AI 21 (10 * k + r)).toInt64))))) 10 (va_up (AL 10) j ((((c0.toInt64) * ((AI 20 (10 * k + r)).toInt64)) / ((AI 21 (10 * k + r)).toInt64)) - ((AI 5 j).toInt64))))) H := hP
                            have hD : va_D A (mw ad cA 0 yr nf no nt bd nb fl AI AN AB (va_up (va_up AL 3 (va_up (AL 3) ((AN 4 j)) ((AL 3 ((AN 4 j))) + (((c0.toInt64) * ((AI 20 (10 * k + r)).toInt64)) / ((AI 21 (10 * k + r)).toInt64))))) 10 (va_up (AL 10) j ((((c0.toInt64) * ((AI 20 (10 * k + r)).toInt64)) / ((AI 21 (10 * k + r)).toInt64)) - ((AI 5 j).toInt64))))) := hD
                            refine lv_aload_n hx hb d_Mo_invoice_280 rfl (lv_at hl 3 rfl) ?_
                            refine va_get (D := (dC, dI)) (ci := 7) (v := .ref (ad 11)) (C := R_Mo) (T := F_Mo) (N := 31) hx hb hG iG_Mo hown hK hP 0 rfl rfl 14 (by decide) (hG _ k_537) (fun _ h9 => h9) rfl d_Mo_invoice_281 ?_
                            refine lv_iload_n hx hb d_Mo_invoice_284 rfl (lv_at hl 4 rfl) ?_
                            refine lv_dup2_11 hx hb d_Mo_invoice_285 rfl rfl ?_
                            refine ra_iald (n := 300) (j := j) (f := AI 11) hx hb hK hP 11 10 rfl rfl (by omega) (by decide) d_Mo_invoice_286 ?_
                            refine lv_iconst (v := 1) hx hb d_Mo_invoice_287 (by decide) ?_
                            refine lv_iadd hx hb d_Mo_invoice_288 ?_
                            refine ra_iast (n := 300) (j := j) (f := AI 11) hx hb hK hP hD hS 11 10 rfl rfl (by omega) (by decide) d_Mo_invoice_289 (fun H locs hP hD hS => ?_)
                            have hP : va_P (dC, dI) classes (mw ad cA 0 yr nf no nt bd nb fl (va_up AI 11 (va_up (AI 11) j ((AI 11 j) + 1))) AN AB (va_up (va_up AL 3 (va_up (AL 3) ((AN 4 j)) ((AL 3 ((AN 4 j))) + (((c0.toInt64) * ((AI 20 (10 * k + r)).toInt64)) / ((AI 21 (10 * k + r)).toInt64))))) 10 (va_up (AL 10) j ((((c0.toInt64) * ((AI 20 (10 * k + r)).toInt64)) / ((AI 21 (10 * k + r)).toInt64)) - ((AI 5 j).toInt64))))) H := hP
                            have hD : va_D A (mw ad cA 0 yr nf no nt bd nb fl (va_up AI 11 (va_up (AI 11) j ((AI 11 j) + 1))) AN AB (va_up (va_up AL 3 (va_up (AL 3) ((AN 4 j)) ((AL 3 ((AN 4 j))) + (((c0.toInt64) * ((AI 20 (10 * k + r)).toInt64)) / ((AI 21 (10 * k + r)).toInt64))))) 10 (va_up (AL 10) j ((((c0.toInt64) * ((AI 20 (10 * k + r)).toInt64)) / ((AI 21 (10 * k + r)).toInt64)) - ((AI 5 j).toInt64))))) := hD
                            refine lv_aload_n hx hb d_Mo_invoice_290 rfl (lv_at hl 3 rfl) ?_
                            refine va_get (D := (dC, dI)) (ci := 7) (v := .ref (ad 12)) (C := R_Mo) (T := F_Mo) (N := 31) hx hb hG iG_Mo hown hK hP 0 rfl rfl 15 (by decide) (hG _ k_538) (fun _ h9 => h9) rfl d_Mo_invoice_291 ?_
                            refine lv_iload_n hx hb d_Mo_invoice_294 rfl (lv_at hl 4 rfl) ?_
                            refine lv_iload hx hb d_Mo_invoice_295 (lv_at hl 7 rfl) ?_
                            refine lv_bipush (v := 30) hx hb d_Mo_invoice_297 (by decide) ?_
                            refine lv_idiv hx hb d_Mo_invoice_299 (by decide) ?_
                            refine ra_iast (n := 300) (j := j) (f := AI 12) hx hb hK hP hD hS 12 11 rfl rfl (by omega) (by decide) d_Mo_invoice_300 (fun H locs hP hD hS => ?_)
                            have hP : va_P (dC, dI) classes (mw ad cA 0 yr nf no nt bd nb fl (va_up (va_up AI 11 (va_up (AI 11) j ((AI 11 j) + 1))) 12 (va_up (AI 12) j (on / 30))) AN AB (va_up (va_up AL 3 (va_up (AL 3) ((AN 4 j)) ((AL 3 ((AN 4 j))) + (((c0.toInt64) * ((AI 20 (10 * k + r)).toInt64)) / ((AI 21 (10 * k + r)).toInt64))))) 10 (va_up (AL 10) j ((((c0.toInt64) * ((AI 20 (10 * k + r)).toInt64)) / ((AI 21 (10 * k + r)).toInt64)) - ((AI 5 j).toInt64))))) H := hP
                            have hD : va_D A (mw ad cA 0 yr nf no nt bd nb fl (va_up (va_up AI 11 (va_up (AI 11) j ((AI 11 j) + 1))) 12 (va_up (AI 12) j (on / 30))) AN AB (va_up (va_up AL 3 (va_up (AL 3) ((AN 4 j)) ((AL 3 ((AN 4 j))) + (((c0.toInt64) * ((AI 20 (10 * k + r)).toInt64)) / ((AI 21 (10 * k + r)).toInt64))))) 10 (va_up (AL 10) j ((((c0.toInt64) * ((AI 20 (10 * k + r)).toInt64)) / ((AI 21 (10 * k + r)).toInt64)) - ((AI 5 j).toInt64))))) := hD
                            refine lv_aload_n hx hb d_Mo_invoice_301 rfl (lv_at hl 3 rfl) ?_
                            refine va_get (D := (dC, dI)) (ci := 7) (v := .ref (ad 6)) (C := R_Mo) (T := F_Mo) (N := 31) hx hb hG iG_Mo hown hK hP 0 rfl rfl 9 (by decide) (hG _ k_532) (fun _ h9 => h9) rfl d_Mo_invoice_302 ?_
                            refine lv_iload_n hx hb d_Mo_invoice_305 rfl (lv_at hl 4 rfl) ?_
                            refine rb_zald (n := 300) (j := j) (g := AB 6) hx hb hK hP 6 5 rfl rfl (by omega) (by decide) d_Mo_invoice_306 ?_
                            refine lb_if_ne (tgt := 317) hx hb d_Mo_invoice_307 (by decide) (fun c_47 => ?_) (fun c_47 => ?_)
                            · refine lv_lload hx hb d_Mo_invoice_317 (lv_at hl 1 rfl) ?_
                              exact W.lret (v := (((c0.toInt64) * ((AI 20 (10 * k + r)).toInt64)) / ((AI 21 (10 * k + r)).toInt64))) hx hb hr (fun t ht hW => ⟨⟨_, (0, yr, nf, no, nt, bd, nb, fl, va_up (va_up AI 11 (va_up (AI 11) j ((AI 11 j) + 1))) 12 (va_up (AI 12) j (on / 30)), AN, AB, va_up (va_up AL 3 (va_up (AL 3) ((AN 4 j)) ((AL 3 ((AN 4 j))) + (((c0.toInt64) * ((AI 20 (10 * k + r)).toInt64)) / ((AI 21 (10 * k + r)).toInt64))))) 10 (va_up (AL 10) j ((((c0.toInt64) * ((AI 20 (10 * k + r)).toInt64)) / ((AI 21 (10 * k + r)).toInt64)) - ((AI 5 j).toInt64)))), rfl, (by simp [m_invoice, m_house, ixn, bI, ej, ek, c_2, c_2n, c_4, c_6, c_8, c_9, c_10, c_29, hro, c_43, c_46] <;> (repeat' apply And.intro) <;> rfl), by rw [ht]; exact hP, va_K.moved hW.alike hK, hD⟩, hS.F ht⟩) hS.2.2 d_Mo_invoice_319
                            · exact absurd (c_10.symm.trans c_47) (by decide)
                          · refine lv_ldc2 (own := R_Mo) (v := (-4)) hx hb hown (hG _ k_684) d_Mo_invoice_244 ?_
                            exact W.lret (v := (-4)) hx hb hr (fun t ht hW => ⟨⟨_, (0, yr, nf, no, nt, bd, nb, fl, AI, AN, AB, AL), rfl, (by simp [m_invoice, m_house, ixn, bI, ej, ek, c_2, c_2n, c_4, c_6, c_8, c_9, c_10, c_29, hro, c_43, c_46] <;> (repeat' apply And.intro) <;> rfl), by rw [ht]; exact hP, va_K.moved hW.alike hK, hD⟩, hS.F ht⟩) hS.2.2 d_Mo_invoice_247
                      · refine lv_ldc2 (own := R_Mo) (v := (-5)) hx hb hown (hG _ k_683) d_Mo_invoice_204 ?_
                        exact W.lret (v := (-5)) hx hb hr (fun t ht hW => ⟨⟨_, (0, yr, nf, no, nt, bd, nb, fl, AI, AN, AB, AL), rfl, (by simp [m_invoice, m_house, ixn, bI, ej, ek, c_2, c_2n, c_4, c_6, c_8, c_9, c_10, c_29, hro, c_43] <;> (repeat' apply And.intro) <;> rfl), by rw [ht]; exact hP, va_K.moved hW.alike hK, hD⟩, hS.F ht⟩) hS.2.2 d_Mo_invoice_207
                    · exact absurd (nI_pos' (by omega)) c_41
                  · exact absurd (nI_pos' (by omega)) c_40
              · rw [Int32.not_lt] at c_29
                refine lv_ldc2 (own := R_Mo) (v := (-3)) hx hb hown (hG _ k_676) d_Mo_invoice_99 ?_
                exact W.lret (v := (-3)) hx hb hr (fun t ht hW => ⟨⟨_, (0, yr, nf, no, nt, bd, nb, fl, AI, AN, AB, AL), rfl, (by simp [m_invoice, m_house, ixn, bI, ej, ek, c_2, c_2n, c_4, c_6, c_8, c_9, c_10, c_29] <;> (repeat' apply And.intro) <;> rfl), by rw [ht]; exact hP, va_K.moved hW.alike hK, hD⟩, hS.F ht⟩) hS.2.2 d_Mo_invoice_102
        · refine lv_ldc2 (own := R_Mo) (v := (-2)) hx hb hown (hG _ k_675) d_Mo_invoice_62 ?_
          exact W.lret (v := (-2)) hx hb hr (fun t ht hW => ⟨⟨_, (0, yr, nf, no, nt, bd, nb, fl, AI, AN, AB, AL), rfl, (by simp [m_invoice, m_house, ixn, bI, ej, c_2, c_2n, c_4, c_6, c_8] <;> (repeat' apply And.intro) <;> rfl), by rw [ht]; exact hP, va_K.moved hW.alike hK, hD⟩, hS.F ht⟩) hS.2.2 d_Mo_invoice_65
  · have c_2n : inN i0 no = false := c_2
    refine lv_ldc2 (own := R_Mo) (v := (-1)) hx hb hown (hG _ k_672) d_Mo_invoice_21 ?_
    exact W.lret (v := (-1)) hx hb hr (fun t ht hW => ⟨⟨_, (0, yr, nf, no, nt, bd, nb, fl, AI, AN, AB, AL), rfl, (by simp [m_invoice, m_house, ixn, bI, c_2, c_2n] <;> (repeat' apply And.intro) <;> rfl), by rw [ht]; exact hP, va_K.moved hW.alike hK, hD⟩, hS.F ht⟩) hS.2.2 d_Mo_invoice_24
end
section
theorem d_Mo_agree_0 : decode b_Mo_agree 0 = .ok (.aload_n 0, 1) := by decide +kernel
theorem d_Mo_agree_1 : decode b_Mo_agree 1 = .ok (.iconst 0, 1) := by decide +kernel
theorem d_Mo_agree_2 : decode b_Mo_agree 2 = .ok (.putfield 91, 3) := by decide +kernel
theorem d_Mo_agree_5 : decode b_Mo_agree 5 = .ok (.iload_n 1, 1) := by decide +kernel
theorem d_Mo_agree_6 : decode b_Mo_agree 6 = .ok (.i2l, 1) := by decide +kernel
theorem d_Mo_agree_7 : decode b_Mo_agree 7 = .ok (.lconst 0, 1) := by decide +kernel
theorem d_Mo_agree_8 : decode b_Mo_agree 8 = .ok (.aload_n 0, 1) := by decide +kernel
theorem d_Mo_agree_9 : decode b_Mo_agree 9 = .ok (.getfield 159, 3) := by decide +kernel
theorem d_Mo_agree_12 : decode b_Mo_agree 12 = .ok (.iconst 1, 1) := by decide +kernel
theorem d_Mo_agree_13 : decode b_Mo_agree 13 = .ok (.isub, 1) := by decide +kernel
theorem d_Mo_agree_14 : decode b_Mo_agree 14 = .ok (.i2l, 1) := by decide +kernel
theorem d_Mo_agree_15 : decode b_Mo_agree 15 = .ok (.invokestatic 97, 3) := by decide +kernel
theorem d_Mo_agree_18 : decode b_Mo_agree 18 = .ok (.ifCond .ne 5, 3) := by decide +kernel
theorem d_Mo_agree_21 : decode b_Mo_agree 21 = .ok (.iconst (-1), 1) := by decide +kernel
theorem d_Mo_agree_22 : decode b_Mo_agree 22 = .ok (.ireturn, 1) := by decide +kernel
theorem d_Mo_agree_23 : decode b_Mo_agree 23 = .ok (.iload_n 2, 1) := by decide +kernel
theorem d_Mo_agree_24 : decode b_Mo_agree 24 = .ok (.i2l, 1) := by decide +kernel
theorem d_Mo_agree_25 : decode b_Mo_agree 25 = .ok (.lconst 0, 1) := by decide +kernel
theorem d_Mo_agree_26 : decode b_Mo_agree 26 = .ok (.ldc2_w 133, 3) := by decide +kernel
theorem d_Mo_agree_29 : decode b_Mo_agree 29 = .ok (.invokestatic 97, 3) := by decide +kernel
theorem d_Mo_agree_32 : decode b_Mo_agree 32 = .ok (.ifCond .ne 6, 3) := by decide +kernel
theorem d_Mo_agree_35 : decode b_Mo_agree 35 = .ok (.bipush (-2), 2) := by decide +kernel
theorem d_Mo_agree_37 : decode b_Mo_agree 37 = .ok (.ireturn, 1) := by decide +kernel
theorem d_Mo_agree_38 : decode b_Mo_agree 38 = .ok (.aload_n 0, 1) := by decide +kernel
theorem d_Mo_agree_39 : decode b_Mo_agree 39 = .ok (.getfield 57, 3) := by decide +kernel
theorem d_Mo_agree_42 : decode b_Mo_agree 42 = .ok (.iload_n 1, 1) := by decide +kernel
theorem d_Mo_agree_43 : decode b_Mo_agree 43 = .ok (.baload, 1) := by decide +kernel
theorem d_Mo_agree_44 : decode b_Mo_agree 44 = .ok (.ifCond .ne 17, 3) := by decide +kernel
theorem d_Mo_agree_47 : decode b_Mo_agree 47 = .ok (.aload_n 0, 1) := by decide +kernel
theorem d_Mo_agree_48 : decode b_Mo_agree 48 = .ok (.getfield 60, 3) := by decide +kernel
theorem d_Mo_agree_51 : decode b_Mo_agree 51 = .ok (.bipush 100, 2) := by decide +kernel
theorem d_Mo_agree_53 : decode b_Mo_agree 53 = .ok (.iload_n 1, 1) := by decide +kernel
theorem d_Mo_agree_54 : decode b_Mo_agree 54 = .ok (.imul, 1) := by decide +kernel
theorem d_Mo_agree_55 : decode b_Mo_agree 55 = .ok (.iload_n 2, 1) := by decide +kernel
theorem d_Mo_agree_56 : decode b_Mo_agree 56 = .ok (.iadd, 1) := by decide +kernel
theorem d_Mo_agree_57 : decode b_Mo_agree 57 = .ok (.baload, 1) := by decide +kernel
theorem d_Mo_agree_58 : decode b_Mo_agree 58 = .ok (.ifCond .eq 6, 3) := by decide +kernel
theorem d_Mo_agree_61 : decode b_Mo_agree 61 = .ok (.bipush (-3), 2) := by decide +kernel
theorem d_Mo_agree_63 : decode b_Mo_agree 63 = .ok (.ireturn, 1) := by decide +kernel
theorem d_Mo_agree_64 : decode b_Mo_agree 64 = .ok (.iconst 1, 1) := by decide +kernel
theorem d_Mo_agree_65 : decode b_Mo_agree 65 = .ok (.istore_n 3, 1) := by decide +kernel
theorem d_Mo_agree_66 : decode b_Mo_agree 66 = .ok (.iconst 0, 1) := by decide +kernel
theorem d_Mo_agree_67 : decode b_Mo_agree 67 = .ok (.istore 4, 2) := by decide +kernel
theorem d_Mo_agree_69 : decode b_Mo_agree 69 = .ok (.iload 4, 2) := by decide +kernel
theorem d_Mo_agree_71 : decode b_Mo_agree 71 = .ok (.bipush 100, 2) := by decide +kernel
theorem d_Mo_agree_73 : decode b_Mo_agree 73 = .ok (.if_icmp .ge 32, 3) := by decide +kernel
theorem d_Mo_agree_76 : decode b_Mo_agree 76 = .ok (.iload_n 3, 1) := by decide +kernel
theorem d_Mo_agree_77 : decode b_Mo_agree 77 = .ok (.aload_n 0, 1) := by decide +kernel
theorem d_Mo_agree_78 : decode b_Mo_agree 78 = .ok (.getfield 60, 3) := by decide +kernel
theorem d_Mo_agree_81 : decode b_Mo_agree 81 = .ok (.bipush 100, 2) := by decide +kernel
theorem d_Mo_agree_83 : decode b_Mo_agree 83 = .ok (.iload_n 1, 1) := by decide +kernel
theorem d_Mo_agree_84 : decode b_Mo_agree 84 = .ok (.imul, 1) := by decide +kernel
theorem d_Mo_agree_85 : decode b_Mo_agree 85 = .ok (.iload 4, 2) := by decide +kernel
theorem d_Mo_agree_87 : decode b_Mo_agree 87 = .ok (.iadd, 1) := by decide +kernel
theorem d_Mo_agree_88 : decode b_Mo_agree 88 = .ok (.baload, 1) := by decide +kernel
theorem d_Mo_agree_89 : decode b_Mo_agree 89 = .ok (.ifCond .eq 7, 3) := by decide +kernel
theorem d_Mo_agree_92 : decode b_Mo_agree 92 = .ok (.iconst 1, 1) := by decide +kernel
theorem d_Mo_agree_93 : decode b_Mo_agree 93 = .ok (.goto 4, 3) := by decide +kernel
theorem d_Mo_agree_96 : decode b_Mo_agree 96 = .ok (.iconst 0, 1) := by decide +kernel
theorem d_Mo_agree_97 : decode b_Mo_agree 97 = .ok (.iadd, 1) := by decide +kernel
theorem d_Mo_agree_98 : decode b_Mo_agree 98 = .ok (.istore_n 3, 1) := by decide +kernel
theorem d_Mo_agree_99 : decode b_Mo_agree 99 = .ok (.iinc 4 1, 3) := by decide +kernel
theorem d_Mo_agree_102 : decode b_Mo_agree 102 = .ok (.goto (-33), 3) := by decide +kernel
theorem d_Mo_agree_105 : decode b_Mo_agree 105 = .ok (.iload_n 3, 1) := by decide +kernel
theorem d_Mo_agree_106 : decode b_Mo_agree 106 = .ok (.iconst 1, 1) := by decide +kernel
theorem d_Mo_agree_107 : decode b_Mo_agree 107 = .ok (.if_icmp .le 28, 3) := by decide +kernel
theorem d_Mo_agree_110 : decode b_Mo_agree 110 = .ok (.aload_n 0, 1) := by decide +kernel
theorem d_Mo_agree_111 : decode b_Mo_agree 111 = .ok (.aload_n 0, 1) := by decide +kernel
theorem d_Mo_agree_112 : decode b_Mo_agree 112 = .ok (.getfield 48, 3) := by decide +kernel
theorem d_Mo_agree_115 : decode b_Mo_agree 115 = .ok (.iload_n 1, 1) := by decide +kernel
theorem d_Mo_agree_116 : decode b_Mo_agree 116 = .ok (.iaload, 1) := by decide +kernel
theorem d_Mo_agree_117 : decode b_Mo_agree 117 = .ok (.invokevirtual 130, 3) := by decide +kernel
theorem d_Mo_agree_120 : decode b_Mo_agree 120 = .ok (.aload_n 0, 1) := by decide +kernel
theorem d_Mo_agree_121 : decode b_Mo_agree 121 = .ok (.getfield 54, 3) := by decide +kernel
theorem d_Mo_agree_124 : decode b_Mo_agree 124 = .ok (.iload_n 1, 1) := by decide +kernel
theorem d_Mo_agree_125 : decode b_Mo_agree 125 = .ok (.iaload, 1) := by decide +kernel
theorem d_Mo_agree_126 : decode b_Mo_agree 126 = .ok (.i2l, 1) := by decide +kernel
theorem d_Mo_agree_127 : decode b_Mo_agree 127 = .ok (.lcmp, 1) := by decide +kernel
theorem d_Mo_agree_128 : decode b_Mo_agree 128 = .ok (.ifCond .lt 7, 3) := by decide +kernel
theorem d_Mo_agree_131 : decode b_Mo_agree 131 = .ok (.iconst 1, 1) := by decide +kernel
theorem d_Mo_agree_132 : decode b_Mo_agree 132 = .ok (.goto 4, 3) := by decide +kernel
theorem d_Mo_agree_135 : decode b_Mo_agree 135 = .ok (.iconst 0, 1) := by decide +kernel
theorem d_Mo_agree_136 : decode b_Mo_agree 136 = .ok (.istore 4, 2) := by decide +kernel
theorem d_Mo_agree_138 : decode b_Mo_agree 138 = .ok (.iload 4, 2) := by decide +kernel
theorem d_Mo_agree_140 : decode b_Mo_agree 140 = .ok (.ifCond .eq 51, 3) := by decide +kernel
theorem d_Mo_agree_143 : decode b_Mo_agree 143 = .ok (.aload_n 0, 1) := by decide +kernel
theorem d_Mo_agree_144 : decode b_Mo_agree 144 = .ok (.aload_n 0, 1) := by decide +kernel
theorem d_Mo_agree_145 : decode b_Mo_agree 145 = .ok (.getfield 48, 3) := by decide +kernel
theorem d_Mo_agree_148 : decode b_Mo_agree 148 = .ok (.iload_n 1, 1) := by decide +kernel
theorem d_Mo_agree_149 : decode b_Mo_agree 149 = .ok (.iaload, 1) := by decide +kernel
theorem d_Mo_agree_150 : decode b_Mo_agree 150 = .ok (.aload_n 0, 1) := by decide +kernel
theorem d_Mo_agree_151 : decode b_Mo_agree 151 = .ok (.getfield 54, 3) := by decide +kernel
theorem d_Mo_agree_154 : decode b_Mo_agree 154 = .ok (.iload_n 1, 1) := by decide +kernel
theorem d_Mo_agree_155 : decode b_Mo_agree 155 = .ok (.iaload, 1) := by decide +kernel
theorem d_Mo_agree_156 : decode b_Mo_agree 156 = .ok (.ineg, 1) := by decide +kernel
theorem d_Mo_agree_157 : decode b_Mo_agree 157 = .ok (.i2l, 1) := by decide +kernel
theorem d_Mo_agree_158 : decode b_Mo_agree 158 = .ok (.lconst 0, 1) := by decide +kernel
theorem d_Mo_agree_159 : decode b_Mo_agree 159 = .ok (.lconst 0, 1) := by decide +kernel
theorem d_Mo_agree_160 : decode b_Mo_agree 160 = .ok (.invokevirtual 124, 3) := by decide +kernel
theorem d_Mo_agree_163 : decode b_Mo_agree 163 = .ok (.ifCond .eq 25, 3) := by decide +kernel
theorem d_Mo_agree_166 : decode b_Mo_agree 166 = .ok (.aload_n 0, 1) := by decide +kernel
theorem d_Mo_agree_167 : decode b_Mo_agree 167 = .ok (.aload_n 0, 1) := by decide +kernel
theorem d_Mo_agree_168 : decode b_Mo_agree 168 = .ok (.getfield 51, 3) := by decide +kernel
theorem d_Mo_agree_171 : decode b_Mo_agree 171 = .ok (.iload_n 1, 1) := by decide +kernel
theorem d_Mo_agree_172 : decode b_Mo_agree 172 = .ok (.iaload, 1) := by decide +kernel
theorem d_Mo_agree_173 : decode b_Mo_agree 173 = .ok (.aload_n 0, 1) := by decide +kernel
theorem d_Mo_agree_174 : decode b_Mo_agree 174 = .ok (.getfield 54, 3) := by decide +kernel
theorem d_Mo_agree_177 : decode b_Mo_agree 177 = .ok (.iload_n 1, 1) := by decide +kernel
theorem d_Mo_agree_178 : decode b_Mo_agree 178 = .ok (.iaload, 1) := by decide +kernel
theorem d_Mo_agree_179 : decode b_Mo_agree 179 = .ok (.i2l, 1) := by decide +kernel
theorem d_Mo_agree_180 : decode b_Mo_agree 180 = .ok (.lconst 0, 1) := by decide +kernel
theorem d_Mo_agree_181 : decode b_Mo_agree 181 = .ok (.lconst 0, 1) := by decide +kernel
theorem d_Mo_agree_182 : decode b_Mo_agree 182 = .ok (.invokevirtual 124, 3) := by decide +kernel
theorem d_Mo_agree_185 : decode b_Mo_agree 185 = .ok (.ifCond .ne 6, 3) := by decide +kernel
theorem d_Mo_agree_188 : decode b_Mo_agree 188 = .ok (.bipush (-4), 2) := by decide +kernel
theorem d_Mo_agree_190 : decode b_Mo_agree 190 = .ok (.ireturn, 1) := by decide +kernel
theorem d_Mo_agree_191 : decode b_Mo_agree 191 = .ok (.aload_n 0, 1) := by decide +kernel
theorem d_Mo_agree_192 : decode b_Mo_agree 192 = .ok (.getfield 60, 3) := by decide +kernel
theorem d_Mo_agree_195 : decode b_Mo_agree 195 = .ok (.bipush 100, 2) := by decide +kernel
theorem d_Mo_agree_197 : decode b_Mo_agree 197 = .ok (.iload_n 1, 1) := by decide +kernel
theorem d_Mo_agree_198 : decode b_Mo_agree 198 = .ok (.imul, 1) := by decide +kernel
theorem d_Mo_agree_199 : decode b_Mo_agree 199 = .ok (.iload_n 2, 1) := by decide +kernel
theorem d_Mo_agree_200 : decode b_Mo_agree 200 = .ok (.iadd, 1) := by decide +kernel
theorem d_Mo_agree_201 : decode b_Mo_agree 201 = .ok (.iconst 1, 1) := by decide +kernel
theorem d_Mo_agree_202 : decode b_Mo_agree 202 = .ok (.bastore, 1) := by decide +kernel
theorem d_Mo_agree_203 : decode b_Mo_agree 203 = .ok (.iload 4, 2) := by decide +kernel
theorem d_Mo_agree_205 : decode b_Mo_agree 205 = .ok (.ifCond .ne 5, 3) := by decide +kernel
theorem d_Mo_agree_208 : decode b_Mo_agree 208 = .ok (.iconst 1, 1) := by decide +kernel
theorem d_Mo_agree_209 : decode b_Mo_agree 209 = .ok (.ireturn, 1) := by decide +kernel
theorem d_Mo_agree_210 : decode b_Mo_agree 210 = .ok (.aload_n 0, 1) := by decide +kernel
theorem d_Mo_agree_211 : decode b_Mo_agree 211 = .ok (.getfield 57, 3) := by decide +kernel
theorem d_Mo_agree_214 : decode b_Mo_agree 214 = .ok (.iload_n 1, 1) := by decide +kernel
theorem d_Mo_agree_215 : decode b_Mo_agree 215 = .ok (.iconst 1, 1) := by decide +kernel
theorem d_Mo_agree_216 : decode b_Mo_agree 216 = .ok (.bastore, 1) := by decide +kernel
theorem d_Mo_agree_217 : decode b_Mo_agree 217 = .ok (.aload_n 0, 1) := by decide +kernel
theorem d_Mo_agree_218 : decode b_Mo_agree 218 = .ok (.getfield 13, 3) := by decide +kernel
theorem d_Mo_agree_221 : decode b_Mo_agree 221 = .ok (.aload_n 0, 1) := by decide +kernel
theorem d_Mo_agree_222 : decode b_Mo_agree 222 = .ok (.getfield 48, 3) := by decide +kernel
theorem d_Mo_agree_225 : decode b_Mo_agree 225 = .ok (.iload_n 1, 1) := by decide +kernel
theorem d_Mo_agree_226 : decode b_Mo_agree 226 = .ok (.iaload, 1) := by decide +kernel
theorem d_Mo_agree_227 : decode b_Mo_agree 227 = .ok (.dup2, 1) := by decide +kernel
theorem d_Mo_agree_228 : decode b_Mo_agree 228 = .ok (.laload, 1) := by decide +kernel
theorem d_Mo_agree_229 : decode b_Mo_agree 229 = .ok (.aload_n 0, 1) := by decide +kernel
theorem d_Mo_agree_230 : decode b_Mo_agree 230 = .ok (.getfield 54, 3) := by decide +kernel
theorem d_Mo_agree_233 : decode b_Mo_agree 233 = .ok (.iload_n 1, 1) := by decide +kernel
theorem d_Mo_agree_234 : decode b_Mo_agree 234 = .ok (.iaload, 1) := by decide +kernel
theorem d_Mo_agree_235 : decode b_Mo_agree 235 = .ok (.i2l, 1) := by decide +kernel
theorem d_Mo_agree_236 : decode b_Mo_agree 236 = .ok (.lsub, 1) := by decide +kernel
theorem d_Mo_agree_237 : decode b_Mo_agree 237 = .ok (.lastore, 1) := by decide +kernel
theorem d_Mo_agree_238 : decode b_Mo_agree 238 = .ok (.aload_n 0, 1) := by decide +kernel
theorem d_Mo_agree_239 : decode b_Mo_agree 239 = .ok (.getfield 13, 3) := by decide +kernel
theorem d_Mo_agree_242 : decode b_Mo_agree 242 = .ok (.aload_n 0, 1) := by decide +kernel
theorem d_Mo_agree_243 : decode b_Mo_agree 243 = .ok (.getfield 51, 3) := by decide +kernel
theorem d_Mo_agree_246 : decode b_Mo_agree 246 = .ok (.iload_n 1, 1) := by decide +kernel
theorem d_Mo_agree_247 : decode b_Mo_agree 247 = .ok (.iaload, 1) := by decide +kernel
theorem d_Mo_agree_248 : decode b_Mo_agree 248 = .ok (.dup2, 1) := by decide +kernel
theorem d_Mo_agree_249 : decode b_Mo_agree 249 = .ok (.laload, 1) := by decide +kernel
theorem d_Mo_agree_250 : decode b_Mo_agree 250 = .ok (.aload_n 0, 1) := by decide +kernel
theorem d_Mo_agree_251 : decode b_Mo_agree 251 = .ok (.getfield 54, 3) := by decide +kernel
theorem d_Mo_agree_254 : decode b_Mo_agree 254 = .ok (.iload_n 1, 1) := by decide +kernel
theorem d_Mo_agree_255 : decode b_Mo_agree 255 = .ok (.iaload, 1) := by decide +kernel
theorem d_Mo_agree_256 : decode b_Mo_agree 256 = .ok (.i2l, 1) := by decide +kernel
theorem d_Mo_agree_257 : decode b_Mo_agree 257 = .ok (.ladd, 1) := by decide +kernel
theorem d_Mo_agree_258 : decode b_Mo_agree 258 = .ok (.lastore, 1) := by decide +kernel
theorem d_Mo_agree_259 : decode b_Mo_agree 259 = .ok (.iconst 2, 1) := by decide +kernel
theorem d_Mo_agree_260 : decode b_Mo_agree 260 = .ok (.ireturn, 1) := by decide +kernel
set_option maxHeartbeats 4000000 in
set_option maxRecDepth 100000 in
theorem lp_Mo_agree {p : Program} {l : Launch} {e : Env} {s : State} {m : MethodId} {args : Array Value} {below : List Frame} {meth : Method} {c : Code} {Q : State → Prop} {R : Room} {H : Heap} {locs : List Loc} {cells slots : Nat} {dC : Nat → ClassId} {dI : Nat → Nat → Nat} {ad : Nat → Nat} {cA : Nat → ClassId} {th yr : Int32} {nf no nt : Nat} {bd : Int32} {nb : Nat} {fl : Int32} {AI : Nat → Nat → Int32} {AN : Nat → Nat → Nat} {AB : Nat → Nat → Bool} {AL : Nat → Nat → Int64} (hx : p.tables.exec = Jvm.exec) (hb : c.code = b_Mo_agree) (hml : c.maxLocals = 5) (hown : s.vm.findClass R_Mo = some m.cls) (hts : ∀ w ∈ w_Mo_agree, w.before args s = true) (hK : va_K (dC, dI) classes (mtys cA) s) (hP : va_P (dC, dI) classes (mw ad cA th yr nf no nt bd nb fl AI AN AB AL) H) (k : Nat) (hk : k < 100) (wq : Nat)
    (exit : ∀ ls : Array Slot, lv_has ls 5 [(4, .int (nI 100)), (3, .int (1 + m_cnt AB k)), (0, .ref (ad 0)), (1, .int (nI k)), (2, .int (nI wq))] → W p l e R s m args below meth c H locs cells slots Q (F0 m 105 ls [])) :
    ∀ n i : Nat, i ≤ 100 → 100 + 1 ≤ i + n → ∀ ls : Array Slot, lv_has ls 5 [(4, .int (nI i)), (3, .int (1 + sumI (fun q => if AB 17 (100 * k + q) = true then 1 else 0) i)), (0, .ref (ad 0)), (1, .int (nI k)), (2, .int (nI wq))] → W p l e R s m args below meth c H locs cells slots Q (F0 m 69 ls []) := by
  have hG := fun (w : Cond) (h : w ∈ wG) => hts w (List.mem_cons_of_mem _ h)
  intro n
  induction n with
  | zero =>
    intro i h1 h2
    omega
  | succ n ih =>
    intro i hi hin ls hl
    refine lv_iload hx hb d_Mo_agree_69 (lv_at hl 0 rfl) ?_
    refine lv_bipush (v := 100) hx hb d_Mo_agree_71 (by decide) ?_
    refine lv_icmp_ge (tgt := 105) hx hb d_Mo_agree_73 (by decide) (fun c_1 => ?_) (fun c_1 => ?_)
    · obtain rfl : i = 100 := by have := (nI_le100 hi).mp c_1; omega
      exact exit ls (lv_sub hl [0, 1, 2, 3, 4] rfl)
    · have hlt : i < 100 := by have h9 := c_1; rw [nI_le100 hi] at h9; omega
      refine lv_iload_n hx hb d_Mo_agree_76 rfl (lv_at hl 1 rfl) ?_
      refine lv_aload_n hx hb d_Mo_agree_77 rfl (lv_at hl 2 rfl) ?_
      refine va_get (D := (dC, dI)) (ci := 7) (v := .ref (ad 17)) (C := R_Mo) (T := F_Mo) (N := 31) hx hb hG iG_Mo hown hK hP 0 rfl rfl 21 (by decide) (hG _ k_544) (fun _ h9 => h9) rfl d_Mo_agree_78 ?_
      refine lv_bipush (v := 100) hx hb d_Mo_agree_81 (by decide) ?_
      refine lv_iload_n hx hb d_Mo_agree_83 rfl (lv_at hl 3 rfl) ?_
      refine lv_imul hx hb d_Mo_agree_84 ?_
      refine lv_topI (y := nI (100 * k)) (pk_mul 100 k) ?_
      refine lv_iload hx hb d_Mo_agree_85 (lv_at hl 0 rfl) ?_
      refine lv_iadd hx hb d_Mo_agree_87 ?_
      refine lv_topI (y := nI ((100 * k) + i)) (nI_add (100 * k) i) ?_
      refine rb_zald (n := 10000) (j := ((100 * k) + i)) (g := AB 17) hx hb hK hP 17 16 rfl rfl (by omega) (by decide) d_Mo_agree_88 ?_
      refine lb_if_eq (tgt := 96) hx hb d_Mo_agree_89 (by decide) (fun c_2 => ?_) (fun c_2 => ?_)
      · refine lv_iconst (v := 0) hx hb d_Mo_agree_96 (by decide) ?_
        refine lv_iadd hx hb d_Mo_agree_97 ?_
        refine lv_topI (y := 1 + sumI (fun q => if AB 17 (100 * k + q) = true then 1 else 0) (i + 1)) (by simp [sumI, Int32.add_assoc, c_2]) ?_
        refine lv_istore_n (lv' := [(3, .int (1 + sumI (fun q => if AB 17 (100 * k + q) = true then 1 else 0) (i + 1))), (4, .int (nI i)), (0, .ref (ad 0)), (1, .int (nI k)), (2, .int (nI wq))]) hx hb d_Mo_agree_98 rfl hl (by decide) rfl (fun ls hl => ?_)
        refine lv_iinc (v := nI (i + 1)) (lv' := [(4, .int (nI (i + 1))), (3, .int (1 + sumI (fun q => if AB 17 (100 * k + q) = true then 1 else 0) (i + 1))), (0, .ref (ad 0)), (1, .int (nI k)), (2, .int (nI wq))]) hx hb d_Mo_agree_99 hl (k := 1) rfl (nI_1 i) (by decide) rfl (fun ls hl => ?_)
        refine lv_goto (tgt := 69) hx hb d_Mo_agree_102 (by decide) ?_
        exact ih (i + 1) (by omega) (by omega) ls (lv_sub hl [0, 1, 2, 3, 4] rfl)
      · refine lv_iconst (v := 1) hx hb d_Mo_agree_92 (by decide) ?_
        refine lv_goto (tgt := 97) hx hb d_Mo_agree_93 (by decide) ?_
        refine lv_iadd hx hb d_Mo_agree_97 ?_
        refine lv_topI (y := 1 + sumI (fun q => if AB 17 (100 * k + q) = true then 1 else 0) (i + 1)) (by simp [sumI, Int32.add_assoc, c_2]) ?_
        refine lv_istore_n (lv' := [(3, .int (1 + sumI (fun q => if AB 17 (100 * k + q) = true then 1 else 0) (i + 1))), (4, .int (nI i)), (0, .ref (ad 0)), (1, .int (nI k)), (2, .int (nI wq))]) hx hb d_Mo_agree_98 rfl hl (by decide) rfl (fun ls hl => ?_)
        refine lv_iinc (v := nI (i + 1)) (lv' := [(4, .int (nI (i + 1))), (3, .int (1 + sumI (fun q => if AB 17 (100 * k + q) = true then 1 else 0) (i + 1))), (0, .ref (ad 0)), (1, .int (nI k)), (2, .int (nI wq))]) hx hb d_Mo_agree_99 hl (k := 1) rfl (nI_1 i) (by decide) rfl (fun ls hl => ?_)
        refine lv_goto (tgt := 69) hx hb d_Mo_agree_102 (by decide) ?_
        exact ih (i + 1) (by omega) (by omega) ls (lv_sub hl [0, 1, 2, 3, 4] rfl)
set_option maxHeartbeats 4000000 in
set_option maxRecDepth 100000 in
theorem c_Mo_agree (l : Launch) (dC : Nat → ClassId) (dI : Nat → Nat → Nat) (ad : Nat → Nat) (cA : Nat → ClassId) (th yr : Int32) (nf no nt : Nat) (bd : Int32) (nb : Nat) (fl : Int32) (AI : Nat → Nat → Int32) (AN : Nat → Nat → Nat) (AB : Nat → Nat → Bool) (AL : Nat → Nat → Int64) (sz : Nat) (i0 w0 : Int32) (hI : InvM nf no nt nb AI AN) : Met l y_Mo_agree w_Mo_agree { frames := 3, cells := 0, slots := 0, locals := 79 } (mu_P (dC, dI) classes (mtys cA) (mw ad cA th yr nf no nt bd nb fl AI AN AB AL) sz [.ref (ad 0), .int i0, .int w0]) (va_Qi (fun r u => (r, u) = m_agree (th, yr, nf, no, nt, bd, nb, fl, AI, AN, AB, AL) i0 w0) (mu_B (dC, dI) classes (mtys cA) (va_A (mw ad cA th yr nf no nt bd nb fl AI AN AB AL) sz) (mwS ad cA)) (va_A (mw ad cA th yr nf no nt bd nb fl AI AN AB AL) sz)) 0 0 (va_A (mw ad cA th yr nf no nt bd nb fl AI AN AB AL) sz) := by
  refine Met.ofW (cc := b_Mo_agree) (maxL := 5) (ret := (some .int)) (by decide) rfl ?_
  intro p e s m args below meth c s₁ B hml hv
  obtain ⟨rfl, hsz, hP, hK, hD0, hN⟩ := hv
  have hx := B.exec
  have hb := B.bytes
  have hr := B.returns
  have hts := atoms_spec (ws := w_Mo_agree) B.pre
  have hG := fun (w : Cond) (h : w ∈ wG) => hts w (List.mem_cons_of_mem _ h)
  have hown : s.vm.findClass R_Mo = some m.cls := findClass_of_methodNamed B.named
  have hlocks := B.notSynchronized
  subst hsz
  have hD := hD0.self (sz := s.heap.size)
  generalize hAe : va_A (mw ad cA th yr nf no nt bd nb fl AI AN AB AL) s.heap.size = A at hD ⊢
  have hA : ∀ q : Nat, s.heap.size ≤ q → A q := fun q h => by rw [← hAe]; exact Or.inr h
  have hS : va_S A s.heap s.heap [] := va_S.rf
  have hP : va_P (dC, dI) classes (mw ad cA th yr nf no nt bd nb fl AI AN AB AL) s.heap := hP
  have hl := lv_entry ([.ref (ad 0), .int i0, .int w0]) (n := 5) (Nat.le_of_ble_eq_true rfl)
  rw [lg_entry_eq]
  generalize (lg_sl ([.ref (ad 0), .int i0, .int w0]) ++ List.replicate (5 - (lg_sl ([.ref (ad 0), .int i0, .int w0])).length) Slot.unset).toArray = ls at hl ⊢
  have hl : lv_has ls 5 [(0, .ref (ad 0)), (1, .int i0), (2, .int w0)] := hl
  obtain ⟨hnf, hno, hnt, hnb, hfu, hft, hbf, hrw, hce, hdn⟩ := id hI
  refine lv_aload_n hx hb d_Mo_agree_0 rfl (lv_at hl 0 rfl) ?_
  refine lv_iconst (v := 0) hx hb d_Mo_agree_1 (by decide) ?_
  refine va_put (D := (dC, dI)) (ci := 7) (v := .int 0) (ty := .int) (C := R_Mo) (T := F_Mo) (N := 31) hx hb hG iG_Mo t_Mo t_Mo_ok n_Mo hown hK hP hD hS 0 rfl rfl 0 (by decide) (hG _ k_523) (fun _ h9 => h9) rfl (by decide +kernel) rfl rfl (Nat.le_of_ble_eq_true rfl) d_Mo_agree_2 (fun H locs hP hD hS => ?_)
  have hP : va_P (dC, dI) classes (mw ad cA 0 yr nf no nt bd nb fl AI AN AB AL) H := hP
  have hD : va_D A (mw ad cA 0 yr nf no nt bd nb fl AI AN AB AL) := hD
  refine lv_iload_n hx hb d_Mo_agree_5 rfl (lv_at hl 1 rfl) ?_
  refine lv_i2l hx hb d_Mo_agree_6 rfl ?_
  refine lv_lconst (v := 0) hx hb d_Mo_agree_7 (by decide) ?_
  refine lv_aload_n hx hb d_Mo_agree_8 rfl (lv_at hl 0 rfl) ?_
  refine va_get (D := (dC, dI)) (ci := 7) (v := .int (nI nt)) (C := R_Mo) (T := F_Mo) (N := 31) hx hb hG iG_Mo hown hK hP 0 rfl rfl 16 (by decide) (hG _ k_539) (fun _ h9 => h9) rfl d_Mo_agree_9 ?_
  refine lv_iconst (v := 1) hx hb d_Mo_agree_12 (by decide) ?_
  refine lv_isub hx hb d_Mo_agree_13 ?_
  refine lv_i2l hx hb d_Mo_agree_14 rfl ?_
  refine rd_calli (va_runS (As := [.long (i0.toInt64), .long 0, .long ((nI nt - 1).toInt64)]) (rest := []) ⟨hx, hb, hml, hown, hts⟩ (c_Mo_in l dC dI (mtys cA) (mw ad cA 0 yr nf no nt bd nb fl AI AN AB AL) (i0.toInt64) 0 ((nI nt - 1).toInt64)) (cwS 3 hts (gd_S k_629 k_630 k_17 k_631) rfl rfl rfl (by decide +kernel) ⟨Nat.le_of_ble_eq_true rfl, Nat.le_of_ble_eq_true rfl⟩) (rd_preS hK hN hP) rfl rfl hl.1 rfl (lv_room (Nat.le_of_ble_eq_true rfl)) d_Mo_agree_15 ⟨Nat.zero_le _, Nat.zero_le _⟩) (fun r_1 hr_1 => ?_)
  subst hr_1
  refine lb_if_ne (tgt := 23) hx hb d_Mo_agree_18 (by decide) (fun c_2 => ?_) (fun c_2 => ?_)
  · obtain ⟨k, hk, rfl⟩ := inN_of (n := nt) (by omega) c_2
    have ek : (nI k).toNatClampNeg = k := nI_clamp (by omega)
    have c_2n : inN (nI k) nt = true := c_2
    refine lv_iload_n hx hb d_Mo_agree_23 rfl (lv_at hl 2 rfl) ?_
    refine lv_i2l hx hb d_Mo_agree_24 rfl ?_
    refine lv_lconst (v := 0) hx hb d_Mo_agree_25 (by decide) ?_
    refine lv_ldc2 (own := R_Mo) (v := 99) hx hb hown (hG _ k_667) d_Mo_agree_26 ?_
    refine rd_calli (va_runS (As := [.long (w0.toInt64), .long 0, .long 99]) (rest := []) ⟨hx, hb, hml, hown, hts⟩ (c_Mo_in l dC dI (mtys cA) (mw ad cA 0 yr nf no nt bd nb fl AI AN AB AL) (w0.toInt64) 0 99) (cwS 3 hts (gd_S k_629 k_630 k_17 k_631) rfl rfl rfl (by decide +kernel) ⟨Nat.le_of_ble_eq_true rfl, Nat.le_of_ble_eq_true rfl⟩) (rd_preS hK hN hP) rfl rfl hl.1 rfl (lv_room (Nat.le_of_ble_eq_true rfl)) d_Mo_agree_29 ⟨Nat.zero_le _, Nat.zero_le _⟩) (fun r_3 hr_3 => ?_)
    subst hr_3
    refine lb_if_ne (tgt := 38) hx hb d_Mo_agree_32 (by decide) (fun c_4 => ?_) (fun c_4 => ?_)
    · obtain ⟨wq, hwq, rfl⟩ := in99 c_4
      have ewq : (nI wq).toNatClampNeg = wq := nI_clamp (by omega)
      refine lv_aload_n hx hb d_Mo_agree_38 rfl (lv_at hl 0 rfl) ?_
      refine va_get (D := (dC, dI)) (ci := 7) (v := .ref (ad 16)) (C := R_Mo) (T := F_Mo) (N := 31) hx hb hG iG_Mo hown hK hP 0 rfl rfl 20 (by decide) (hG _ k_543) (fun _ h9 => h9) rfl d_Mo_agree_39 ?_
      refine lv_iload_n hx hb d_Mo_agree_42 rfl (lv_at hl 1 rfl) ?_
      refine rb_zald (n := 100) (j := k) (g := AB 16) hx hb hK hP 16 15 rfl rfl (by omega) (by decide) d_Mo_agree_43 ?_
      refine lb_if_ne (tgt := 61) hx hb d_Mo_agree_44 (by decide) (fun c_5 => ?_) (fun c_5 => ?_)
      · refine lv_bipush (v := (-3)) hx hb d_Mo_agree_61 (by decide) ?_
        exact W.iret (v := (-3)) hx hb hr (fun t ht hW => ⟨⟨_, (0, yr, nf, no, nt, bd, nb, fl, AI, AN, AB, AL), rfl, (by simp [m_agree, ixn, bI, ek, ewq, c_2, c_2n, c_4, c_5] <;> (repeat' apply And.intro) <;> rfl), by rw [ht]; exact hP, va_K.moved hW.alike hK, hD⟩, hS.F ht⟩) hS.2.2 d_Mo_agree_63
      · refine lv_aload_n hx hb d_Mo_agree_47 rfl (lv_at hl 0 rfl) ?_
        refine va_get (D := (dC, dI)) (ci := 7) (v := .ref (ad 17)) (C := R_Mo) (T := F_Mo) (N := 31) hx hb hG iG_Mo hown hK hP 0 rfl rfl 21 (by decide) (hG _ k_544) (fun _ h9 => h9) rfl d_Mo_agree_48 ?_
        refine lv_bipush (v := 100) hx hb d_Mo_agree_51 (by decide) ?_
        refine lv_iload_n hx hb d_Mo_agree_53 rfl (lv_at hl 1 rfl) ?_
        refine lv_imul hx hb d_Mo_agree_54 ?_
        refine lv_topI (y := nI (100 * k)) (pk_mul 100 k) ?_
        refine lv_iload_n hx hb d_Mo_agree_55 rfl (lv_at hl 2 rfl) ?_
        refine lv_iadd hx hb d_Mo_agree_56 ?_
        refine lv_topI (y := nI ((100 * k) + wq)) (nI_add (100 * k) wq) ?_
        refine rb_zald (n := 10000) (j := ((100 * k) + wq)) (g := AB 17) hx hb hK hP 17 16 rfl rfl (by omega) (by decide) d_Mo_agree_57 ?_
        refine lb_if_eq (tgt := 64) hx hb d_Mo_agree_58 (by decide) (fun c_6 => ?_) (fun c_6 => ?_)
        · have hfk := hft k hk
          refine lv_iconst (v := 1) hx hb d_Mo_agree_64 (by decide) ?_
          refine lv_istore_n (lv' := [(3, .int 1), (0, .ref (ad 0)), (1, .int (nI k)), (2, .int (nI wq))]) hx hb d_Mo_agree_65 rfl hl (by decide) rfl (fun ls hl => ?_)
          refine lv_iconst (v := 0) hx hb d_Mo_agree_66 (by decide) ?_
          refine lv_istore (lv' := [(4, .int 0), (3, .int 1), (0, .ref (ad 0)), (1, .int (nI k)), (2, .int (nI wq))]) hx hb d_Mo_agree_67 hl (by decide) rfl (fun ls hl => ?_)
          refine lp_Mo_agree hx hb hml hown hts hK hP k (by omega) wq (fun ls hl => ?_) 101 0 (by omega) (by omega) ls (lv_sub hl [0, 1, 2, 3, 4] rfl)
          refine lv_iload_n hx hb d_Mo_agree_105 rfl (lv_at hl 1 rfl) ?_
          refine lv_iconst (v := 1) hx hb d_Mo_agree_106 (by decide) ?_
          refine lv_icmp_le (tgt := 135) hx hb d_Mo_agree_107 (by decide) (fun c_7 => ?_) (fun c_7 => ?_)
          · rw [← Int32.not_lt] at c_7
            refine lv_iconst (v := 0) hx hb d_Mo_agree_135 (by decide) ?_
            refine lv_istore (lv' := [(4, .int 0), (3, .int (1 + m_cnt AB k)), (0, .ref (ad 0)), (1, .int (nI k)), (2, .int (nI wq))]) hx hb d_Mo_agree_136 hl (by decide) rfl (fun ls hl => ?_)
            refine lv_iload hx hb d_Mo_agree_138 (lv_at hl 0 rfl) ?_
            refine lv_if_eq (tgt := 191) hx hb d_Mo_agree_140 (by decide) (fun c_8 => ?_) (fun c_8 => ?_)
            · refine lv_aload_n hx hb d_Mo_agree_191 rfl (lv_at hl 2 rfl) ?_
              refine va_get (D := (dC, dI)) (ci := 7) (v := .ref (ad 17)) (C := R_Mo) (T := F_Mo) (N := 31) hx hb hG iG_Mo hown hK hP 0 rfl rfl 21 (by decide) (hG _ k_544) (fun _ h9 => h9) rfl d_Mo_agree_192 ?_
              refine lv_bipush (v := 100) hx hb d_Mo_agree_195 (by decide) ?_
              refine lv_iload_n hx hb d_Mo_agree_197 rfl (lv_at hl 3 rfl) ?_
              refine lv_imul hx hb d_Mo_agree_198 ?_
              refine lv_topI (y := nI (100 * k)) (pk_mul 100 k) ?_
              refine lv_iload_n hx hb d_Mo_agree_199 rfl (lv_at hl 4 rfl) ?_
              refine lv_iadd hx hb d_Mo_agree_200 ?_
              refine lv_topI (y := nI ((100 * k) + wq)) (nI_add (100 * k) wq) ?_
              refine lv_iconst (v := 1) hx hb d_Mo_agree_201 (by decide) ?_
              refine rb_zast (n := 10000) (j := ((100 * k) + wq)) (g := AB 17) (b := true) hx hb hK hP hD hS 17 16 rfl rfl (by omega) (by decide) d_Mo_agree_202 (fun H locs hP hD hS => ?_)
              have hP : va_P (dC, dI) classes (mw ad cA 0 yr nf no nt bd nb fl AI AN (va_up AB 17 (va_up (AB 17) ((100 * k) + wq) true)) AL) H := hP
              have hD : va_D A (mw ad cA 0 yr nf no nt bd nb fl AI AN (va_up AB 17 (va_up (AB 17) ((100 * k) + wq) true)) AL) := hD
              refine lv_iload hx hb d_Mo_agree_203 (lv_at hl 0 rfl) ?_
              refine lv_if_ne (tgt := 210) hx hb d_Mo_agree_205 (by decide) (fun c_9 => ?_) (fun c_9 => ?_)
              · exact absurd c_9 (by decide)
              · refine lv_iconst (v := 1) hx hb d_Mo_agree_208 (by decide) ?_
                exact W.iret (v := 1) hx hb hr (fun t ht hW => ⟨⟨_, (0, yr, nf, no, nt, bd, nb, fl, AI, AN, va_up AB 17 (va_up (AB 17) ((100 * k) + wq) true), AL), rfl, (by simp [m_agree, ixn, bI, ek, ewq, c_2, c_2n, c_4, c_5, c_6, c_7] <;> (repeat' apply And.intro) <;> rfl), by rw [ht]; exact hP, va_K.moved hW.alike hK, hD⟩, hS.F ht⟩) hS.2.2 d_Mo_agree_209
            · exact absurd c_8 (by decide)
          · rw [Int32.not_le] at c_7
            refine lv_aload_n hx hb d_Mo_agree_110 rfl (lv_at hl 2 rfl) ?_
            refine lv_aload_n hx hb d_Mo_agree_111 rfl (lv_at hl 2 rfl) ?_
            refine va_get (D := (dC, dI)) (ci := 7) (v := .ref (ad 13)) (C := R_Mo) (T := F_Mo) (N := 31) hx hb hG iG_Mo hown hK hP 0 rfl rfl 17 (by decide) (hG _ k_540) (fun _ h9 => h9) rfl d_Mo_agree_112 ?_
            refine lv_iload_n hx hb d_Mo_agree_115 rfl (lv_at hl 3 rfl) ?_
            refine rn_iald (n := 100) (j := k) (g := AN 13) hx hb hK hP 13 12 rfl rfl (by omega) (by decide) d_Mo_agree_116 ?_
            refine rd_calll (va_runV (As := [.int (nI ((AN 13 k)))]) (rest := []) ⟨hx, hb, hml, hown, hts⟩ (c_Mo_free l dC dI ad cA 0 yr nf no nt bd nb fl AI AN AB AL ((AN 13 k)) hno (by omega)) (cwV 1 hts (gd_V k_659 k_661 k_10 k_17 k_662) rfl rfl rfl (by decide +kernel) ⟨Nat.le_of_ble_eq_true rfl, Nat.le_of_ble_eq_true rfl⟩) (rd_preV 0 hK hN hP rfl rfl) rfl rfl hl.1 rfl (lv_room (Nat.le_of_ble_eq_true rfl)) d_Mo_agree_117 ⟨Nat.zero_le _, Nat.zero_le _⟩) (fun r_10 hr_10 => ?_)
            subst hr_10
            refine lv_aload_n hx hb d_Mo_agree_120 rfl (lv_at hl 2 rfl) ?_
            refine va_get (D := (dC, dI)) (ci := 7) (v := .ref (ad 15)) (C := R_Mo) (T := F_Mo) (N := 31) hx hb hG iG_Mo hown hK hP 0 rfl rfl 19 (by decide) (hG _ k_542) (fun _ h9 => h9) rfl d_Mo_agree_121 ?_
            refine lv_iload_n hx hb d_Mo_agree_124 rfl (lv_at hl 3 rfl) ?_
            refine ra_iald (n := 100) (j := k) (f := AI 15) hx hb hK hP 15 14 rfl rfl (by omega) (by decide) d_Mo_agree_125 ?_
            refine lv_i2l hx hb d_Mo_agree_126 rfl ?_
            refine lc_lt (tgt := 135) hx hb d_Mo_agree_127 d_Mo_agree_128 (by decide) (fun c_11 => ?_) (fun c_11 => ?_)
            · rw [← Int64.not_le] at c_11
              refine lv_iconst (v := 0) hx hb d_Mo_agree_135 (by decide) ?_
              refine lv_istore (lv' := [(4, .int 0), (3, .int (1 + m_cnt AB k)), (0, .ref (ad 0)), (1, .int (nI k)), (2, .int (nI wq))]) hx hb d_Mo_agree_136 hl (by decide) rfl (fun ls hl => ?_)
              refine lv_iload hx hb d_Mo_agree_138 (lv_at hl 0 rfl) ?_
              refine lv_if_eq (tgt := 191) hx hb d_Mo_agree_140 (by decide) (fun c_12 => ?_) (fun c_12 => ?_)
              · refine lv_aload_n hx hb d_Mo_agree_191 rfl (lv_at hl 2 rfl) ?_
                refine va_get (D := (dC, dI)) (ci := 7) (v := .ref (ad 17)) (C := R_Mo) (T := F_Mo) (N := 31) hx hb hG iG_Mo hown hK hP 0 rfl rfl 21 (by decide) (hG _ k_544) (fun _ h9 => h9) rfl d_Mo_agree_192 ?_
                refine lv_bipush (v := 100) hx hb d_Mo_agree_195 (by decide) ?_
                refine lv_iload_n hx hb d_Mo_agree_197 rfl (lv_at hl 3 rfl) ?_
                refine lv_imul hx hb d_Mo_agree_198 ?_
                refine lv_topI (y := nI (100 * k)) (pk_mul 100 k) ?_
                refine lv_iload_n hx hb d_Mo_agree_199 rfl (lv_at hl 4 rfl) ?_
                refine lv_iadd hx hb d_Mo_agree_200 ?_
                refine lv_topI (y := nI ((100 * k) + wq)) (nI_add (100 * k) wq) ?_
                refine lv_iconst (v := 1) hx hb d_Mo_agree_201 (by decide) ?_
                refine rb_zast (n := 10000) (j := ((100 * k) + wq)) (g := AB 17) (b := true) hx hb hK hP hD hS 17 16 rfl rfl (by omega) (by decide) d_Mo_agree_202 (fun H locs hP hD hS => ?_)
                have hP : va_P (dC, dI) classes (mw ad cA 0 yr nf no nt bd nb fl AI AN (va_up AB 17 (va_up (AB 17) ((100 * k) + wq) true)) AL) H := hP
                have hD : va_D A (mw ad cA 0 yr nf no nt bd nb fl AI AN (va_up AB 17 (va_up (AB 17) ((100 * k) + wq) true)) AL) := hD
                refine lv_iload hx hb d_Mo_agree_203 (lv_at hl 0 rfl) ?_
                refine lv_if_ne (tgt := 210) hx hb d_Mo_agree_205 (by decide) (fun c_13 => ?_) (fun c_13 => ?_)
                · exact absurd c_13 (by decide)
                · refine lv_iconst (v := 1) hx hb d_Mo_agree_208 (by decide) ?_
                  exact W.iret (v := 1) hx hb hr (fun t ht hW => ⟨⟨_, (0, yr, nf, no, nt, bd, nb, fl, AI, AN, va_up AB 17 (va_up (AB 17) ((100 * k) + wq) true), AL), rfl, (by simp [m_agree, ixn, bI, ek, ewq, c_2, c_2n, c_4, c_5, c_6, c_7, c_11] <;> (repeat' apply And.intro) <;> rfl), by rw [ht]; exact hP, va_K.moved hW.alike hK, hD⟩, hS.F ht⟩) hS.2.2 d_Mo_agree_209
              · exact absurd c_12 (by decide)
            · rw [Int64.not_lt] at c_11
              refine lv_iconst (v := 1) hx hb d_Mo_agree_131 (by decide) ?_
              refine lv_goto (tgt := 136) hx hb d_Mo_agree_132 (by decide) ?_
              refine lv_istore (lv' := [(4, .int 1), (3, .int (1 + m_cnt AB k)), (0, .ref (ad 0)), (1, .int (nI k)), (2, .int (nI wq))]) hx hb d_Mo_agree_136 hl (by decide) rfl (fun ls hl => ?_)
              refine lv_iload hx hb d_Mo_agree_138 (lv_at hl 0 rfl) ?_
              refine lv_if_eq (tgt := 191) hx hb d_Mo_agree_140 (by decide) (fun c_14 => ?_) (fun c_14 => ?_)
              · exact absurd c_14 (by decide)
              · refine lv_aload_n hx hb d_Mo_agree_143 rfl (lv_at hl 2 rfl) ?_
                refine lv_aload_n hx hb d_Mo_agree_144 rfl (lv_at hl 2 rfl) ?_
                refine va_get (D := (dC, dI)) (ci := 7) (v := .ref (ad 13)) (C := R_Mo) (T := F_Mo) (N := 31) hx hb hG iG_Mo hown hK hP 0 rfl rfl 17 (by decide) (hG _ k_540) (fun _ h9 => h9) rfl d_Mo_agree_145 ?_
                refine lv_iload_n hx hb d_Mo_agree_148 rfl (lv_at hl 3 rfl) ?_
                refine rn_iald (n := 100) (j := k) (g := AN 13) hx hb hK hP 13 12 rfl rfl (by omega) (by decide) d_Mo_agree_149 ?_
                refine lv_aload_n hx hb d_Mo_agree_150 rfl (lv_at hl 2 rfl) ?_
                refine va_get (D := (dC, dI)) (ci := 7) (v := .ref (ad 15)) (C := R_Mo) (T := F_Mo) (N := 31) hx hb hG iG_Mo hown hK hP 0 rfl rfl 19 (by decide) (hG _ k_542) (fun _ h9 => h9) rfl d_Mo_agree_151 ?_
                refine lv_iload_n hx hb d_Mo_agree_154 rfl (lv_at hl 3 rfl) ?_
                refine ra_iald (n := 100) (j := k) (f := AI 15) hx hb hK hP 15 14 rfl rfl (by omega) (by decide) d_Mo_agree_155 ?_
                refine lv_ineg hx hb d_Mo_agree_156 ?_
                refine lv_i2l hx hb d_Mo_agree_157 rfl ?_
                refine lv_lconst (v := 0) hx hb d_Mo_agree_158 (by decide) ?_
                refine lv_lconst (v := 0) hx hb d_Mo_agree_159 (by decide) ?_
                refine rd_calli (va_runV (As := [.int (nI ((AN 13 k))), .long ((-(AI 15 k)).toInt64), .long 0, .long 0]) (rest := []) ⟨hx, hb, hml, hown, hts⟩ (c_Mo_fits l dC dI ad cA 0 yr nf no nt bd nb fl AI AN AB AL ((AN 13 k)) ((-(AI 15 k)).toInt64) 0 0 hno (by omega)) (cwV 4 hts (gd_V k_641 k_643 k_8 k_17 k_644) rfl rfl rfl (by decide +kernel) ⟨Nat.le_of_ble_eq_true rfl, Nat.le_of_ble_eq_true rfl⟩) (rd_preV 0 hK hN hP rfl rfl) rfl rfl hl.1 rfl (lv_room (Nat.le_of_ble_eq_true rfl)) d_Mo_agree_160 ⟨Nat.zero_le _, Nat.zero_le _⟩) (fun r_15 hr_15 => ?_)
                subst hr_15
                refine lb_if_eq (tgt := 188) hx hb d_Mo_agree_163 (by decide) (fun c_16 => ?_) (fun c_16 => ?_)
                · refine lv_bipush (v := (-4)) hx hb d_Mo_agree_188 (by decide) ?_
                  exact W.iret (v := (-4)) hx hb hr (fun t ht hW => ⟨⟨_, (0, yr, nf, no, nt, bd, nb, fl, AI, AN, AB, AL), rfl, (by simp [m_agree, ixn, bI, ek, ewq, c_2, c_2n, c_4, c_5, c_6, c_7, c_11, c_16] <;> (repeat' apply And.intro) <;> rfl), by rw [ht]; exact hP, va_K.moved hW.alike hK, hD⟩, hS.F ht⟩) hS.2.2 d_Mo_agree_190
                · refine lv_aload_n hx hb d_Mo_agree_166 rfl (lv_at hl 2 rfl) ?_
                  refine lv_aload_n hx hb d_Mo_agree_167 rfl (lv_at hl 2 rfl) ?_
                  refine va_get (D := (dC, dI)) (ci := 7) (v := .ref (ad 14)) (C := R_Mo) (T := F_Mo) (N := 31) hx hb hG iG_Mo hown hK hP 0 rfl rfl 18 (by decide) (hG _ k_541) (fun _ h9 => h9) rfl d_Mo_agree_168 ?_
                  refine lv_iload_n hx hb d_Mo_agree_171 rfl (lv_at hl 3 rfl) ?_
                  refine rn_iald (n := 100) (j := k) (g := AN 14) hx hb hK hP 14 13 rfl rfl (by omega) (by decide) d_Mo_agree_172 ?_
                  refine lv_aload_n hx hb d_Mo_agree_173 rfl (lv_at hl 2 rfl) ?_
                  refine va_get (D := (dC, dI)) (ci := 7) (v := .ref (ad 15)) (C := R_Mo) (T := F_Mo) (N := 31) hx hb hG iG_Mo hown hK hP 0 rfl rfl 19 (by decide) (hG _ k_542) (fun _ h9 => h9) rfl d_Mo_agree_174 ?_
                  refine lv_iload_n hx hb d_Mo_agree_177 rfl (lv_at hl 3 rfl) ?_
                  refine ra_iald (n := 100) (j := k) (f := AI 15) hx hb hK hP 15 14 rfl rfl (by omega) (by decide) d_Mo_agree_178 ?_
                  refine lv_i2l hx hb d_Mo_agree_179 rfl ?_
                  refine lv_lconst (v := 0) hx hb d_Mo_agree_180 (by decide) ?_
                  refine lv_lconst (v := 0) hx hb d_Mo_agree_181 (by decide) ?_
                  refine rd_calli (va_runV (As := [.int (nI ((AN 14 k))), .long ((AI 15 k).toInt64), .long 0, .long 0]) (rest := []) ⟨hx, hb, hml, hown, hts⟩ (c_Mo_fits l dC dI ad cA 0 yr nf no nt bd nb fl AI AN AB AL ((AN 14 k)) ((AI 15 k).toInt64) 0 0 hno (by omega)) (cwV 4 hts (gd_V k_641 k_643 k_8 k_17 k_644) rfl rfl rfl (by decide +kernel) ⟨Nat.le_of_ble_eq_true rfl, Nat.le_of_ble_eq_true rfl⟩) (rd_preV 0 hK hN hP rfl rfl) rfl rfl hl.1 rfl (lv_room (Nat.le_of_ble_eq_true rfl)) d_Mo_agree_182 ⟨Nat.zero_le _, Nat.zero_le _⟩) (fun r_17 hr_17 => ?_)
                  subst hr_17
                  refine lb_if_ne (tgt := 191) hx hb d_Mo_agree_185 (by decide) (fun c_18 => ?_) (fun c_18 => ?_)
                  · refine lv_aload_n hx hb d_Mo_agree_191 rfl (lv_at hl 2 rfl) ?_
                    refine va_get (D := (dC, dI)) (ci := 7) (v := .ref (ad 17)) (C := R_Mo) (T := F_Mo) (N := 31) hx hb hG iG_Mo hown hK hP 0 rfl rfl 21 (by decide) (hG _ k_544) (fun _ h9 => h9) rfl d_Mo_agree_192 ?_
                    refine lv_bipush (v := 100) hx hb d_Mo_agree_195 (by decide) ?_
                    refine lv_iload_n hx hb d_Mo_agree_197 rfl (lv_at hl 3 rfl) ?_
                    refine lv_imul hx hb d_Mo_agree_198 ?_
                    refine lv_topI (y := nI (100 * k)) (pk_mul 100 k) ?_
                    refine lv_iload_n hx hb d_Mo_agree_199 rfl (lv_at hl 4 rfl) ?_
                    refine lv_iadd hx hb d_Mo_agree_200 ?_
                    refine lv_topI (y := nI ((100 * k) + wq)) (nI_add (100 * k) wq) ?_
                    refine lv_iconst (v := 1) hx hb d_Mo_agree_201 (by decide) ?_
                    refine rb_zast (n := 10000) (j := ((100 * k) + wq)) (g := AB 17) (b := true) hx hb hK hP hD hS 17 16 rfl rfl (by omega) (by decide) d_Mo_agree_202 (fun H locs hP hD hS => ?_)
                    have hP : va_P (dC, dI) classes (mw ad cA 0 yr nf no nt bd nb fl AI AN (va_up AB 17 (va_up (AB 17) ((100 * k) + wq) true)) AL) H := hP
                    have hD : va_D A (mw ad cA 0 yr nf no nt bd nb fl AI AN (va_up AB 17 (va_up (AB 17) ((100 * k) + wq) true)) AL) := hD
                    refine lv_iload hx hb d_Mo_agree_203 (lv_at hl 0 rfl) ?_
                    refine lv_if_ne (tgt := 210) hx hb d_Mo_agree_205 (by decide) (fun c_19 => ?_) (fun c_19 => ?_)
                    · refine lv_aload_n hx hb d_Mo_agree_210 rfl (lv_at hl 2 rfl) ?_
                      refine va_get (D := (dC, dI)) (ci := 7) (v := .ref (ad 16)) (C := R_Mo) (T := F_Mo) (N := 31) hx hb hG iG_Mo hown hK hP 0 rfl rfl 20 (by decide) (hG _ k_543) (fun _ h9 => h9) rfl d_Mo_agree_211 ?_
                      refine lv_iload_n hx hb d_Mo_agree_214 rfl (lv_at hl 3 rfl) ?_
                      refine lv_iconst (v := 1) hx hb d_Mo_agree_215 (by decide) ?_
                      refine rb_zast (n := 100) (j := k) (g := AB 16) (b := true) hx hb hK hP hD hS 16 15 rfl rfl (by omega) (by decide) d_Mo_agree_216 (fun H locs hP hD hS => ?_)
                      have hP : va_P (dC, dI) classes (mw ad cA 0 yr nf no nt bd nb fl AI AN (va_up (va_up AB 17 (va_up (AB 17) ((100 * k) + wq) true)) 16 (va_up (AB 16) k true)) AL) H := hP
                      have hD : va_D A (mw ad cA 0 yr nf no nt bd nb fl AI AN (va_up (va_up AB 17 (va_up (AB 17) ((100 * k) + wq) true)) 16 (va_up (AB 16) k true)) AL) := hD
                      refine lv_aload_n hx hb d_Mo_agree_217 rfl (lv_at hl 2 rfl) ?_
                      refine va_get (D := (dC, dI)) (ci := 7) (v := .ref (ad 2)) (C := R_Mo) (T := F_Mo) (N := 31) hx hb hG iG_Mo hown hK hP 0 rfl rfl 4 (by decide) (hG _ k_527) (fun _ h9 => h9) rfl d_Mo_agree_218 ?_
                      refine lv_aload_n hx hb d_Mo_agree_221 rfl (lv_at hl 2 rfl) ?_
                      refine va_get (D := (dC, dI)) (ci := 7) (v := .ref (ad 13)) (C := R_Mo) (T := F_Mo) (N := 31) hx hb hG iG_Mo hown hK hP 0 rfl rfl 17 (by decide) (hG _ k_540) (fun _ h9 => h9) rfl d_Mo_agree_222 ?_
                      refine lv_iload_n hx hb d_Mo_agree_225 rfl (lv_at hl 3 rfl) ?_
                      refine rn_iald (n := 100) (j := k) (g := AN 13) hx hb hK hP 13 12 rfl rfl (by omega) (by decide) d_Mo_agree_226 ?_
                      refine lv_dup2_11 hx hb d_Mo_agree_227 rfl rfl ?_
                      refine ra_lald (n := 30) (j := ((AN 13 k))) (f := AL 2) hx hb hK hP 2 1 rfl rfl (by omega) (by decide) d_Mo_agree_228 ?_
                      refine lv_aload_n hx hb d_Mo_agree_229 rfl (lv_at hl 2 rfl) ?_
                      refine va_get (D := (dC, dI)) (ci := 7) (v := .ref (ad 15)) (C := R_Mo) (T := F_Mo) (N := 31) hx hb hG iG_Mo hown hK hP 0 rfl rfl 19 (by decide) (hG _ k_542) (fun _ h9 => h9) rfl d_Mo_agree_230 ?_
                      refine lv_iload_n hx hb d_Mo_agree_233 rfl (lv_at hl 3 rfl) ?_
                      refine ra_iald (n := 100) (j := k) (f := AI 15) hx hb hK hP 15 14 rfl rfl (by omega) (by decide) d_Mo_agree_234 ?_
                      refine lv_i2l hx hb d_Mo_agree_235 rfl ?_
                      refine lv_lsub hx hb d_Mo_agree_236 ?_
                      refine ra_last (n := 30) (j := ((AN 13 k))) (f := AL 2) hx hb hK hP hD hS 2 1 rfl rfl (by omega) (by decide) d_Mo_agree_237 (fun H locs hP hD hS => ?_)
                      have hP : va_P (dC, dI) classes (mw ad cA 0 yr nf no nt bd nb fl AI AN (va_up (va_up AB 17 (va_up (AB 17) ((100 * k) + wq) true)) 16 (va_up (AB 16) k true)) (va_up AL 2 (va_up (AL 2) ((AN 13 k)) ((AL 2 ((AN 13 k))) - ((AI 15 k).toInt64))))) H := hP
                      have hD : va_D A (mw ad cA 0 yr nf no nt bd nb fl AI AN (va_up (va_up AB 17 (va_up (AB 17) ((100 * k) + wq) true)) 16 (va_up (AB 16) k true)) (va_up AL 2 (va_up (AL 2) ((AN 13 k)) ((AL 2 ((AN 13 k))) - ((AI 15 k).toInt64))))) := hD
                      refine lv_aload_n hx hb d_Mo_agree_238 rfl (lv_at hl 2 rfl) ?_
                      refine va_get (D := (dC, dI)) (ci := 7) (v := .ref (ad 2)) (C := R_Mo) (T := F_Mo) (N := 31) hx hb hG iG_Mo hown hK hP 0 rfl rfl 4 (by decide) (hG _ k_527) (fun _ h9 => h9) rfl d_Mo_agree_239 ?_
                      refine lv_aload_n hx hb d_Mo_agree_242 rfl (lv_at hl 2 rfl) ?_
                      refine va_get (D := (dC, dI)) (ci := 7) (v := .ref (ad 14)) (C := R_Mo) (T := F_Mo) (N := 31) hx hb hG iG_Mo hown hK hP 0 rfl rfl 18 (by decide) (hG _ k_541) (fun _ h9 => h9) rfl d_Mo_agree_243 ?_
                      refine lv_iload_n hx hb d_Mo_agree_246 rfl (lv_at hl 3 rfl) ?_
                      refine rn_iald (n := 100) (j := k) (g := AN 14) hx hb hK hP 14 13 rfl rfl (by omega) (by decide) d_Mo_agree_247 ?_
                      refine lv_dup2_11 hx hb d_Mo_agree_248 rfl rfl ?_
                      refine ra_lald (n := 30) (j := ((AN 14 k))) (f := va_up (AL 2) ((AN 13 k)) ((AL 2 ((AN 13 k))) - ((AI 15 k).toInt64))) hx hb hK hP 2 1 rfl rfl (by omega) (by decide) d_Mo_agree_249 ?_
                      refine lv_aload_n hx hb d_Mo_agree_250 rfl (lv_at hl 2 rfl) ?_
                      refine va_get (D := (dC, dI)) (ci := 7) (v := .ref (ad 15)) (C := R_Mo) (T := F_Mo) (N := 31) hx hb hG iG_Mo hown hK hP 0 rfl rfl 19 (by decide) (hG _ k_542) (fun _ h9 => h9) rfl d_Mo_agree_251 ?_
                      refine lv_iload_n hx hb d_Mo_agree_254 rfl (lv_at hl 3 rfl) ?_
                      refine ra_iald (n := 100) (j := k) (f := AI 15) hx hb hK hP 15 14 rfl rfl (by omega) (by decide) d_Mo_agree_255 ?_
                      refine lv_i2l hx hb d_Mo_agree_256 rfl ?_
                      refine lv_ladd hx hb d_Mo_agree_257 ?_
                      refine ra_last (n := 30) (j := ((AN 14 k))) (f := va_up (AL 2) ((AN 13 k)) ((AL 2 ((AN 13 k))) - ((AI 15 k).toInt64))) hx hb hK hP hD hS 2 1 rfl rfl (by omega) (by decide) d_Mo_agree_258 (fun H locs hP hD hS => ?_)
                      have hP : va_P (dC, dI) classes (mw ad cA 0 yr nf no nt bd nb fl AI AN (va_up (va_up AB 17 (va_up (AB 17) ((100 * k) + wq) true)) 16 (va_up (AB 16) k true)) (va_up (va_up AL 2 (va_up (AL 2) ((AN 13 k)) ((AL 2 ((AN 13 k))) - ((AI 15 k).toInt64)))) 2 (va_up (va_up (AL 2) ((AN 13 k)) ((AL 2 ((AN 13 k))) - ((AI 15 k).toInt64))) ((AN 14 k)) (((va_up (AL 2) ((AN 13 k)) ((AL 2 ((AN 13 k))) - ((AI 15 k).toInt64))) ((AN 14 k))) + ((AI 15 k).toInt64))))) H := hP
                      have hD : va_D A (mw ad cA 0 yr nf no nt bd nb fl AI AN (va_up (va_up AB 17 (va_up (AB 17) ((100 * k) + wq) true)) 16 (va_up (AB 16) k true)) (va_up (va_up AL 2 (va_up (AL 2) ((AN 13 k)) ((AL 2 ((AN 13 k))) - ((AI 15 k).toInt64)))) 2 (va_up (va_up (AL 2) ((AN 13 k)) ((AL 2 ((AN 13 k))) - ((AI 15 k).toInt64))) ((AN 14 k)) (((va_up (AL 2) ((AN 13 k)) ((AL 2 ((AN 13 k))) - ((AI 15 k).toInt64))) ((AN 14 k))) + ((AI 15 k).toInt64))))) := hD
                      refine lv_iconst (v := 2) hx hb d_Mo_agree_259 (by decide) ?_
                      exact W.iret (v := 2) hx hb hr (fun t ht hW => ⟨⟨_, (0, yr, nf, no, nt, bd, nb, fl, AI, AN, va_up (va_up AB 17 (va_up (AB 17) ((100 * k) + wq) true)) 16 (va_up (AB 16) k true), va_up (va_up AL 2 (va_up (AL 2) ((AN 13 k)) ((AL 2 ((AN 13 k))) - ((AI 15 k).toInt64)))) 2 (va_up (va_up (AL 2) ((AN 13 k)) ((AL 2 ((AN 13 k))) - ((AI 15 k).toInt64))) ((AN 14 k)) (((va_up (AL 2) ((AN 13 k)) ((AL 2 ((AN 13 k))) - ((AI 15 k).toInt64))) ((AN 14 k))) + ((AI 15 k).toInt64)))), rfl, (by simp [m_agree, ixn, bI, ek, ewq, c_2, c_2n, c_4, c_5, c_6, c_7, c_11, c_16, c_18] <;> (repeat' apply And.intro) <;> rfl), by rw [ht]; exact hP, va_K.moved hW.alike hK, hD⟩, hS.F ht⟩) hS.2.2 d_Mo_agree_260
                    · exact absurd c_19 (by decide)
                  · refine lv_bipush (v := (-4)) hx hb d_Mo_agree_188 (by decide) ?_
                    exact W.iret (v := (-4)) hx hb hr (fun t ht hW => ⟨⟨_, (0, yr, nf, no, nt, bd, nb, fl, AI, AN, AB, AL), rfl, (by simp [m_agree, ixn, bI, ek, ewq, c_2, c_2n, c_4, c_5, c_6, c_7, c_11, c_16, c_18] <;> (repeat' apply And.intro) <;> rfl), by rw [ht]; exact hP, va_K.moved hW.alike hK, hD⟩, hS.F ht⟩) hS.2.2 d_Mo_agree_190
        · refine lv_bipush (v := (-3)) hx hb d_Mo_agree_61 (by decide) ?_
          exact W.iret (v := (-3)) hx hb hr (fun t ht hW => ⟨⟨_, (0, yr, nf, no, nt, bd, nb, fl, AI, AN, AB, AL), rfl, (by simp [m_agree, ixn, bI, ek, ewq, c_2, c_2n, c_4, c_5, c_6] <;> (repeat' apply And.intro) <;> rfl), by rw [ht]; exact hP, va_K.moved hW.alike hK, hD⟩, hS.F ht⟩) hS.2.2 d_Mo_agree_63
    · refine lv_bipush (v := (-2)) hx hb d_Mo_agree_35 (by decide) ?_
      exact W.iret (v := (-2)) hx hb hr (fun t ht hW => ⟨⟨_, (0, yr, nf, no, nt, bd, nb, fl, AI, AN, AB, AL), rfl, (by simp [m_agree, ixn, bI, ek, c_2, c_2n, c_4] <;> (repeat' apply And.intro) <;> rfl), by rw [ht]; exact hP, va_K.moved hW.alike hK, hD⟩, hS.F ht⟩) hS.2.2 d_Mo_agree_37
  · have c_2n : inN i0 nt = false := c_2
    refine lv_iconst (v := (-1)) hx hb d_Mo_agree_21 (by decide) ?_
    exact W.iret (v := (-1)) hx hb hr (fun t ht hW => ⟨⟨_, (0, yr, nf, no, nt, bd, nb, fl, AI, AN, AB, AL), rfl, (by simp [m_agree, ixn, bI, c_2, c_2n] <;> (repeat' apply And.intro) <;> rfl), by rw [ht]; exact hP, va_K.moved hW.alike hK, hD⟩, hS.F ht⟩) hS.2.2 d_Mo_agree_22
end
section
def clL (AI : Nat → Nat → Int32) (AN : Nat → Nat → Nat) (AL : Nat → Nat → Int64) (no i : Nat) : Nat → Nat → Int64 := va_up (va_up AL 2 (fun j => if j < i then m_carried (AI 1 j) (m_free AI AN AL no j) + m_enc AI AN no (nI j) else AL 2 j)) 3 (fun j => if j < i then 0 else AL 3 j)
theorem clL_0 (AI : Nat → Nat → Int32) (AN : Nat → Nat → Nat) (AL : Nat → Nat → Int64) (no : Nat) : clL AI AN AL no 0 = AL := by
  funext k j
  simp only [clL, va_up, Nat.not_lt_zero, if_false]
  split
  · simp [*]
  · split
    · simp [*]
    · rfl
theorem clL_free (AI : Nat → Nat → Int32) (AN : Nat → Nat → Nat) (AL : Nat → Nat → Int64) (no i : Nat) : m_free AI AN (clL AI AN AL no i) no i = m_free AI AN AL no i := by
  simp [m_free, clL, va_up]
theorem clL_s (AI : Nat → Nat → Int32) (AN : Nat → Nat → Nat) (AL : Nat → Nat → Int64) (no i : Nat) : clL AI AN AL no (i + 1) = va_up (va_up (clL AI AN AL no i) 2 (va_up (clL AI AN AL no i 2) i (m_carried (AI 1 i) (m_free AI AN AL no i) + m_enc AI AN no (nI i)))) 3 (va_up (clL AI AN AL no i 3) i 0) := by
  funext k j
  simp only [clL, va_up]
  by_cases h3 : k = 3
  · subst h3
    by_cases hj : j = i
    · subst hj; simp [va_up]
    · have e : (j < i + 1) ↔ (j < i) := by omega
      simp [hj, e, va_up]
  · by_cases h2 : k = 2
    · subst h2
      by_cases hj : j = i
      · subst hj; simp [va_up]
      · have e : (j < i + 1) ↔ (j < i) := by omega
        simp [hj, e, va_up]
    · simp [h2, h3]

theorem d_Mo_close_0 : decode b_Mo_close 0 = .ok (.aload_n 0, 1) := by decide +kernel
theorem d_Mo_close_1 : decode b_Mo_close 1 = .ok (.iconst 0, 1) := by decide +kernel
theorem d_Mo_close_2 : decode b_Mo_close 2 = .ok (.putfield 91, 3) := by decide +kernel
theorem d_Mo_close_5 : decode b_Mo_close 5 = .ok (.aload_n 0, 1) := by decide +kernel
theorem d_Mo_close_6 : decode b_Mo_close 6 = .ok (.getfield 88, 3) := by decide +kernel
theorem d_Mo_close_9 : decode b_Mo_close 9 = .ok (.sipush 9999, 3) := by decide +kernel
theorem d_Mo_close_12 : decode b_Mo_close 12 = .ok (.if_icmp .ne 6, 3) := by decide +kernel
theorem d_Mo_close_15 : decode b_Mo_close 15 = .ok (.bipush (-3), 2) := by decide +kernel
theorem d_Mo_close_17 : decode b_Mo_close 17 = .ok (.ireturn, 1) := by decide +kernel
theorem d_Mo_close_18 : decode b_Mo_close 18 = .ok (.iconst 0, 1) := by decide +kernel
theorem d_Mo_close_19 : decode b_Mo_close 19 = .ok (.istore_n 1, 1) := by decide +kernel
theorem d_Mo_close_20 : decode b_Mo_close 20 = .ok (.iload_n 1, 1) := by decide +kernel
theorem d_Mo_close_21 : decode b_Mo_close 21 = .ok (.aload_n 0, 1) := by decide +kernel
theorem d_Mo_close_22 : decode b_Mo_close 22 = .ok (.getfield 94, 3) := by decide +kernel
theorem d_Mo_close_25 : decode b_Mo_close 25 = .ok (.if_icmp .ge 76, 3) := by decide +kernel
theorem d_Mo_close_28 : decode b_Mo_close 28 = .ok (.aload_n 0, 1) := by decide +kernel
theorem d_Mo_close_29 : decode b_Mo_close 29 = .ok (.iload_n 1, 1) := by decide +kernel
theorem d_Mo_close_30 : decode b_Mo_close 30 = .ok (.invokevirtual 130, 3) := by decide +kernel
theorem d_Mo_close_33 : decode b_Mo_close 33 = .ok (.lstore_n 2, 1) := by decide +kernel
theorem d_Mo_close_34 : decode b_Mo_close 34 = .ok (.lload_n 2, 1) := by decide +kernel
theorem d_Mo_close_35 : decode b_Mo_close 35 = .ok (.lconst 0, 1) := by decide +kernel
theorem d_Mo_close_36 : decode b_Mo_close 36 = .ok (.lcmp, 1) := by decide +kernel
theorem d_Mo_close_37 : decode b_Mo_close 37 = .ok (.ifCond .lt 12, 3) := by decide +kernel
theorem d_Mo_close_40 : decode b_Mo_close 40 = .ok (.aload_n 0, 1) := by decide +kernel
theorem d_Mo_close_41 : decode b_Mo_close 41 = .ok (.getfield 7, 3) := by decide +kernel
theorem d_Mo_close_44 : decode b_Mo_close 44 = .ok (.iload_n 1, 1) := by decide +kernel
theorem d_Mo_close_45 : decode b_Mo_close 45 = .ok (.iaload, 1) := by decide +kernel
theorem d_Mo_close_46 : decode b_Mo_close 46 = .ok (.ifCond .ne 7, 3) := by decide +kernel
theorem d_Mo_close_49 : decode b_Mo_close 49 = .ok (.lconst 0, 1) := by decide +kernel
theorem d_Mo_close_50 : decode b_Mo_close 50 = .ok (.goto 22, 3) := by decide +kernel
theorem d_Mo_close_53 : decode b_Mo_close 53 = .ok (.aload_n 0, 1) := by decide +kernel
theorem d_Mo_close_54 : decode b_Mo_close 54 = .ok (.getfield 7, 3) := by decide +kernel
theorem d_Mo_close_57 : decode b_Mo_close 57 = .ok (.iload_n 1, 1) := by decide +kernel
theorem d_Mo_close_58 : decode b_Mo_close 58 = .ok (.iaload, 1) := by decide +kernel
theorem d_Mo_close_59 : decode b_Mo_close 59 = .ok (.iconst 1, 1) := by decide +kernel
theorem d_Mo_close_60 : decode b_Mo_close 60 = .ok (.if_icmp .ne 7, 3) := by decide +kernel
theorem d_Mo_close_63 : decode b_Mo_close 63 = .ok (.lload_n 2, 1) := by decide +kernel
theorem d_Mo_close_64 : decode b_Mo_close 64 = .ok (.goto 8, 3) := by decide +kernel
theorem d_Mo_close_67 : decode b_Mo_close 67 = .ok (.lload_n 2, 1) := by decide +kernel
theorem d_Mo_close_68 : decode b_Mo_close 68 = .ok (.ldc2_w 116, 3) := by decide +kernel
theorem d_Mo_close_71 : decode b_Mo_close 71 = .ok (.ldiv, 1) := by decide +kernel
theorem d_Mo_close_72 : decode b_Mo_close 72 = .ok (.lstore 4, 2) := by decide +kernel
theorem d_Mo_close_74 : decode b_Mo_close 74 = .ok (.aload_n 0, 1) := by decide +kernel
theorem d_Mo_close_75 : decode b_Mo_close 75 = .ok (.getfield 13, 3) := by decide +kernel
theorem d_Mo_close_78 : decode b_Mo_close 78 = .ok (.iload_n 1, 1) := by decide +kernel
theorem d_Mo_close_79 : decode b_Mo_close 79 = .ok (.lload 4, 2) := by decide +kernel
theorem d_Mo_close_81 : decode b_Mo_close 81 = .ok (.aload_n 0, 1) := by decide +kernel
theorem d_Mo_close_82 : decode b_Mo_close 82 = .ok (.iload_n 1, 1) := by decide +kernel
theorem d_Mo_close_83 : decode b_Mo_close 83 = .ok (.invokevirtual 104, 3) := by decide +kernel
theorem d_Mo_close_86 : decode b_Mo_close 86 = .ok (.ladd, 1) := by decide +kernel
theorem d_Mo_close_87 : decode b_Mo_close 87 = .ok (.lastore, 1) := by decide +kernel
theorem d_Mo_close_88 : decode b_Mo_close 88 = .ok (.aload_n 0, 1) := by decide +kernel
theorem d_Mo_close_89 : decode b_Mo_close 89 = .ok (.getfield 17, 3) := by decide +kernel
theorem d_Mo_close_92 : decode b_Mo_close 92 = .ok (.iload_n 1, 1) := by decide +kernel
theorem d_Mo_close_93 : decode b_Mo_close 93 = .ok (.lconst 0, 1) := by decide +kernel
theorem d_Mo_close_94 : decode b_Mo_close 94 = .ok (.lastore, 1) := by decide +kernel
theorem d_Mo_close_95 : decode b_Mo_close 95 = .ok (.iinc 1 1, 3) := by decide +kernel
theorem d_Mo_close_98 : decode b_Mo_close 98 = .ok (.goto (-78), 3) := by decide +kernel
theorem d_Mo_close_101 : decode b_Mo_close 101 = .ok (.aload_n 0, 1) := by decide +kernel
theorem d_Mo_close_102 : decode b_Mo_close 102 = .ok (.dup, 1) := by decide +kernel
theorem d_Mo_close_103 : decode b_Mo_close 103 = .ok (.getfield 88, 3) := by decide +kernel
theorem d_Mo_close_106 : decode b_Mo_close 106 = .ok (.iconst 1, 1) := by decide +kernel
theorem d_Mo_close_107 : decode b_Mo_close 107 = .ok (.iadd, 1) := by decide +kernel
theorem d_Mo_close_108 : decode b_Mo_close 108 = .ok (.putfield 88, 3) := by decide +kernel
theorem d_Mo_close_111 : decode b_Mo_close 111 = .ok (.aload_n 0, 1) := by decide +kernel
theorem d_Mo_close_112 : decode b_Mo_close 112 = .ok (.getfield 88, 3) := by decide +kernel
theorem d_Mo_close_115 : decode b_Mo_close 115 = .ok (.ireturn, 1) := by decide +kernel
set_option maxHeartbeats 4000000 in
set_option maxRecDepth 100000 in
theorem lp_Mo_close {p : Program} {l : Launch} {e : Env} {s : State} {m : MethodId} {args : Array Value} {below : List Frame} {meth : Method} {c : Code} {Q : State → Prop} {A : Nat → Prop} {H0 : Heap} {dC : Nat → ClassId} {dI : Nat → Nat → Nat} {ad : Nat → Nat} {cA : Nat → ClassId} {th yr : Int32} {nf no nt : Nat} {bd : Int32} {nb : Nat} {fl : Int32} {AI : Nat → Nat → Int32} {AN : Nat → Nat → Nat} {AB : Nat → Nat → Bool} {AL : Nat → Nat → Int64} (hx : p.tables.exec = Jvm.exec) (hb : c.code = b_Mo_close) (hml : c.maxLocals = 6) (hown : s.vm.findClass R_Mo = some m.cls) (hts : ∀ w ∈ w_Mo_close, w.before args s = true) (hK : va_K (dC, dI) classes (mtys cA) s) (hN : NK s) (hnf : nf ≤ 30) (hno : no ≤ 300)
    (exit : ∀ (H : Heap) (locs : List Loc) (ls : Array Slot), va_P (dC, dI) classes (mw ad cA th yr nf no nt bd nb fl AI AN AB (clL AI AN AL no nf)) H → va_D A (mw ad cA th yr nf no nt bd nb fl AI AN AB (clL AI AN AL no nf)) → va_S A H0 H locs → lv_has ls 6 [(1, .int (nI nf)), (0, .ref (ad 0))] → W p l e { frames := 2, cells := 0, slots := 0, locals := 45 } s m args below meth c H locs 0 0 Q (F0 m 101 ls [])) :
    ∀ (n i : Nat), i ≤ nf → nf + 1 ≤ i + n → ∀ (H : Heap) (locs : List Loc) (ls : Array Slot), va_P (dC, dI) classes (mw ad cA th yr nf no nt bd nb fl AI AN AB (clL AI AN AL no i)) H → va_D A (mw ad cA th yr nf no nt bd nb fl AI AN AB (clL AI AN AL no i)) → va_S A H0 H locs → lv_has ls 6 [(1, .int (nI i)), (0, .ref (ad 0))] → W p l e { frames := 2, cells := 0, slots := 0, locals := 45 } s m args below meth c H locs 0 0 Q (F0 m 20 ls []) := by
  have hG := fun (w : Cond) (h : w ∈ wG) => hts w (List.mem_cons_of_mem _ h)
  intro n
  induction n with
  | zero =>
    intro i h1 h2
    omega
  | succ n ih =>
    intro i hi hin H locs ls hP hD hS hl
    refine lv_iload_n hx hb d_Mo_close_20 rfl (lv_at hl 0 rfl) ?_
    refine lv_aload_n hx hb d_Mo_close_21 rfl (lv_at hl 1 rfl) ?_
    refine va_get (D := (dC, dI)) (ci := 7) (v := .int (nI nf)) (C := R_Mo) (T := F_Mo) (N := 31) hx hb hG iG_Mo hown hK hP 0 rfl rfl 2 (by decide) (hG _ k_525) (fun _ h9 => h9) rfl d_Mo_close_22 ?_
    refine lv_icmp_ge (tgt := 101) hx hb d_Mo_close_25 (by decide) (fun c_1 => ?_) (fun c_1 => ?_)
    · obtain rfl : i = nf := by have := (nI_leI (by omega) (by omega)).mp c_1; omega
      exact exit H locs ls hP hD hS (lv_sub hl [0, 1] rfl)
    · have hlt : i < nf := by have h9 := c_1; rw [nI_leI (by omega) (by omega)] at h9; omega
      refine lv_aload_n hx hb d_Mo_close_28 rfl (lv_at hl 1 rfl) ?_
      refine lv_iload_n hx hb d_Mo_close_29 rfl (lv_at hl 0 rfl) ?_
      refine rd_calll (va_runV (As := [.int (nI i)]) (rest := []) ⟨hx, hb, hml, hown, hts⟩ (c_Mo_free l dC dI ad cA th yr nf no nt bd nb fl AI AN AB (clL AI AN AL no i) i hno (by omega)) (cwV 1 hts (gd_V k_659 k_661 k_10 k_17 k_662) rfl rfl rfl (by decide +kernel) ⟨Nat.le_of_ble_eq_true rfl, Nat.le_of_ble_eq_true rfl⟩) (rd_preV 0 hK hN hP rfl rfl) rfl rfl hl.1 rfl (lv_room (Nat.le_of_ble_eq_true rfl)) d_Mo_close_30 ⟨Nat.zero_le _, Nat.zero_le _⟩) (fun r_2 hr_2 => ?_)
      subst hr_2
      refine lv_topL (y := m_free AI AN AL no i) (clL_free AI AN AL no i) ?_
      refine lv_lstore_n (lv' := [(2, .long (m_free AI AN AL no i)), (1, .int (nI i)), (0, .ref (ad 0))]) hx hb d_Mo_close_33 rfl hl (by decide) rfl (fun ls hl => ?_)
      refine lv_lload_n hx hb d_Mo_close_34 rfl (lv_at hl 0 rfl) ?_
      refine lv_lconst (v := 0) hx hb d_Mo_close_35 (by decide) ?_
      refine lc_lt (tgt := 49) hx hb d_Mo_close_36 d_Mo_close_37 (by decide) (fun c_3 => ?_) (fun c_3 => ?_)
      · refine lv_lconst (v := 0) hx hb d_Mo_close_49 (by decide) ?_
        refine lv_goto (tgt := 72) hx hb d_Mo_close_50 (by decide) ?_
        refine lv_topL (y := m_carried (AI 1 i) (m_free AI AN AL no i)) (by simp [m_carried, c_3]) ?_
        refine lv_lstore (lv' := [(4, .long (m_carried (AI 1 i) (m_free AI AN AL no i))), (2, .long (m_free AI AN AL no i)), (1, .int (nI i)), (0, .ref (ad 0))]) hx hb d_Mo_close_72 hl (by decide) rfl (fun ls hl => ?_)
        refine lv_aload_n hx hb d_Mo_close_74 rfl (lv_at hl 3 rfl) ?_
        refine va_get (D := (dC, dI)) (ci := 7) (v := .ref (ad 2)) (C := R_Mo) (T := F_Mo) (N := 31) hx hb hG iG_Mo hown hK hP 0 rfl rfl 4 (by decide) (hG _ k_527) (fun _ h9 => h9) rfl d_Mo_close_75 ?_
        refine lv_iload_n hx hb d_Mo_close_78 rfl (lv_at hl 2 rfl) ?_
        refine lv_lload hx hb d_Mo_close_79 (lv_at hl 0 rfl) ?_
        refine lv_aload_n hx hb d_Mo_close_81 rfl (lv_at hl 3 rfl) ?_
        refine lv_iload_n hx hb d_Mo_close_82 rfl (lv_at hl 2 rfl) ?_
        refine rd_calll (va_runV (As := [.int (nI i)]) (rest := [.long (m_carried (AI 1 i) (m_free AI AN AL no i)), .int (nI i), .ref (ad 2)]) ⟨hx, hb, hml, hown, hts⟩ (c_Mo_encumbered l dC dI ad cA th yr nf no nt bd nb fl AI AN AB (clL AI AN AL no i) (nI i) hno) (cwV 1 hts (gd_V k_645 k_647 k_9 k_17 k_648) rfl rfl rfl (by decide +kernel) ⟨Nat.le_of_ble_eq_true rfl, Nat.le_of_ble_eq_true rfl⟩) (rd_preV 0 hK hN hP rfl rfl) rfl rfl hl.1 rfl (lv_room (Nat.le_of_ble_eq_true rfl)) d_Mo_close_83 ⟨Nat.zero_le _, Nat.zero_le _⟩) (fun r_4 hr_4 => ?_)
        subst hr_4
        refine lv_ladd hx hb d_Mo_close_86 ?_
        refine ra_last (n := 30) (j := i) (f := (clL AI AN AL no i) 2) hx hb hK hP hD hS 2 1 rfl rfl (by omega) (by decide) d_Mo_close_87 (fun H locs hP hD hS => ?_)
        have hP : va_P (dC, dI) classes (mw ad cA th yr nf no nt bd nb fl AI AN AB (va_up (clL AI AN AL no i) 2 (va_up ((clL AI AN AL no i) 2) i (m_carried (AI 1 i) (m_free AI AN AL no i) + (m_enc AI AN no (nI i)))))) H := hP
        have hD : va_D A (mw ad cA th yr nf no nt bd nb fl AI AN AB (va_up (clL AI AN AL no i) 2 (va_up ((clL AI AN AL no i) 2) i (m_carried (AI 1 i) (m_free AI AN AL no i) + (m_enc AI AN no (nI i)))))) := hD
        refine lv_aload_n hx hb d_Mo_close_88 rfl (lv_at hl 3 rfl) ?_
        refine va_get (D := (dC, dI)) (ci := 7) (v := .ref (ad 3)) (C := R_Mo) (T := F_Mo) (N := 31) hx hb hG iG_Mo hown hK hP 0 rfl rfl 5 (by decide) (hG _ k_528) (fun _ h9 => h9) rfl d_Mo_close_89 ?_
        refine lv_iload_n hx hb d_Mo_close_92 rfl (lv_at hl 2 rfl) ?_
        refine lv_lconst (v := 0) hx hb d_Mo_close_93 (by decide) ?_
        refine ra_last (n := 30) (j := i) (f := (clL AI AN AL no i) 3) hx hb hK hP hD hS 3 2 rfl rfl (by omega) (by decide) d_Mo_close_94 (fun H locs hP hD hS => ?_)
        have hP : va_P (dC, dI) classes (mw ad cA th yr nf no nt bd nb fl AI AN AB (va_up (va_up (clL AI AN AL no i) 2 (va_up ((clL AI AN AL no i) 2) i (m_carried (AI 1 i) (m_free AI AN AL no i) + (m_enc AI AN no (nI i))))) 3 (va_up ((clL AI AN AL no i) 3) i 0))) H := hP
        have hD : va_D A (mw ad cA th yr nf no nt bd nb fl AI AN AB (va_up (va_up (clL AI AN AL no i) 2 (va_up ((clL AI AN AL no i) 2) i (m_carried (AI 1 i) (m_free AI AN AL no i) + (m_enc AI AN no (nI i))))) 3 (va_up ((clL AI AN AL no i) 3) i 0))) := hD
        refine lv_iinc (v := nI (i + 1)) (lv' := [(1, .int (nI (i + 1))), (4, .long (m_carried (AI 1 i) (m_free AI AN AL no i))), (2, .long (m_free AI AN AL no i)), (0, .ref (ad 0))]) hx hb d_Mo_close_95 hl (k := 2) rfl (nI_1 i) (by decide) rfl (fun ls hl => ?_)
        refine lv_goto (tgt := 20) hx hb d_Mo_close_98 (by decide) ?_
        exact ih (i + 1) (by omega) (by omega) H locs ls (by rw [clL_s]; exact hP) (by rw [clL_s]; exact hD) hS (lv_sub hl [0, 3] rfl)
      · refine lv_aload_n hx hb d_Mo_close_40 rfl (lv_at hl 2 rfl) ?_
        refine va_get (D := (dC, dI)) (ci := 7) (v := .ref (ad 1)) (C := R_Mo) (T := F_Mo) (N := 31) hx hb hG iG_Mo hown hK hP 0 rfl rfl 3 (by decide) (hG _ k_526) (fun _ h9 => h9) rfl d_Mo_close_41 ?_
        refine lv_iload_n hx hb d_Mo_close_44 rfl (lv_at hl 1 rfl) ?_
        refine ra_iald (n := 30) (j := i) (f := AI 1) hx hb hK hP 1 0 rfl rfl (by omega) (by decide) d_Mo_close_45 ?_
        refine lv_if_ne (tgt := 53) hx hb d_Mo_close_46 (by decide) (fun c_5 => ?_) (fun c_5 => ?_)
        · refine lv_aload_n hx hb d_Mo_close_53 rfl (lv_at hl 2 rfl) ?_
          refine va_get (D := (dC, dI)) (ci := 7) (v := .ref (ad 1)) (C := R_Mo) (T := F_Mo) (N := 31) hx hb hG iG_Mo hown hK hP 0 rfl rfl 3 (by decide) (hG _ k_526) (fun _ h9 => h9) rfl d_Mo_close_54 ?_
          refine lv_iload_n hx hb d_Mo_close_57 rfl (lv_at hl 1 rfl) ?_
          refine ra_iald (n := 30) (j := i) (f := AI 1) hx hb hK hP 1 0 rfl rfl (by omega) (by decide) d_Mo_close_58 ?_
          refine lv_iconst (v := 1) hx hb d_Mo_close_59 (by decide) ?_
          refine lv_icmp_ne (tgt := 67) hx hb d_Mo_close_60 (by decide) (fun c_6 => ?_) (fun c_6 => ?_)
          · refine lv_lload_n hx hb d_Mo_close_67 rfl (lv_at hl 0 rfl) ?_
            refine lv_ldc2 (own := R_Mo) (v := 2) hx hb hown (hG _ k_628) d_Mo_close_68 ?_
            refine lv_ldiv hx hb d_Mo_close_71 (by decide) ?_
            refine lv_topL (y := m_carried (AI 1 i) (m_free AI AN AL no i)) (by simp [m_carried, c_3, c_5, c_6]) ?_
            refine lv_lstore (lv' := [(4, .long (m_carried (AI 1 i) (m_free AI AN AL no i))), (2, .long (m_free AI AN AL no i)), (1, .int (nI i)), (0, .ref (ad 0))]) hx hb d_Mo_close_72 hl (by decide) rfl (fun ls hl => ?_)
            refine lv_aload_n hx hb d_Mo_close_74 rfl (lv_at hl 3 rfl) ?_
            refine va_get (D := (dC, dI)) (ci := 7) (v := .ref (ad 2)) (C := R_Mo) (T := F_Mo) (N := 31) hx hb hG iG_Mo hown hK hP 0 rfl rfl 4 (by decide) (hG _ k_527) (fun _ h9 => h9) rfl d_Mo_close_75 ?_
            refine lv_iload_n hx hb d_Mo_close_78 rfl (lv_at hl 2 rfl) ?_
            refine lv_lload hx hb d_Mo_close_79 (lv_at hl 0 rfl) ?_
            refine lv_aload_n hx hb d_Mo_close_81 rfl (lv_at hl 3 rfl) ?_
            refine lv_iload_n hx hb d_Mo_close_82 rfl (lv_at hl 2 rfl) ?_
            refine rd_calll (va_runV (As := [.int (nI i)]) (rest := [.long (m_carried (AI 1 i) (m_free AI AN AL no i)), .int (nI i), .ref (ad 2)]) ⟨hx, hb, hml, hown, hts⟩ (c_Mo_encumbered l dC dI ad cA th yr nf no nt bd nb fl AI AN AB (clL AI AN AL no i) (nI i) hno) (cwV 1 hts (gd_V k_645 k_647 k_9 k_17 k_648) rfl rfl rfl (by decide +kernel) ⟨Nat.le_of_ble_eq_true rfl, Nat.le_of_ble_eq_true rfl⟩) (rd_preV 0 hK hN hP rfl rfl) rfl rfl hl.1 rfl (lv_room (Nat.le_of_ble_eq_true rfl)) d_Mo_close_83 ⟨Nat.zero_le _, Nat.zero_le _⟩) (fun r_7 hr_7 => ?_)
            subst hr_7
            refine lv_ladd hx hb d_Mo_close_86 ?_
            refine ra_last (n := 30) (j := i) (f := (clL AI AN AL no i) 2) hx hb hK hP hD hS 2 1 rfl rfl (by omega) (by decide) d_Mo_close_87 (fun H locs hP hD hS => ?_)
            have hP : va_P (dC, dI) classes (mw ad cA th yr nf no nt bd nb fl AI AN AB (va_up (clL AI AN AL no i) 2 (va_up ((clL AI AN AL no i) 2) i (m_carried (AI 1 i) (m_free AI AN AL no i) + (m_enc AI AN no (nI i)))))) H := hP
            have hD : va_D A (mw ad cA th yr nf no nt bd nb fl AI AN AB (va_up (clL AI AN AL no i) 2 (va_up ((clL AI AN AL no i) 2) i (m_carried (AI 1 i) (m_free AI AN AL no i) + (m_enc AI AN no (nI i)))))) := hD
            refine lv_aload_n hx hb d_Mo_close_88 rfl (lv_at hl 3 rfl) ?_
            refine va_get (D := (dC, dI)) (ci := 7) (v := .ref (ad 3)) (C := R_Mo) (T := F_Mo) (N := 31) hx hb hG iG_Mo hown hK hP 0 rfl rfl 5 (by decide) (hG _ k_528) (fun _ h9 => h9) rfl d_Mo_close_89 ?_
            refine lv_iload_n hx hb d_Mo_close_92 rfl (lv_at hl 2 rfl) ?_
            refine lv_lconst (v := 0) hx hb d_Mo_close_93 (by decide) ?_
            refine ra_last (n := 30) (j := i) (f := (clL AI AN AL no i) 3) hx hb hK hP hD hS 3 2 rfl rfl (by omega) (by decide) d_Mo_close_94 (fun H locs hP hD hS => ?_)
            have hP : va_P (dC, dI) classes (mw ad cA th yr nf no nt bd nb fl AI AN AB (va_up (va_up (clL AI AN AL no i) 2 (va_up ((clL AI AN AL no i) 2) i (m_carried (AI 1 i) (m_free AI AN AL no i) + (m_enc AI AN no (nI i))))) 3 (va_up ((clL AI AN AL no i) 3) i 0))) H := hP
            have hD : va_D A (mw ad cA th yr nf no nt bd nb fl AI AN AB (va_up (va_up (clL AI AN AL no i) 2 (va_up ((clL AI AN AL no i) 2) i (m_carried (AI 1 i) (m_free AI AN AL no i) + (m_enc AI AN no (nI i))))) 3 (va_up ((clL AI AN AL no i) 3) i 0))) := hD
            refine lv_iinc (v := nI (i + 1)) (lv' := [(1, .int (nI (i + 1))), (4, .long (m_carried (AI 1 i) (m_free AI AN AL no i))), (2, .long (m_free AI AN AL no i)), (0, .ref (ad 0))]) hx hb d_Mo_close_95 hl (k := 2) rfl (nI_1 i) (by decide) rfl (fun ls hl => ?_)
            refine lv_goto (tgt := 20) hx hb d_Mo_close_98 (by decide) ?_
            exact ih (i + 1) (by omega) (by omega) H locs ls (by rw [clL_s]; exact hP) (by rw [clL_s]; exact hD) hS (lv_sub hl [0, 3] rfl)
          · refine lv_lload_n hx hb d_Mo_close_63 rfl (lv_at hl 0 rfl) ?_
            refine lv_goto (tgt := 72) hx hb d_Mo_close_64 (by decide) ?_
            refine lv_topL (y := m_carried (AI 1 i) (m_free AI AN AL no i)) (by simp [m_carried, c_3, c_5, c_6]) ?_
            refine lv_lstore (lv' := [(4, .long (m_carried (AI 1 i) (m_free AI AN AL no i))), (2, .long (m_free AI AN AL no i)), (1, .int (nI i)), (0, .ref (ad 0))]) hx hb d_Mo_close_72 hl (by decide) rfl (fun ls hl => ?_)
            refine lv_aload_n hx hb d_Mo_close_74 rfl (lv_at hl 3 rfl) ?_
            refine va_get (D := (dC, dI)) (ci := 7) (v := .ref (ad 2)) (C := R_Mo) (T := F_Mo) (N := 31) hx hb hG iG_Mo hown hK hP 0 rfl rfl 4 (by decide) (hG _ k_527) (fun _ h9 => h9) rfl d_Mo_close_75 ?_
            refine lv_iload_n hx hb d_Mo_close_78 rfl (lv_at hl 2 rfl) ?_
            refine lv_lload hx hb d_Mo_close_79 (lv_at hl 0 rfl) ?_
            refine lv_aload_n hx hb d_Mo_close_81 rfl (lv_at hl 3 rfl) ?_
            refine lv_iload_n hx hb d_Mo_close_82 rfl (lv_at hl 2 rfl) ?_
            refine rd_calll (va_runV (As := [.int (nI i)]) (rest := [.long (m_carried (AI 1 i) (m_free AI AN AL no i)), .int (nI i), .ref (ad 2)]) ⟨hx, hb, hml, hown, hts⟩ (c_Mo_encumbered l dC dI ad cA th yr nf no nt bd nb fl AI AN AB (clL AI AN AL no i) (nI i) hno) (cwV 1 hts (gd_V k_645 k_647 k_9 k_17 k_648) rfl rfl rfl (by decide +kernel) ⟨Nat.le_of_ble_eq_true rfl, Nat.le_of_ble_eq_true rfl⟩) (rd_preV 0 hK hN hP rfl rfl) rfl rfl hl.1 rfl (lv_room (Nat.le_of_ble_eq_true rfl)) d_Mo_close_83 ⟨Nat.zero_le _, Nat.zero_le _⟩) (fun r_8 hr_8 => ?_)
            subst hr_8
            refine lv_ladd hx hb d_Mo_close_86 ?_
            refine ra_last (n := 30) (j := i) (f := (clL AI AN AL no i) 2) hx hb hK hP hD hS 2 1 rfl rfl (by omega) (by decide) d_Mo_close_87 (fun H locs hP hD hS => ?_)
            have hP : va_P (dC, dI) classes (mw ad cA th yr nf no nt bd nb fl AI AN AB (va_up (clL AI AN AL no i) 2 (va_up ((clL AI AN AL no i) 2) i (m_carried (AI 1 i) (m_free AI AN AL no i) + (m_enc AI AN no (nI i)))))) H := hP
            have hD : va_D A (mw ad cA th yr nf no nt bd nb fl AI AN AB (va_up (clL AI AN AL no i) 2 (va_up ((clL AI AN AL no i) 2) i (m_carried (AI 1 i) (m_free AI AN AL no i) + (m_enc AI AN no (nI i)))))) := hD
            refine lv_aload_n hx hb d_Mo_close_88 rfl (lv_at hl 3 rfl) ?_
            refine va_get (D := (dC, dI)) (ci := 7) (v := .ref (ad 3)) (C := R_Mo) (T := F_Mo) (N := 31) hx hb hG iG_Mo hown hK hP 0 rfl rfl 5 (by decide) (hG _ k_528) (fun _ h9 => h9) rfl d_Mo_close_89 ?_
            refine lv_iload_n hx hb d_Mo_close_92 rfl (lv_at hl 2 rfl) ?_
            refine lv_lconst (v := 0) hx hb d_Mo_close_93 (by decide) ?_
            refine ra_last (n := 30) (j := i) (f := (clL AI AN AL no i) 3) hx hb hK hP hD hS 3 2 rfl rfl (by omega) (by decide) d_Mo_close_94 (fun H locs hP hD hS => ?_)
            have hP : va_P (dC, dI) classes (mw ad cA th yr nf no nt bd nb fl AI AN AB (va_up (va_up (clL AI AN AL no i) 2 (va_up ((clL AI AN AL no i) 2) i (m_carried (AI 1 i) (m_free AI AN AL no i) + (m_enc AI AN no (nI i))))) 3 (va_up ((clL AI AN AL no i) 3) i 0))) H := hP
            have hD : va_D A (mw ad cA th yr nf no nt bd nb fl AI AN AB (va_up (va_up (clL AI AN AL no i) 2 (va_up ((clL AI AN AL no i) 2) i (m_carried (AI 1 i) (m_free AI AN AL no i) + (m_enc AI AN no (nI i))))) 3 (va_up ((clL AI AN AL no i) 3) i 0))) := hD
            refine lv_iinc (v := nI (i + 1)) (lv' := [(1, .int (nI (i + 1))), (4, .long (m_carried (AI 1 i) (m_free AI AN AL no i))), (2, .long (m_free AI AN AL no i)), (0, .ref (ad 0))]) hx hb d_Mo_close_95 hl (k := 2) rfl (nI_1 i) (by decide) rfl (fun ls hl => ?_)
            refine lv_goto (tgt := 20) hx hb d_Mo_close_98 (by decide) ?_
            exact ih (i + 1) (by omega) (by omega) H locs ls (by rw [clL_s]; exact hP) (by rw [clL_s]; exact hD) hS (lv_sub hl [0, 3] rfl)
        · refine lv_lconst (v := 0) hx hb d_Mo_close_49 (by decide) ?_
          refine lv_goto (tgt := 72) hx hb d_Mo_close_50 (by decide) ?_
          refine lv_topL (y := m_carried (AI 1 i) (m_free AI AN AL no i)) (by simp [m_carried, c_3, c_5]) ?_
          refine lv_lstore (lv' := [(4, .long (m_carried (AI 1 i) (m_free AI AN AL no i))), (2, .long (m_free AI AN AL no i)), (1, .int (nI i)), (0, .ref (ad 0))]) hx hb d_Mo_close_72 hl (by decide) rfl (fun ls hl => ?_)
          refine lv_aload_n hx hb d_Mo_close_74 rfl (lv_at hl 3 rfl) ?_
          refine va_get (D := (dC, dI)) (ci := 7) (v := .ref (ad 2)) (C := R_Mo) (T := F_Mo) (N := 31) hx hb hG iG_Mo hown hK hP 0 rfl rfl 4 (by decide) (hG _ k_527) (fun _ h9 => h9) rfl d_Mo_close_75 ?_
          refine lv_iload_n hx hb d_Mo_close_78 rfl (lv_at hl 2 rfl) ?_
          refine lv_lload hx hb d_Mo_close_79 (lv_at hl 0 rfl) ?_
          refine lv_aload_n hx hb d_Mo_close_81 rfl (lv_at hl 3 rfl) ?_
          refine lv_iload_n hx hb d_Mo_close_82 rfl (lv_at hl 2 rfl) ?_
          refine rd_calll (va_runV (As := [.int (nI i)]) (rest := [.long (m_carried (AI 1 i) (m_free AI AN AL no i)), .int (nI i), .ref (ad 2)]) ⟨hx, hb, hml, hown, hts⟩ (c_Mo_encumbered l dC dI ad cA th yr nf no nt bd nb fl AI AN AB (clL AI AN AL no i) (nI i) hno) (cwV 1 hts (gd_V k_645 k_647 k_9 k_17 k_648) rfl rfl rfl (by decide +kernel) ⟨Nat.le_of_ble_eq_true rfl, Nat.le_of_ble_eq_true rfl⟩) (rd_preV 0 hK hN hP rfl rfl) rfl rfl hl.1 rfl (lv_room (Nat.le_of_ble_eq_true rfl)) d_Mo_close_83 ⟨Nat.zero_le _, Nat.zero_le _⟩) (fun r_9 hr_9 => ?_)
          subst hr_9
          refine lv_ladd hx hb d_Mo_close_86 ?_
          refine ra_last (n := 30) (j := i) (f := (clL AI AN AL no i) 2) hx hb hK hP hD hS 2 1 rfl rfl (by omega) (by decide) d_Mo_close_87 (fun H locs hP hD hS => ?_)
          have hP : va_P (dC, dI) classes (mw ad cA th yr nf no nt bd nb fl AI AN AB (va_up (clL AI AN AL no i) 2 (va_up ((clL AI AN AL no i) 2) i (m_carried (AI 1 i) (m_free AI AN AL no i) + (m_enc AI AN no (nI i)))))) H := hP
          have hD : va_D A (mw ad cA th yr nf no nt bd nb fl AI AN AB (va_up (clL AI AN AL no i) 2 (va_up ((clL AI AN AL no i) 2) i (m_carried (AI 1 i) (m_free AI AN AL no i) + (m_enc AI AN no (nI i)))))) := hD
          refine lv_aload_n hx hb d_Mo_close_88 rfl (lv_at hl 3 rfl) ?_
          refine va_get (D := (dC, dI)) (ci := 7) (v := .ref (ad 3)) (C := R_Mo) (T := F_Mo) (N := 31) hx hb hG iG_Mo hown hK hP 0 rfl rfl 5 (by decide) (hG _ k_528) (fun _ h9 => h9) rfl d_Mo_close_89 ?_
          refine lv_iload_n hx hb d_Mo_close_92 rfl (lv_at hl 2 rfl) ?_
          refine lv_lconst (v := 0) hx hb d_Mo_close_93 (by decide) ?_
          refine ra_last (n := 30) (j := i) (f := (clL AI AN AL no i) 3) hx hb hK hP hD hS 3 2 rfl rfl (by omega) (by decide) d_Mo_close_94 (fun H locs hP hD hS => ?_)
          have hP : va_P (dC, dI) classes (mw ad cA th yr nf no nt bd nb fl AI AN AB (va_up (va_up (clL AI AN AL no i) 2 (va_up ((clL AI AN AL no i) 2) i (m_carried (AI 1 i) (m_free AI AN AL no i) + (m_enc AI AN no (nI i))))) 3 (va_up ((clL AI AN AL no i) 3) i 0))) H := hP
          have hD : va_D A (mw ad cA th yr nf no nt bd nb fl AI AN AB (va_up (va_up (clL AI AN AL no i) 2 (va_up ((clL AI AN AL no i) 2) i (m_carried (AI 1 i) (m_free AI AN AL no i) + (m_enc AI AN no (nI i))))) 3 (va_up ((clL AI AN AL no i) 3) i 0))) := hD
          refine lv_iinc (v := nI (i + 1)) (lv' := [(1, .int (nI (i + 1))), (4, .long (m_carried (AI 1 i) (m_free AI AN AL no i))), (2, .long (m_free AI AN AL no i)), (0, .ref (ad 0))]) hx hb d_Mo_close_95 hl (k := 2) rfl (nI_1 i) (by decide) rfl (fun ls hl => ?_)
          refine lv_goto (tgt := 20) hx hb d_Mo_close_98 (by decide) ?_
          exact ih (i + 1) (by omega) (by omega) H locs ls (by rw [clL_s]; exact hP) (by rw [clL_s]; exact hD) hS (lv_sub hl [0, 3] rfl)
set_option maxHeartbeats 4000000 in
set_option maxRecDepth 100000 in
theorem c_Mo_close (l : Launch) (dC : Nat → ClassId) (dI : Nat → Nat → Nat) (ad : Nat → Nat) (cA : Nat → ClassId) (th yr : Int32) (nf no nt : Nat) (bd : Int32) (nb : Nat) (fl : Int32) (AI : Nat → Nat → Int32) (AN : Nat → Nat → Nat) (AB : Nat → Nat → Bool) (AL : Nat → Nat → Int64) (sz : Nat) (hI : InvM nf no nt nb AI AN) : Met l y_Mo_close w_Mo_close { frames := 2, cells := 0, slots := 0, locals := 45 } (mu_P (dC, dI) classes (mtys cA) (mw ad cA th yr nf no nt bd nb fl AI AN AB AL) sz [.ref (ad 0)]) (va_Qi (fun r u => (r, u) = m_close (th, yr, nf, no, nt, bd, nb, fl, AI, AN, AB, AL) ) (mu_B (dC, dI) classes (mtys cA) (va_A (mw ad cA th yr nf no nt bd nb fl AI AN AB AL) sz) (mwS ad cA)) (va_A (mw ad cA th yr nf no nt bd nb fl AI AN AB AL) sz)) 0 0 (va_A (mw ad cA th yr nf no nt bd nb fl AI AN AB AL) sz) := by
  refine Met.ofW (cc := b_Mo_close) (maxL := 6) (ret := (some .int)) (by decide) rfl ?_
  intro p e s m args below meth c s₁ B hml hv
  obtain ⟨rfl, hsz, hP, hK, hD0, hN⟩ := hv
  have hx := B.exec
  have hb := B.bytes
  have hr := B.returns
  have hts := atoms_spec (ws := w_Mo_close) B.pre
  have hG := fun (w : Cond) (h : w ∈ wG) => hts w (List.mem_cons_of_mem _ h)
  have hown : s.vm.findClass R_Mo = some m.cls := findClass_of_methodNamed B.named
  have hlocks := B.notSynchronized
  subst hsz
  have hD := hD0.self (sz := s.heap.size)
  generalize hAe : va_A (mw ad cA th yr nf no nt bd nb fl AI AN AB AL) s.heap.size = A at hD ⊢
  have hA : ∀ q : Nat, s.heap.size ≤ q → A q := fun q h => by rw [← hAe]; exact Or.inr h
  have hS : va_S A s.heap s.heap [] := va_S.rf
  have hP : va_P (dC, dI) classes (mw ad cA th yr nf no nt bd nb fl AI AN AB AL) s.heap := hP
  have hl := lv_entry ([.ref (ad 0)]) (n := 6) (Nat.le_of_ble_eq_true rfl)
  rw [lg_entry_eq]
  generalize (lg_sl ([.ref (ad 0)]) ++ List.replicate (6 - (lg_sl ([.ref (ad 0)])).length) Slot.unset).toArray = ls at hl ⊢
  have hl : lv_has ls 6 [(0, .ref (ad 0))] := hl
  obtain ⟨hnf, hno, hnt, hnb, hfu, hft, hbf, hrw, hce, hdn⟩ := id hI
  refine lv_aload_n hx hb d_Mo_close_0 rfl (lv_at hl 0 rfl) ?_
  refine lv_iconst (v := 0) hx hb d_Mo_close_1 (by decide) ?_
  refine va_put (D := (dC, dI)) (ci := 7) (v := .int 0) (ty := .int) (C := R_Mo) (T := F_Mo) (N := 31) hx hb hG iG_Mo t_Mo t_Mo_ok n_Mo hown hK hP hD hS 0 rfl rfl 0 (by decide) (hG _ k_523) (fun _ h9 => h9) rfl (by decide +kernel) rfl rfl (Nat.le_of_ble_eq_true rfl) d_Mo_close_2 (fun H locs hP hD hS => ?_)
  have hP : va_P (dC, dI) classes (mw ad cA 0 yr nf no nt bd nb fl AI AN AB AL) H := hP
  have hD : va_D A (mw ad cA 0 yr nf no nt bd nb fl AI AN AB AL) := hD
  refine lv_aload_n hx hb d_Mo_close_5 rfl (lv_at hl 0 rfl) ?_
  refine va_get (D := (dC, dI)) (ci := 7) (v := .int yr) (C := R_Mo) (T := F_Mo) (N := 31) hx hb hG iG_Mo hown hK hP 0 rfl rfl 1 (by decide) (hG _ k_524) (fun _ h9 => h9) rfl d_Mo_close_6 ?_
  refine lv_sipush (v := 9999) hx hb d_Mo_close_9 (by decide) ?_
  refine lv_icmp_ne (tgt := 18) hx hb d_Mo_close_12 (by decide) (fun c_1 => ?_) (fun c_1 => ?_)
  · refine lv_iconst (v := 0) hx hb d_Mo_close_18 (by decide) ?_
    refine lv_istore_n (lv' := [(1, .int 0), (0, .ref (ad 0))]) hx hb d_Mo_close_19 rfl hl (by decide) rfl (fun ls hl => ?_)
    refine lp_Mo_close (th := 0) hx hb hml hown hts hK hN hnf hno (fun H locs ls hP hD hS hl => ?_) (nf + 1) 0 (by omega) (by omega) H locs ls (by rw [clL_0]; exact hP) (by rw [clL_0]; exact hD) hS (lv_sub hl [0, 1] rfl)
    refine lv_aload_n hx hb d_Mo_close_101 rfl (lv_at hl 1 rfl) ?_
    refine lv_dup hx hb d_Mo_close_102 rfl ?_
    refine va_get (D := (dC, dI)) (ci := 7) (v := .int yr) (C := R_Mo) (T := F_Mo) (N := 31) hx hb hG iG_Mo hown hK hP 0 rfl rfl 1 (by decide) (hG _ k_524) (fun _ h9 => h9) rfl d_Mo_close_103 ?_
    refine lv_iconst (v := 1) hx hb d_Mo_close_106 (by decide) ?_
    refine lv_iadd hx hb d_Mo_close_107 ?_
    refine va_put (D := (dC, dI)) (ci := 7) (v := .int (yr + 1)) (ty := .int) (C := R_Mo) (T := F_Mo) (N := 31) hx hb hG iG_Mo t_Mo t_Mo_ok n_Mo hown hK hP hD hS 0 rfl rfl 1 (by decide) (hG _ k_524) (fun _ h9 => h9) rfl (by decide +kernel) rfl rfl (Nat.le_of_ble_eq_true rfl) d_Mo_close_108 (fun H locs hP hD hS => ?_)
    have hP : va_P (dC, dI) classes (mw ad cA 0 (yr + 1) nf no nt bd nb fl AI AN AB (clL AI AN AL no nf)) H := hP
    have hD : va_D A (mw ad cA 0 (yr + 1) nf no nt bd nb fl AI AN AB (clL AI AN AL no nf)) := hD
    refine lv_aload_n hx hb d_Mo_close_111 rfl (lv_at hl 1 rfl) ?_
    refine va_get (D := (dC, dI)) (ci := 7) (v := .int (yr + 1)) (C := R_Mo) (T := F_Mo) (N := 31) hx hb hG iG_Mo hown hK hP 0 rfl rfl 1 (by decide) (hG _ k_524) (fun _ h9 => h9) rfl d_Mo_close_112 ?_
    exact W.iret (v := (yr + 1)) hx hb hr (fun t ht hW => ⟨⟨_, (0, (yr + 1), nf, no, nt, bd, nb, fl, AI, AN, AB, (clL AI AN AL no nf)), rfl, (by simp [m_close, ixn, bI, c_1] <;> (repeat' apply And.intro) <;> rfl), by rw [ht]; exact hP, va_K.moved hW.alike hK, hD⟩, hS.F ht⟩) hS.2.2 d_Mo_close_115
  · refine lv_bipush (v := (-3)) hx hb d_Mo_close_15 (by decide) ?_
    exact W.iret (v := (-3)) hx hb hr (fun t ht hW => ⟨⟨_, (0, yr, nf, no, nt, bd, nb, fl, AI, AN, AB, AL), rfl, (by simp [m_close, ixn, bI, c_1] <;> (repeat' apply And.intro) <;> rfl), by rw [ht]; exact hP, va_K.moved hW.alike hK, hD⟩, hS.F ht⟩) hS.2.2 d_Mo_close_17
end
section
theorem tot_step (AI : Nat → Nat → Int32) (nb k : Nat) : m_tot AI nb - m_tot AI (k + 1) + (AI 23 k).toInt64 = m_tot AI nb - m_tot AI k := by
  have : m_tot AI (k + 1) = m_tot AI k + (AI 23 k).toInt64 := rfl
  rw [this]
  grind
theorem fst_t {P : Nat → Bool} {nb k : Nat} (hk : k < nb) (h : P k = true) : fst_ P (nb - k) k = some k := by
  rw [show nb - k = (nb - (k + 1)) + 1 by omega]
  simp [fst_, h]
theorem fst_f {P : Nat → Bool} {nb k : Nat} (hk : k < nb) (h : P k = false) : fst_ P (nb - k) k = fst_ P (nb - (k + 1)) (k + 1) := by
  rw [show nb - k = (nb - (k + 1)) + 1 by omega]
  simp [fst_, h]
theorem fst_lt {P : Nat → Bool} : ∀ {d k r : Nat}, fst_ P d k = some r → k ≤ r ∧ r < k + d ∧ P r = true
  | 0, k, r, h => by simp [fst_] at h
  | d + 1, k, r, h => by
    simp only [fst_] at h
    split at h
    · cases h; exact ⟨Nat.le_refl _, by omega, by assumption⟩
    · obtain ⟨h1, h2, h3⟩ := fst_lt h; exact ⟨by omega, by omega, h3⟩
theorem up_id {α : Type} (F : Nat → α) (k : Nat) : va_up F k (F k) = F := by
  funext j
  unfold va_up
  split
  · simp [*]
  · rfl
theorem up_up {α : Type} (F : Nat → α) (k : Nat) (x y : α) : va_up (va_up F k x) k y = va_up F k y := bx_uu F k x y
theorem bad_none {AI : Nat → Nat → Int32} {AN : Nat → Nat → Nat} {AL : Nat → Nat → Int64} {no nb : Nat} (h : fst_ (m_short AI AN AL no nb) nb 0 = none) (h0 : m_tot AI nb = 0) : m_bad AI AN AL no nb = none := by simp [m_bad, h, h0]
theorem bad_sum {AI : Nat → Nat → Int32} {AN : Nat → Nat → Nat} {AL : Nat → Nat → Int64} {no nb : Nat} (h : fst_ (m_short AI AN AL no nb) nb 0 = none) (h0 : ¬ m_tot AI nb = 0) : m_bad AI AN AL no nb = some (nb - 1) := by simp [m_bad, h, h0]
theorem bad_some {AI : Nat → Nat → Int32} {AN : Nat → Nat → Nat} {AL : Nat → Nat → Int64} {no nb r : Nat} (h : fst_ (m_short AI AN AL no nb) nb 0 = some r) : m_bad AI AN AL no nb = some r := by simp [m_bad, h]

theorem post_s (AI : Nat → Nat → Int32) (AN : Nat → Nat → Nat) (AL : Nat → Nat → Int64) (i : Nat) : va_up AL 2 (m_posted AI AN (AL 2) (i + 1)) = va_up (va_up AL 2 (m_posted AI AN (AL 2) i)) 2 (va_up (m_posted AI AN (AL 2) i) (AN 22 i) (m_posted AI AN (AL 2) i (AN 22 i) + (AI 23 i).toInt64)) := by
  rw [up_up]
  rfl

theorem d_Mo_post_0 : decode b_Mo_post 0 = .ok (.aload_n 0, 1) := by decide +kernel
theorem d_Mo_post_1 : decode b_Mo_post 1 = .ok (.iconst 0, 1) := by decide +kernel
theorem d_Mo_post_2 : decode b_Mo_post 2 = .ok (.putfield 91, 3) := by decide +kernel
theorem d_Mo_post_5 : decode b_Mo_post 5 = .ok (.aload_n 0, 1) := by decide +kernel
theorem d_Mo_post_6 : decode b_Mo_post 6 = .ok (.getfield 164, 3) := by decide +kernel
theorem d_Mo_post_9 : decode b_Mo_post 9 = .ok (.istore_n 1, 1) := by decide +kernel
theorem d_Mo_post_10 : decode b_Mo_post 10 = .ok (.lconst 0, 1) := by decide +kernel
theorem d_Mo_post_11 : decode b_Mo_post 11 = .ok (.lstore_n 2, 1) := by decide +kernel
theorem d_Mo_post_12 : decode b_Mo_post 12 = .ok (.iconst (-1), 1) := by decide +kernel
theorem d_Mo_post_13 : decode b_Mo_post 13 = .ok (.istore 4, 2) := by decide +kernel
theorem d_Mo_post_15 : decode b_Mo_post 15 = .ok (.iload_n 1, 1) := by decide +kernel
theorem d_Mo_post_16 : decode b_Mo_post 16 = .ok (.iconst 1, 1) := by decide +kernel
theorem d_Mo_post_17 : decode b_Mo_post 17 = .ok (.isub, 1) := by decide +kernel
theorem d_Mo_post_18 : decode b_Mo_post 18 = .ok (.istore 5, 2) := by decide +kernel
theorem d_Mo_post_20 : decode b_Mo_post 20 = .ok (.iload 5, 2) := by decide +kernel
theorem d_Mo_post_22 : decode b_Mo_post 22 = .ok (.ifCond .lt 57, 3) := by decide +kernel
theorem d_Mo_post_25 : decode b_Mo_post 25 = .ok (.lload_n 2, 1) := by decide +kernel
theorem d_Mo_post_26 : decode b_Mo_post 26 = .ok (.aload_n 0, 1) := by decide +kernel
theorem d_Mo_post_27 : decode b_Mo_post 27 = .ok (.getfield 82, 3) := by decide +kernel
theorem d_Mo_post_30 : decode b_Mo_post 30 = .ok (.iload 5, 2) := by decide +kernel
theorem d_Mo_post_32 : decode b_Mo_post 32 = .ok (.iaload, 1) := by decide +kernel
theorem d_Mo_post_33 : decode b_Mo_post 33 = .ok (.i2l, 1) := by decide +kernel
theorem d_Mo_post_34 : decode b_Mo_post 34 = .ok (.ladd, 1) := by decide +kernel
theorem d_Mo_post_35 : decode b_Mo_post 35 = .ok (.lstore_n 2, 1) := by decide +kernel
theorem d_Mo_post_36 : decode b_Mo_post 36 = .ok (.aload_n 0, 1) := by decide +kernel
theorem d_Mo_post_37 : decode b_Mo_post 37 = .ok (.aload_n 0, 1) := by decide +kernel
theorem d_Mo_post_38 : decode b_Mo_post 38 = .ok (.getfield 79, 3) := by decide +kernel
theorem d_Mo_post_41 : decode b_Mo_post 41 = .ok (.iload 5, 2) := by decide +kernel
theorem d_Mo_post_43 : decode b_Mo_post 43 = .ok (.iaload, 1) := by decide +kernel
theorem d_Mo_post_44 : decode b_Mo_post 44 = .ok (.invokevirtual 130, 3) := by decide +kernel
theorem d_Mo_post_47 : decode b_Mo_post 47 = .ok (.aload_n 0, 1) := by decide +kernel
theorem d_Mo_post_48 : decode b_Mo_post 48 = .ok (.aload_n 0, 1) := by decide +kernel
theorem d_Mo_post_49 : decode b_Mo_post 49 = .ok (.getfield 79, 3) := by decide +kernel
theorem d_Mo_post_52 : decode b_Mo_post 52 = .ok (.iload 5, 2) := by decide +kernel
theorem d_Mo_post_54 : decode b_Mo_post 54 = .ok (.iaload, 1) := by decide +kernel
theorem d_Mo_post_55 : decode b_Mo_post 55 = .ok (.invokevirtual 167, 3) := by decide +kernel
theorem d_Mo_post_58 : decode b_Mo_post 58 = .ok (.ladd, 1) := by decide +kernel
theorem d_Mo_post_59 : decode b_Mo_post 59 = .ok (.lconst 0, 1) := by decide +kernel
theorem d_Mo_post_60 : decode b_Mo_post 60 = .ok (.lcmp, 1) := by decide +kernel
theorem d_Mo_post_61 : decode b_Mo_post 61 = .ok (.ifCond .ge 12, 3) := by decide +kernel
theorem d_Mo_post_64 : decode b_Mo_post 64 = .ok (.aload_n 0, 1) := by decide +kernel
theorem d_Mo_post_65 : decode b_Mo_post 65 = .ok (.getfield 79, 3) := by decide +kernel
theorem d_Mo_post_68 : decode b_Mo_post 68 = .ok (.iload 5, 2) := by decide +kernel
theorem d_Mo_post_70 : decode b_Mo_post 70 = .ok (.iaload, 1) := by decide +kernel
theorem d_Mo_post_71 : decode b_Mo_post 71 = .ok (.istore 4, 2) := by decide +kernel
theorem d_Mo_post_73 : decode b_Mo_post 73 = .ok (.iinc 5 (-1), 3) := by decide +kernel
theorem d_Mo_post_76 : decode b_Mo_post 76 = .ok (.goto (-56), 3) := by decide +kernel
theorem d_Mo_post_79 : decode b_Mo_post 79 = .ok (.iload 4, 2) := by decide +kernel
theorem d_Mo_post_81 : decode b_Mo_post 81 = .ok (.ifCond .ge 19, 3) := by decide +kernel
theorem d_Mo_post_84 : decode b_Mo_post 84 = .ok (.lload_n 2, 1) := by decide +kernel
theorem d_Mo_post_85 : decode b_Mo_post 85 = .ok (.lconst 0, 1) := by decide +kernel
theorem d_Mo_post_86 : decode b_Mo_post 86 = .ok (.lcmp, 1) := by decide +kernel
theorem d_Mo_post_87 : decode b_Mo_post 87 = .ok (.ifCond .eq 13, 3) := by decide +kernel
theorem d_Mo_post_90 : decode b_Mo_post 90 = .ok (.aload_n 0, 1) := by decide +kernel
theorem d_Mo_post_91 : decode b_Mo_post 91 = .ok (.getfield 79, 3) := by decide +kernel
theorem d_Mo_post_94 : decode b_Mo_post 94 = .ok (.iload_n 1, 1) := by decide +kernel
theorem d_Mo_post_95 : decode b_Mo_post 95 = .ok (.iconst 1, 1) := by decide +kernel
theorem d_Mo_post_96 : decode b_Mo_post 96 = .ok (.isub, 1) := by decide +kernel
theorem d_Mo_post_97 : decode b_Mo_post 97 = .ok (.iaload, 1) := by decide +kernel
theorem d_Mo_post_98 : decode b_Mo_post 98 = .ok (.istore 4, 2) := by decide +kernel
theorem d_Mo_post_100 : decode b_Mo_post 100 = .ok (.iload 4, 2) := by decide +kernel
theorem d_Mo_post_102 : decode b_Mo_post 102 = .ok (.ifCond .lt 21, 3) := by decide +kernel
theorem d_Mo_post_105 : decode b_Mo_post 105 = .ok (.aload_n 0, 1) := by decide +kernel
theorem d_Mo_post_106 : decode b_Mo_post 106 = .ok (.iload 4, 2) := by decide +kernel
theorem d_Mo_post_108 : decode b_Mo_post 108 = .ok (.putfield 85, 3) := by decide +kernel
theorem d_Mo_post_111 : decode b_Mo_post 111 = .ok (.aload_n 0, 1) := by decide +kernel
theorem d_Mo_post_112 : decode b_Mo_post 112 = .ok (.iconst 0, 1) := by decide +kernel
theorem d_Mo_post_113 : decode b_Mo_post 113 = .ok (.putfield 164, 3) := by decide +kernel
theorem d_Mo_post_116 : decode b_Mo_post 116 = .ok (.aload_n 0, 1) := by decide +kernel
theorem d_Mo_post_117 : decode b_Mo_post 117 = .ok (.iconst 1, 1) := by decide +kernel
theorem d_Mo_post_118 : decode b_Mo_post 118 = .ok (.putfield 91, 3) := by decide +kernel
theorem d_Mo_post_121 : decode b_Mo_post 121 = .ok (.iconst 0, 1) := by decide +kernel
theorem d_Mo_post_122 : decode b_Mo_post 122 = .ok (.ireturn, 1) := by decide +kernel
theorem d_Mo_post_123 : decode b_Mo_post 123 = .ok (.iconst 0, 1) := by decide +kernel
theorem d_Mo_post_124 : decode b_Mo_post 124 = .ok (.istore 5, 2) := by decide +kernel
theorem d_Mo_post_126 : decode b_Mo_post 126 = .ok (.iload 5, 2) := by decide +kernel
theorem d_Mo_post_128 : decode b_Mo_post 128 = .ok (.iload_n 1, 1) := by decide +kernel
theorem d_Mo_post_129 : decode b_Mo_post 129 = .ok (.if_icmp .ge 32, 3) := by decide +kernel
theorem d_Mo_post_132 : decode b_Mo_post 132 = .ok (.aload_n 0, 1) := by decide +kernel
theorem d_Mo_post_133 : decode b_Mo_post 133 = .ok (.getfield 13, 3) := by decide +kernel
theorem d_Mo_post_136 : decode b_Mo_post 136 = .ok (.aload_n 0, 1) := by decide +kernel
theorem d_Mo_post_137 : decode b_Mo_post 137 = .ok (.getfield 79, 3) := by decide +kernel
theorem d_Mo_post_140 : decode b_Mo_post 140 = .ok (.iload 5, 2) := by decide +kernel
theorem d_Mo_post_142 : decode b_Mo_post 142 = .ok (.iaload, 1) := by decide +kernel
theorem d_Mo_post_143 : decode b_Mo_post 143 = .ok (.dup2, 1) := by decide +kernel
theorem d_Mo_post_144 : decode b_Mo_post 144 = .ok (.laload, 1) := by decide +kernel
theorem d_Mo_post_145 : decode b_Mo_post 145 = .ok (.aload_n 0, 1) := by decide +kernel
theorem d_Mo_post_146 : decode b_Mo_post 146 = .ok (.getfield 82, 3) := by decide +kernel
theorem d_Mo_post_149 : decode b_Mo_post 149 = .ok (.iload 5, 2) := by decide +kernel
theorem d_Mo_post_151 : decode b_Mo_post 151 = .ok (.iaload, 1) := by decide +kernel
theorem d_Mo_post_152 : decode b_Mo_post 152 = .ok (.i2l, 1) := by decide +kernel
theorem d_Mo_post_153 : decode b_Mo_post 153 = .ok (.ladd, 1) := by decide +kernel
theorem d_Mo_post_154 : decode b_Mo_post 154 = .ok (.lastore, 1) := by decide +kernel
theorem d_Mo_post_155 : decode b_Mo_post 155 = .ok (.iinc 5 1, 3) := by decide +kernel
theorem d_Mo_post_158 : decode b_Mo_post 158 = .ok (.goto (-32), 3) := by decide +kernel
theorem d_Mo_post_161 : decode b_Mo_post 161 = .ok (.aload_n 0, 1) := by decide +kernel
theorem d_Mo_post_162 : decode b_Mo_post 162 = .ok (.iconst 0, 1) := by decide +kernel
theorem d_Mo_post_163 : decode b_Mo_post 163 = .ok (.putfield 164, 3) := by decide +kernel
theorem d_Mo_post_166 : decode b_Mo_post 166 = .ok (.iload_n 1, 1) := by decide +kernel
theorem d_Mo_post_167 : decode b_Mo_post 167 = .ok (.ireturn, 1) := by decide +kernel
set_option maxHeartbeats 4000000 in
set_option maxRecDepth 100000 in
theorem lp_Mo_post1 {p : Program} {l : Launch} {e : Env} {s : State} {m : MethodId} {args : Array Value} {below : List Frame} {meth : Method} {c : Code} {Q : State → Prop} {H : Heap} {locs : List Loc} {dC : Nat → ClassId} {dI : Nat → Nat → Nat} {ad : Nat → Nat} {cA : Nat → ClassId} {th yr : Int32} {nf no nt : Nat} {bd : Int32} {nb : Nat} {fl : Int32} {AI : Nat → Nat → Int32} {AN : Nat → Nat → Nat} {AB : Nat → Nat → Bool} {AL : Nat → Nat → Int64} (hx : p.tables.exec = Jvm.exec) (hb : c.code = b_Mo_post) (hml : c.maxLocals = 6) (hown : s.vm.findClass R_Mo = some m.cls) (hts : ∀ w ∈ w_Mo_post, w.before args s = true) (hK : va_K (dC, dI) classes (mtys cA) s) (hN : NK s) (hP : va_P (dC, dI) classes (mw ad cA th yr nf no nt bd nb fl AI AN AB AL) H) (hnf : nf ≤ 30) (hno : no ≤ 300) (hnb : nb ≤ 20) (hbf : ∀ r, r < nb → AN 22 r < nf)
    (exit : ∀ ls : Array Slot, lv_has ls 6 [(5, .int (nI 0 - 1)), (4, .int (oI ((fst_ (m_short AI AN AL no nb) (nb - 0) 0).map (AN 22)))), (2, .long (m_tot AI nb - m_tot AI 0)), (1, .int (nI nb)), (0, .ref (ad 0))] → W p l e { frames := 2, cells := 0, slots := 0, locals := 45 } s m args below meth c H locs 0 0 Q (F0 m 79 ls [])) :
    ∀ k : Nat, k ≤ nb → ∀ ls : Array Slot, lv_has ls 6 [(5, .int (nI k - 1)), (4, .int (oI ((fst_ (m_short AI AN AL no nb) (nb - k) k).map (AN 22)))), (2, .long (m_tot AI nb - m_tot AI k)), (1, .int (nI nb)), (0, .ref (ad 0))] → W p l e { frames := 2, cells := 0, slots := 0, locals := 45 } s m args below meth c H locs 0 0 Q (F0 m 20 ls []) := by
  have hG := fun (w : Cond) (h : w ∈ wG) => hts w (List.mem_cons_of_mem _ h)
  intro k
  induction k with
  | zero =>
    intro hk ls hl
    refine lv_iload hx hb d_Mo_post_20 (lv_at hl 0 rfl) ?_
    refine lv_if_lt (tgt := 79) hx hb d_Mo_post_22 (by decide) (fun c_0 => ?_) (fun c_0 => ?_)
    · exact exit ls hl
    · exact absurd (by decide) c_0
  | succ k ih =>
    intro hk ls hl
    have hkb := hbf k (by omega)
    rw [nI_pred k] at hl
    refine lv_iload hx hb d_Mo_post_20 (lv_at hl 0 rfl) ?_
    refine lv_if_lt (tgt := 79) hx hb d_Mo_post_22 (by decide) (fun c_1 => ?_) (fun c_1 => ?_)
    · exact absurd c_1 (nI_pos (by omega))
    · refine lv_lload_n hx hb d_Mo_post_25 rfl (lv_at hl 2 rfl) ?_
      refine lv_aload_n hx hb d_Mo_post_26 rfl (lv_at hl 4 rfl) ?_
      refine va_get (D := (dC, dI)) (ci := 7) (v := .ref (ad 23)) (C := R_Mo) (T := F_Mo) (N := 31) hx hb hG iG_Mo hown hK hP 0 rfl rfl 29 (by decide) (hG _ k_552) (fun _ h9 => h9) rfl d_Mo_post_27 ?_
      refine lv_iload hx hb d_Mo_post_30 (lv_at hl 0 rfl) ?_
      refine ra_iald (n := 20) (j := k) (f := AI 23) hx hb hK hP 23 22 rfl rfl (by omega) (by decide) d_Mo_post_32 ?_
      refine lv_i2l hx hb d_Mo_post_33 rfl ?_
      refine lv_ladd hx hb d_Mo_post_34 ?_
      refine lv_topL (y := (m_tot AI nb - m_tot AI k)) (tot_step AI nb k) ?_
      refine lv_lstore_n (lv' := [(2, .long (m_tot AI nb - m_tot AI k)), (5, .int (nI k)), (4, .int (oI ((fst_ (m_short AI AN AL no nb) (nb - (k + 1)) (k + 1)).map (AN 22)))), (1, .int (nI nb)), (0, .ref (ad 0))]) hx hb d_Mo_post_35 rfl hl (by decide) rfl (fun ls hl => ?_)
      refine lv_aload_n hx hb d_Mo_post_36 rfl (lv_at hl 4 rfl) ?_
      refine lv_aload_n hx hb d_Mo_post_37 rfl (lv_at hl 4 rfl) ?_
      refine va_get (D := (dC, dI)) (ci := 7) (v := .ref (ad 22)) (C := R_Mo) (T := F_Mo) (N := 31) hx hb hG iG_Mo hown hK hP 0 rfl rfl 28 (by decide) (hG _ k_551) (fun _ h9 => h9) rfl d_Mo_post_38 ?_
      refine lv_iload hx hb d_Mo_post_41 (lv_at hl 1 rfl) ?_
      refine rn_iald (n := 20) (j := k) (g := AN 22) hx hb hK hP 22 21 rfl rfl (by omega) (by decide) d_Mo_post_43 ?_
      refine rd_calll (va_runV (As := [.int (nI ((AN 22 k)))]) (rest := []) ⟨hx, hb, hml, hown, hts⟩ (c_Mo_free l dC dI ad cA th yr nf no nt bd nb fl AI AN AB AL ((AN 22 k)) hno (by omega)) (cwV 1 hts (gd_V k_659 k_661 k_10 k_17 k_662) rfl rfl rfl (by decide +kernel) ⟨Nat.le_of_ble_eq_true rfl, Nat.le_of_ble_eq_true rfl⟩) (rd_preV 0 hK hN hP rfl rfl) rfl rfl hl.1 rfl (lv_room (Nat.le_of_ble_eq_true rfl)) d_Mo_post_44 ⟨Nat.zero_le _, Nat.zero_le _⟩) (fun r_2 hr_2 => ?_)
      subst hr_2
      refine lv_aload_n hx hb d_Mo_post_47 rfl (lv_at hl 4 rfl) ?_
      refine lv_aload_n hx hb d_Mo_post_48 rfl (lv_at hl 4 rfl) ?_
      refine va_get (D := (dC, dI)) (ci := 7) (v := .ref (ad 22)) (C := R_Mo) (T := F_Mo) (N := 31) hx hb hG iG_Mo hown hK hP 0 rfl rfl 28 (by decide) (hG _ k_551) (fun _ h9 => h9) rfl d_Mo_post_49 ?_
      refine lv_iload hx hb d_Mo_post_52 (lv_at hl 1 rfl) ?_
      refine rn_iald (n := 20) (j := k) (g := AN 22) hx hb hK hP 22 21 rfl rfl (by omega) (by decide) d_Mo_post_54 ?_
      refine rd_calll (va_runV (As := [.int (nI ((AN 22 k)))]) (rest := [.long (m_free AI AN AL no ((AN 22 k)))]) ⟨hx, hb, hml, hown, hts⟩ (c_Mo_batched l dC dI ad cA th yr nf no nt bd nb fl AI AN AB AL (nI ((AN 22 k))) hnb) (cwV 1 hts (gd_V k_715 k_717 k_12 k_17 k_718) rfl rfl rfl (by decide +kernel) ⟨Nat.le_of_ble_eq_true rfl, Nat.le_of_ble_eq_true rfl⟩) (rd_preV 0 hK hN hP rfl rfl) rfl rfl hl.1 rfl (lv_room (Nat.le_of_ble_eq_true rfl)) d_Mo_post_55 ⟨Nat.zero_le _, Nat.zero_le _⟩) (fun r_3 hr_3 => ?_)
      subst hr_3
      refine lv_ladd hx hb d_Mo_post_58 ?_
      refine lv_lconst (v := 0) hx hb d_Mo_post_59 (by decide) ?_
      refine lc_ge (tgt := 73) hx hb d_Mo_post_60 d_Mo_post_61 (by decide) (fun c_4 => ?_) (fun c_4 => ?_)
      · have hsh : m_short AI AN AL no nb k = false := by simp [m_short, Int64.not_lt.mpr c_4]
        rw [← fst_f (by omega) hsh] at hl
        refine lv_iinc (v := nI k - 1) (lv' := [(5, .int (nI k - 1)), (2, .long (m_tot AI nb - m_tot AI k)), (4, .int (oI ((fst_ (m_short AI AN AL no nb) (nb - k) k).map (AN 22)))), (1, .int (nI nb)), (0, .ref (ad 0))]) hx hb d_Mo_post_73 hl (k := 1) rfl (by rw [Int32.sub_eq_add_neg]; rfl) (by decide) rfl (fun ls hl => ?_)
        refine lv_goto (tgt := 20) hx hb d_Mo_post_76 (by decide) ?_
        exact ih (by omega) ls (lv_sub hl [0, 2, 1, 3, 4] rfl)
      · have hsh : m_short AI AN AL no nb k = true := by simp [m_short, Int64.not_le.mp c_4]
        refine lv_aload_n hx hb d_Mo_post_64 rfl (lv_at hl 4 rfl) ?_
        refine va_get (D := (dC, dI)) (ci := 7) (v := .ref (ad 22)) (C := R_Mo) (T := F_Mo) (N := 31) hx hb hG iG_Mo hown hK hP 0 rfl rfl 28 (by decide) (hG _ k_551) (fun _ h9 => h9) rfl d_Mo_post_65 ?_
        refine lv_iload hx hb d_Mo_post_68 (lv_at hl 1 rfl) ?_
        refine rn_iald (n := 20) (j := k) (g := AN 22) hx hb hK hP 22 21 rfl rfl (by omega) (by decide) d_Mo_post_70 ?_
        refine lv_topI (y := oI ((fst_ (m_short AI AN AL no nb) (nb - k) k).map (AN 22))) (by rw [fst_t (by omega) hsh]; rfl) ?_
        refine lv_istore (lv' := [(4, .int (oI ((fst_ (m_short AI AN AL no nb) (nb - k) k).map (AN 22)))), (2, .long (m_tot AI nb - m_tot AI k)), (5, .int (nI k)), (1, .int (nI nb)), (0, .ref (ad 0))]) hx hb d_Mo_post_71 hl (by decide) rfl (fun ls hl => ?_)
        refine lv_iinc (v := nI k - 1) (lv' := [(5, .int (nI k - 1)), (4, .int (oI ((fst_ (m_short AI AN AL no nb) (nb - k) k).map (AN 22)))), (2, .long (m_tot AI nb - m_tot AI k)), (1, .int (nI nb)), (0, .ref (ad 0))]) hx hb d_Mo_post_73 hl (k := 2) rfl (by rw [Int32.sub_eq_add_neg]; rfl) (by decide) rfl (fun ls hl => ?_)
        refine lv_goto (tgt := 20) hx hb d_Mo_post_76 (by decide) ?_
        exact ih (by omega) ls (lv_sub hl [0, 1, 2, 3, 4] rfl)
set_option maxHeartbeats 4000000 in
set_option maxRecDepth 100000 in
theorem lp_Mo_post2 {p : Program} {l : Launch} {e : Env} {s : State} {m : MethodId} {args : Array Value} {below : List Frame} {meth : Method} {c : Code} {Q : State → Prop} {A : Nat → Prop} {H0 : Heap} {dC : Nat → ClassId} {dI : Nat → Nat → Nat} {ad : Nat → Nat} {cA : Nat → ClassId} {th yr : Int32} {nf no nt : Nat} {bd : Int32} {nb : Nat} {fl : Int32} {AI : Nat → Nat → Int32} {AN : Nat → Nat → Nat} {AB : Nat → Nat → Bool} {AL : Nat → Nat → Int64} (hx : p.tables.exec = Jvm.exec) (hb : c.code = b_Mo_post) (hml : c.maxLocals = 6) (hown : s.vm.findClass R_Mo = some m.cls) (hts : ∀ w ∈ w_Mo_post, w.before args s = true) (hK : va_K (dC, dI) classes (mtys cA) s) (hN : NK s) (hnf : nf ≤ 30) (hnb : nb ≤ 20) (hbf : ∀ r, r < nb → AN 22 r < nf)
    (exit : ∀ (H : Heap) (locs : List Loc) (ls : Array Slot), va_P (dC, dI) classes (mw ad cA th yr nf no nt bd nb fl AI AN AB (va_up AL 2 (m_posted AI AN (AL 2) nb))) H → va_D A (mw ad cA th yr nf no nt bd nb fl AI AN AB (va_up AL 2 (m_posted AI AN (AL 2) nb))) → va_S A H0 H locs → lv_has ls 6 [(5, .int (nI nb)), (1, .int (nI nb)), (0, .ref (ad 0))] → W p l e { frames := 2, cells := 0, slots := 0, locals := 45 } s m args below meth c H locs 0 0 Q (F0 m 161 ls [])) :
    ∀ (n i : Nat), i ≤ nb → nb + 1 ≤ i + n → ∀ (H : Heap) (locs : List Loc) (ls : Array Slot), va_P (dC, dI) classes (mw ad cA th yr nf no nt bd nb fl AI AN AB (va_up AL 2 (m_posted AI AN (AL 2) i))) H → va_D A (mw ad cA th yr nf no nt bd nb fl AI AN AB (va_up AL 2 (m_posted AI AN (AL 2) i))) → va_S A H0 H locs → lv_has ls 6 [(5, .int (nI i)), (1, .int (nI nb)), (0, .ref (ad 0))] → W p l e { frames := 2, cells := 0, slots := 0, locals := 45 } s m args below meth c H locs 0 0 Q (F0 m 126 ls []) := by
  have hG := fun (w : Cond) (h : w ∈ wG) => hts w (List.mem_cons_of_mem _ h)
  intro n
  induction n with
  | zero =>
    intro i h1 h2
    omega
  | succ n ih =>
    intro i hi hin H locs ls hP hD hS hl
    refine lv_iload hx hb d_Mo_post_126 (lv_at hl 0 rfl) ?_
    refine lv_iload_n hx hb d_Mo_post_128 rfl (lv_at hl 1 rfl) ?_
    refine lv_icmp_ge (tgt := 161) hx hb d_Mo_post_129 (by decide) (fun c_1 => ?_) (fun c_1 => ?_)
    · obtain rfl : i = nb := by have := (nI_leI (by omega) (by omega)).mp c_1; omega
      exact exit H locs ls hP hD hS (lv_sub hl [0, 1, 2] rfl)
    · have hlt : i < nb := by have h9 := c_1; rw [nI_leI (by omega) (by omega)] at h9; omega
      have hib := hbf i hlt
      refine lv_aload_n hx hb d_Mo_post_132 rfl (lv_at hl 2 rfl) ?_
      refine va_get (D := (dC, dI)) (ci := 7) (v := .ref (ad 2)) (C := R_Mo) (T := F_Mo) (N := 31) hx hb hG iG_Mo hown hK hP 0 rfl rfl 4 (by decide) (hG _ k_527) (fun _ h9 => h9) rfl d_Mo_post_133 ?_
      refine lv_aload_n hx hb d_Mo_post_136 rfl (lv_at hl 2 rfl) ?_
      refine va_get (D := (dC, dI)) (ci := 7) (v := .ref (ad 22)) (C := R_Mo) (T := F_Mo) (N := 31) hx hb hG iG_Mo hown hK hP 0 rfl rfl 28 (by decide) (hG _ k_551) (fun _ h9 => h9) rfl d_Mo_post_137 ?_
      refine lv_iload hx hb d_Mo_post_140 (lv_at hl 0 rfl) ?_
      refine rn_iald (n := 20) (j := i) (g := AN 22) hx hb hK hP 22 21 rfl rfl (by omega) (by decide) d_Mo_post_142 ?_
      refine lv_dup2_11 hx hb d_Mo_post_143 rfl rfl ?_
      refine ra_lald (n := 30) (j := ((AN 22 i))) (f := (m_posted AI AN (AL 2) i)) hx hb hK hP 2 1 rfl rfl (by omega) (by decide) d_Mo_post_144 ?_
      refine lv_aload_n hx hb d_Mo_post_145 rfl (lv_at hl 2 rfl) ?_
      refine va_get (D := (dC, dI)) (ci := 7) (v := .ref (ad 23)) (C := R_Mo) (T := F_Mo) (N := 31) hx hb hG iG_Mo hown hK hP 0 rfl rfl 29 (by decide) (hG _ k_552) (fun _ h9 => h9) rfl d_Mo_post_146 ?_
      refine lv_iload hx hb d_Mo_post_149 (lv_at hl 0 rfl) ?_
      refine ra_iald (n := 20) (j := i) (f := AI 23) hx hb hK hP 23 22 rfl rfl (by omega) (by decide) d_Mo_post_151 ?_
      refine lv_i2l hx hb d_Mo_post_152 rfl ?_
      refine lv_ladd hx hb d_Mo_post_153 ?_
      refine ra_last (n := 30) (j := ((AN 22 i))) (f := (m_posted AI AN (AL 2) i)) hx hb hK hP hD hS 2 1 rfl rfl (by omega) (by decide) d_Mo_post_154 (fun H locs hP hD hS => ?_)
      have hP : va_P (dC, dI) classes (mw ad cA th yr nf no nt bd nb fl AI AN AB (va_up (va_up AL 2 (m_posted AI AN (AL 2) i)) 2 (va_up (m_posted AI AN (AL 2) i) ((AN 22 i)) (((m_posted AI AN (AL 2) i) ((AN 22 i))) + ((AI 23 i).toInt64))))) H := hP
      have hD : va_D A (mw ad cA th yr nf no nt bd nb fl AI AN AB (va_up (va_up AL 2 (m_posted AI AN (AL 2) i)) 2 (va_up (m_posted AI AN (AL 2) i) ((AN 22 i)) (((m_posted AI AN (AL 2) i) ((AN 22 i))) + ((AI 23 i).toInt64))))) := hD
      refine lv_iinc (v := nI (i + 1)) (lv' := [(5, .int (nI (i + 1))), (1, .int (nI nb)), (0, .ref (ad 0))]) hx hb d_Mo_post_155 hl (k := 0) rfl (nI_1 i) (by decide) rfl (fun ls hl => ?_)
      refine lv_goto (tgt := 126) hx hb d_Mo_post_158 (by decide) ?_
      exact ih (i + 1) (by omega) (by omega) H locs ls (by rw [post_s]; exact hP) (by rw [post_s]; exact hD) hS (lv_sub hl [0, 1, 2] rfl)
set_option maxHeartbeats 4000000 in
set_option maxRecDepth 100000 in
theorem c_Mo_post (l : Launch) (dC : Nat → ClassId) (dI : Nat → Nat → Nat) (ad : Nat → Nat) (cA : Nat → ClassId) (th yr : Int32) (nf no nt : Nat) (bd : Int32) (nb : Nat) (fl : Int32) (AI : Nat → Nat → Int32) (AN : Nat → Nat → Nat) (AB : Nat → Nat → Bool) (AL : Nat → Nat → Int64) (sz : Nat) (hI : InvM nf no nt nb AI AN) : Met l y_Mo_post w_Mo_post { frames := 2, cells := 0, slots := 0, locals := 45 } (mu_P (dC, dI) classes (mtys cA) (mw ad cA th yr nf no nt bd nb fl AI AN AB AL) sz [.ref (ad 0)]) (va_Qi (fun r u => (r, u) = m_post (th, yr, nf, no, nt, bd, nb, fl, AI, AN, AB, AL) ) (mu_B (dC, dI) classes (mtys cA) (va_A (mw ad cA th yr nf no nt bd nb fl AI AN AB AL) sz) (mwS ad cA)) (va_A (mw ad cA th yr nf no nt bd nb fl AI AN AB AL) sz)) 0 0 (va_A (mw ad cA th yr nf no nt bd nb fl AI AN AB AL) sz) := by
  refine Met.ofW (cc := b_Mo_post) (maxL := 6) (ret := (some .int)) (by decide) rfl ?_
  intro p e s m args below meth c s₁ B hml hv
  obtain ⟨rfl, hsz, hP, hK, hD0, hN⟩ := hv
  have hx := B.exec
  have hb := B.bytes
  have hr := B.returns
  have hts := atoms_spec (ws := w_Mo_post) B.pre
  have hG := fun (w : Cond) (h : w ∈ wG) => hts w (List.mem_cons_of_mem _ h)
  have hown : s.vm.findClass R_Mo = some m.cls := findClass_of_methodNamed B.named
  have hlocks := B.notSynchronized
  subst hsz
  have hD := hD0.self (sz := s.heap.size)
  generalize hAe : va_A (mw ad cA th yr nf no nt bd nb fl AI AN AB AL) s.heap.size = A at hD ⊢
  have hA : ∀ q : Nat, s.heap.size ≤ q → A q := fun q h => by rw [← hAe]; exact Or.inr h
  have hS : va_S A s.heap s.heap [] := va_S.rf
  have hP : va_P (dC, dI) classes (mw ad cA th yr nf no nt bd nb fl AI AN AB AL) s.heap := hP
  have hl := lv_entry ([.ref (ad 0)]) (n := 6) (Nat.le_of_ble_eq_true rfl)
  rw [lg_entry_eq]
  generalize (lg_sl ([.ref (ad 0)]) ++ List.replicate (6 - (lg_sl ([.ref (ad 0)])).length) Slot.unset).toArray = ls at hl ⊢
  have hl : lv_has ls 6 [(0, .ref (ad 0))] := hl
  obtain ⟨hnf, hno, hnt, hnb, hfu, hft, hbf, hrw, hce, hdn⟩ := id hI
  refine lv_aload_n hx hb d_Mo_post_0 rfl (lv_at hl 0 rfl) ?_
  refine lv_iconst (v := 0) hx hb d_Mo_post_1 (by decide) ?_
  refine va_put (D := (dC, dI)) (ci := 7) (v := .int 0) (ty := .int) (C := R_Mo) (T := F_Mo) (N := 31) hx hb hG iG_Mo t_Mo t_Mo_ok n_Mo hown hK hP hD hS 0 rfl rfl 0 (by decide) (hG _ k_523) (fun _ h9 => h9) rfl (by decide +kernel) rfl rfl (Nat.le_of_ble_eq_true rfl) d_Mo_post_2 (fun H locs hP hD hS => ?_)
  have hP : va_P (dC, dI) classes (mw ad cA 0 yr nf no nt bd nb fl AI AN AB AL) H := hP
  have hD : va_D A (mw ad cA 0 yr nf no nt bd nb fl AI AN AB AL) := hD
  refine lv_aload_n hx hb d_Mo_post_5 rfl (lv_at hl 0 rfl) ?_
  refine va_get (D := (dC, dI)) (ci := 7) (v := .int (nI nb)) (C := R_Mo) (T := F_Mo) (N := 31) hx hb hG iG_Mo hown hK hP 0 rfl rfl 27 (by decide) (hG _ k_550) (fun _ h9 => h9) rfl d_Mo_post_6 ?_
  refine lv_istore_n (lv' := [(1, .int (nI nb)), (0, .ref (ad 0))]) hx hb d_Mo_post_9 rfl hl (by decide) rfl (fun ls hl => ?_)
  refine lv_lconst (v := 0) hx hb d_Mo_post_10 (by decide) ?_
  refine lv_lstore_n (lv' := [(2, .long 0), (1, .int (nI nb)), (0, .ref (ad 0))]) hx hb d_Mo_post_11 rfl hl (by decide) rfl (fun ls hl => ?_)
  refine lv_iconst (v := (-1)) hx hb d_Mo_post_12 (by decide) ?_
  refine lv_istore (lv' := [(4, .int (-1)), (2, .long 0), (1, .int (nI nb)), (0, .ref (ad 0))]) hx hb d_Mo_post_13 hl (by decide) rfl (fun ls hl => ?_)
  refine lv_iload_n hx hb d_Mo_post_15 rfl (lv_at hl 2 rfl) ?_
  refine lv_iconst (v := 1) hx hb d_Mo_post_16 (by decide) ?_
  refine lv_isub hx hb d_Mo_post_17 ?_
  refine lv_istore (lv' := [(5, .int (nI nb - 1)), (4, .int (-1)), (2, .long 0), (1, .int (nI nb)), (0, .ref (ad 0))]) hx hb d_Mo_post_18 hl (by decide) rfl (fun ls hl => ?_)
  refine lp_Mo_post1 hx hb hml hown hts hK hN hP hnf hno hnb hbf (fun ls hl => ?_) nb (Nat.le_refl nb) ls ?_
  · have hz : m_tot AI nb - m_tot AI 0 = m_tot AI nb := by show m_tot AI nb - 0 = _; grind
    rw [hz] at hl
    simp only [Nat.sub_zero] at hl
    rcases hfs : fst_ (m_short AI AN AL no nb) nb 0 with _ | r
    · rw [hfs] at hl
      have hl : lv_has ls 6 [(4, .int (-1)), (2, .long (m_tot AI nb)), (1, .int (nI nb)), (0, .ref (ad 0))] := lv_sub hl [1, 2, 3, 4] rfl
      refine lv_iload hx hb d_Mo_post_79 (lv_at hl 0 rfl) ?_
      refine lv_if_ge (tgt := 100) hx hb d_Mo_post_81 (by decide) (fun c_1 => ?_) (fun c_1 => ?_)
      · exact absurd c_1 (by decide)
      · refine lv_lload_n hx hb d_Mo_post_84 rfl (lv_at hl 1 rfl) ?_
        refine lv_lconst (v := 0) hx hb d_Mo_post_85 (by decide) ?_
        refine lc_eq (tgt := 100) hx hb d_Mo_post_86 d_Mo_post_87 (by decide) (fun c_2 => ?_) (fun c_2 => ?_)
        · refine lv_iload hx hb d_Mo_post_100 (lv_at hl 0 rfl) ?_
          refine lv_if_lt (tgt := 123) hx hb d_Mo_post_102 (by decide) (fun c_3 => ?_) (fun c_3 => ?_)
          · refine lv_iconst (v := 0) hx hb d_Mo_post_123 (by decide) ?_
            refine lv_istore (lv' := [(5, .int 0), (4, .int (-1)), (2, .long (m_tot AI nb)), (1, .int (nI nb)), (0, .ref (ad 0))]) hx hb d_Mo_post_124 hl (by decide) rfl (fun ls hl => ?_)
            refine lp_Mo_post2 (th := 0) hx hb hml hown hts hK hN hnf hnb hbf (fun H locs ls hP hD hS hl => ?_) (nb + 1) 0 (by omega) (by omega) H locs ls (by rw [show va_up AL 2 (m_posted AI AN (AL 2) 0) = AL from up_id AL 2]; exact hP) (by rw [show va_up AL 2 (m_posted AI AN (AL 2) 0) = AL from up_id AL 2]; exact hD) hS (lv_sub hl [0, 3, 4] rfl)
            refine lv_aload_n hx hb d_Mo_post_161 rfl (lv_at hl 2 rfl) ?_
            refine lv_iconst (v := 0) hx hb d_Mo_post_162 (by decide) ?_
            refine lv_topI (y := nI 0) rfl ?_
            refine va_put (D := (dC, dI)) (ci := 7) (v := .int (nI 0)) (ty := .int) (C := R_Mo) (T := F_Mo) (N := 31) hx hb hG iG_Mo t_Mo t_Mo_ok n_Mo hown hK hP hD hS 0 rfl rfl 27 (by decide) (hG _ k_550) (fun _ h9 => h9) rfl (by decide +kernel) rfl rfl (Nat.le_of_ble_eq_true rfl) d_Mo_post_163 (fun H locs hP hD hS => ?_)
            have hP : va_P (dC, dI) classes (mw ad cA 0 yr nf no nt bd 0 fl AI AN AB (va_up AL 2 (m_posted AI AN (AL 2) nb))) H := hP
            have hD : va_D A (mw ad cA 0 yr nf no nt bd 0 fl AI AN AB (va_up AL 2 (m_posted AI AN (AL 2) nb))) := hD
            refine lv_iload_n hx hb d_Mo_post_166 rfl (lv_at hl 1 rfl) ?_
            exact W.iret (v := (nI nb)) hx hb hr (fun t ht hW => ⟨⟨_, (0, yr, nf, no, nt, bd, 0, fl, AI, AN, AB, (va_up AL 2 (m_posted AI AN (AL 2) nb))), rfl, (by unfold m_post; dsimp only; rw [bad_none hfs c_2] <;> rfl), by rw [ht]; exact hP, va_K.moved hW.alike hK, hD⟩, hS.F ht⟩) hS.2.2 d_Mo_post_167
          · exact absurd c_3 (by decide)
        · have hb1 : 1 ≤ nb := by
            rcases Nat.eq_zero_or_pos nb with z | z
            · exact absurd (by rw [z]; rfl) c_2
            · exact z
          have hrb := hbf (nb - 1) (by omega)
          refine lv_aload_n hx hb d_Mo_post_90 rfl (lv_at hl 3 rfl) ?_
          refine va_get (D := (dC, dI)) (ci := 7) (v := .ref (ad 22)) (C := R_Mo) (T := F_Mo) (N := 31) hx hb hG iG_Mo hown hK hP 0 rfl rfl 28 (by decide) (hG _ k_551) (fun _ h9 => h9) rfl d_Mo_post_91 ?_
          refine lv_iload_n hx hb d_Mo_post_94 rfl (lv_at hl 2 rfl) ?_
          refine lv_iconst (v := 1) hx hb d_Mo_post_95 (by decide) ?_
          refine lv_isub hx hb d_Mo_post_96 ?_
          refine lv_topI (y := nI (nb - 1)) (pk_sub (a := nb) (b := 1) (by omega)) ?_
          refine rn_iald (n := 20) (j := (nb - 1)) (g := AN 22) hx hb hK hP 22 21 rfl rfl (by omega) (by decide) d_Mo_post_97 ?_
          refine lv_istore (lv' := [(4, .int (nI ((AN 22 (nb - 1))))), (2, .long (m_tot AI nb)), (1, .int (nI nb)), (0, .ref (ad 0))]) hx hb d_Mo_post_98 hl (by decide) rfl (fun ls hl => ?_)
          refine lv_iload hx hb d_Mo_post_100 (lv_at hl 0 rfl) ?_
          refine lv_if_lt (tgt := 123) hx hb d_Mo_post_102 (by decide) (fun c_4 => ?_) (fun c_4 => ?_)
          · exact absurd c_4 (nI_pos (by omega))
          · refine lv_aload_n hx hb d_Mo_post_105 rfl (lv_at hl 3 rfl) ?_
            refine lv_iload hx hb d_Mo_post_106 (lv_at hl 0 rfl) ?_
            refine va_put (D := (dC, dI)) (ci := 7) (v := .int (nI ((AN 22 (nb - 1))))) (ty := .int) (C := R_Mo) (T := F_Mo) (N := 31) hx hb hG iG_Mo t_Mo t_Mo_ok n_Mo hown hK hP hD hS 0 rfl rfl 30 (by decide) (hG _ k_553) (fun _ h9 => h9) rfl (by decide +kernel) rfl rfl (Nat.le_of_ble_eq_true rfl) d_Mo_post_108 (fun H locs hP hD hS => ?_)
            have hP : va_P (dC, dI) classes (mw ad cA 0 yr nf no nt bd nb (nI ((AN 22 (nb - 1)))) AI AN AB AL) H := hP
            have hD : va_D A (mw ad cA 0 yr nf no nt bd nb (nI ((AN 22 (nb - 1)))) AI AN AB AL) := hD
            refine lv_aload_n hx hb d_Mo_post_111 rfl (lv_at hl 3 rfl) ?_
            refine lv_iconst (v := 0) hx hb d_Mo_post_112 (by decide) ?_
            refine lv_topI (y := nI 0) rfl ?_
            refine va_put (D := (dC, dI)) (ci := 7) (v := .int (nI 0)) (ty := .int) (C := R_Mo) (T := F_Mo) (N := 31) hx hb hG iG_Mo t_Mo t_Mo_ok n_Mo hown hK hP hD hS 0 rfl rfl 27 (by decide) (hG _ k_550) (fun _ h9 => h9) rfl (by decide +kernel) rfl rfl (Nat.le_of_ble_eq_true rfl) d_Mo_post_113 (fun H locs hP hD hS => ?_)
            have hP : va_P (dC, dI) classes (mw ad cA 0 yr nf no nt bd 0 (nI ((AN 22 (nb - 1)))) AI AN AB AL) H := hP
            have hD : va_D A (mw ad cA 0 yr nf no nt bd 0 (nI ((AN 22 (nb - 1)))) AI AN AB AL) := hD
            refine lv_aload_n hx hb d_Mo_post_116 rfl (lv_at hl 3 rfl) ?_
            refine lv_iconst (v := 1) hx hb d_Mo_post_117 (by decide) ?_
            refine va_put (D := (dC, dI)) (ci := 7) (v := .int 1) (ty := .int) (C := R_Mo) (T := F_Mo) (N := 31) hx hb hG iG_Mo t_Mo t_Mo_ok n_Mo hown hK hP hD hS 0 rfl rfl 0 (by decide) (hG _ k_523) (fun _ h9 => h9) rfl (by decide +kernel) rfl rfl (Nat.le_of_ble_eq_true rfl) d_Mo_post_118 (fun H locs hP hD hS => ?_)
            have hP : va_P (dC, dI) classes (mw ad cA 1 yr nf no nt bd 0 (nI ((AN 22 (nb - 1)))) AI AN AB AL) H := hP
            have hD : va_D A (mw ad cA 1 yr nf no nt bd 0 (nI ((AN 22 (nb - 1)))) AI AN AB AL) := hD
            refine lv_iconst (v := 0) hx hb d_Mo_post_121 (by decide) ?_
            exact W.iret (v := 0) hx hb hr (fun t ht hW => ⟨⟨_, (1, yr, nf, no, nt, bd, 0, nI ((AN 22 (nb - 1))), AI, AN, AB, AL), rfl, (by unfold m_post; dsimp only; rw [bad_sum hfs c_2] <;> rfl), by rw [ht]; exact hP, va_K.moved hW.alike hK, hD⟩, hS.F ht⟩) hS.2.2 d_Mo_post_122
    · obtain ⟨-, hr2, -⟩ := fst_lt hfs
      have hrb := hbf r (by omega)
      rw [hfs] at hl
      have hl : lv_has ls 6 [(4, .int (nI (AN 22 r))), (2, .long (m_tot AI nb)), (1, .int (nI nb)), (0, .ref (ad 0))] := lv_sub hl [1, 2, 3, 4] rfl
      refine lv_iload hx hb d_Mo_post_79 (lv_at hl 0 rfl) ?_
      refine lv_if_ge (tgt := 100) hx hb d_Mo_post_81 (by decide) (fun c_5 => ?_) (fun c_5 => ?_)
      · refine lv_iload hx hb d_Mo_post_100 (lv_at hl 0 rfl) ?_
        refine lv_if_lt (tgt := 123) hx hb d_Mo_post_102 (by decide) (fun c_6 => ?_) (fun c_6 => ?_)
        · exact absurd c_6 (nI_pos (by omega))
        · refine lv_aload_n hx hb d_Mo_post_105 rfl (lv_at hl 3 rfl) ?_
          refine lv_iload hx hb d_Mo_post_106 (lv_at hl 0 rfl) ?_
          refine va_put (D := (dC, dI)) (ci := 7) (v := .int (nI (AN 22 r))) (ty := .int) (C := R_Mo) (T := F_Mo) (N := 31) hx hb hG iG_Mo t_Mo t_Mo_ok n_Mo hown hK hP hD hS 0 rfl rfl 30 (by decide) (hG _ k_553) (fun _ h9 => h9) rfl (by decide +kernel) rfl rfl (Nat.le_of_ble_eq_true rfl) d_Mo_post_108 (fun H locs hP hD hS => ?_)
          have hP : va_P (dC, dI) classes (mw ad cA 0 yr nf no nt bd nb (nI (AN 22 r)) AI AN AB AL) H := hP
          have hD : va_D A (mw ad cA 0 yr nf no nt bd nb (nI (AN 22 r)) AI AN AB AL) := hD
          refine lv_aload_n hx hb d_Mo_post_111 rfl (lv_at hl 3 rfl) ?_
          refine lv_iconst (v := 0) hx hb d_Mo_post_112 (by decide) ?_
          refine lv_topI (y := nI 0) rfl ?_
          refine va_put (D := (dC, dI)) (ci := 7) (v := .int (nI 0)) (ty := .int) (C := R_Mo) (T := F_Mo) (N := 31) hx hb hG iG_Mo t_Mo t_Mo_ok n_Mo hown hK hP hD hS 0 rfl rfl 27 (by decide) (hG _ k_550) (fun _ h9 => h9) rfl (by decide +kernel) rfl rfl (Nat.le_of_ble_eq_true rfl) d_Mo_post_113 (fun H locs hP hD hS => ?_)
          have hP : va_P (dC, dI) classes (mw ad cA 0 yr nf no nt bd 0 (nI (AN 22 r)) AI AN AB AL) H := hP
          have hD : va_D A (mw ad cA 0 yr nf no nt bd 0 (nI (AN 22 r)) AI AN AB AL) := hD
          refine lv_aload_n hx hb d_Mo_post_116 rfl (lv_at hl 3 rfl) ?_
          refine lv_iconst (v := 1) hx hb d_Mo_post_117 (by decide) ?_
          refine va_put (D := (dC, dI)) (ci := 7) (v := .int 1) (ty := .int) (C := R_Mo) (T := F_Mo) (N := 31) hx hb hG iG_Mo t_Mo t_Mo_ok n_Mo hown hK hP hD hS 0 rfl rfl 0 (by decide) (hG _ k_523) (fun _ h9 => h9) rfl (by decide +kernel) rfl rfl (Nat.le_of_ble_eq_true rfl) d_Mo_post_118 (fun H locs hP hD hS => ?_)
          have hP : va_P (dC, dI) classes (mw ad cA 1 yr nf no nt bd 0 (nI (AN 22 r)) AI AN AB AL) H := hP
          have hD : va_D A (mw ad cA 1 yr nf no nt bd 0 (nI (AN 22 r)) AI AN AB AL) := hD
          refine lv_iconst (v := 0) hx hb d_Mo_post_121 (by decide) ?_
          exact W.iret (v := 0) hx hb hr (fun t ht hW => ⟨⟨_, (1, yr, nf, no, nt, bd, 0, nI (AN 22 r), AI, AN, AB, AL), rfl, (by unfold m_post; dsimp only; rw [bad_some hfs] <;> rfl), by rw [ht]; exact hP, va_K.moved hW.alike hK, hD⟩, hS.F ht⟩) hS.2.2 d_Mo_post_122
      · exact absurd (nI_pos' (by omega)) c_5
  · rw [Nat.sub_self, show m_tot AI nb - m_tot AI nb = 0 by grind]
    exact lv_sub hl [0, 1, 2, 3, 4] rfl
end
