theorem k_0 : (Jvm.Cond.selects "FundBook" { cls := "FundBook", name := "accountAt", desc := "(I)LFundBook$Account;" } { cls := "FundBook", name := "accountAt", desc := "(I)LFundBook$Account;" }) ∈ wG := wG_in 0 (by decide +kernel) rfl
theorem k_1 : (Jvm.Cond.selects "FundBook" { cls := "FundBook", name := "purchaseAt", desc := "(I)LFundBook$Purchase;" } { cls := "FundBook", name := "purchaseAt", desc := "(I)LFundBook$Purchase;" }) ∈ wG := wG_in 1 (by decide +kernel) rfl
theorem k_2 : (Jvm.Cond.selects "FundBook" { cls := "FundBook", name := "isCurrency", desc := "(I)Z" } { cls := "FundBook", name := "isCurrency", desc := "(I)Z" }) ∈ wG := wG_in 2 (by decide +kernel) rfl
theorem k_3 : (Jvm.Cond.selects "FundBook" { cls := "FundBook", name := "rateOn", desc := "(II)LFundBook$Rate;" } { cls := "FundBook", name := "rateOn", desc := "(II)LFundBook$Rate;" }) ∈ wG := wG_in 3 (by decide +kernel) rfl
theorem k_4 : (Jvm.Cond.selects "FundBook" { cls := "FundBook", name := "moveAt", desc := "(I)LFundBook$Move;" } { cls := "FundBook", name := "moveAt", desc := "(I)LFundBook$Move;" }) ∈ wG := wG_in 4 (by decide +kernel) rfl
theorem k_5 : (Jvm.Cond.selects "FundBook" { cls := "FundBook", name := "givenToAll", desc := "()J" } { cls := "FundBook", name := "givenToAll", desc := "()J" }) ∈ wG := wG_in 5 (by decide +kernel) rfl
theorem k_6 : (Jvm.Cond.selects "java/lang/Throwable" { cls := "java/lang/Throwable", name := "fillInStackTrace", desc := "(I)Ljava/lang/Throwable;" } { cls := "java/lang/Throwable", name := "fillInStackTrace", desc := "(I)Ljava/lang/Throwable;" }) ∈ wG := wG_in 6 (by decide +kernel) rfl
theorem k_7 : (Jvm.Cond.selects "FundBookModel" { cls := "FundBookModel", name := "isFund", desc := "(I)Z" } { cls := "FundBookModel", name := "isFund", desc := "(I)Z" }) ∈ wG := wG_in 7 (by decide +kernel) rfl
theorem k_8 : (Jvm.Cond.selects "FundBookModel" { cls := "FundBookModel", name := "fits", desc := "(IJJJ)Z" } { cls := "FundBookModel", name := "fits", desc := "(IJJJ)Z" }) ∈ wG := wG_in 8 (by decide +kernel) rfl
theorem k_9 : (Jvm.Cond.selects "FundBookModel" { cls := "FundBookModel", name := "encumbered", desc := "(I)J" } { cls := "FundBookModel", name := "encumbered", desc := "(I)J" }) ∈ wG := wG_in 9 (by decide +kernel) rfl
theorem k_10 : (Jvm.Cond.selects "FundBookModel" { cls := "FundBookModel", name := "free", desc := "(I)J" } { cls := "FundBookModel", name := "free", desc := "(I)J" }) ∈ wG := wG_in 10 (by decide +kernel) rfl
theorem k_11 : (Jvm.Cond.selects "FundBookModel" { cls := "FundBookModel", name := "rowOn", desc := "(II)I" } { cls := "FundBookModel", name := "rowOn", desc := "(II)I" }) ∈ wG := wG_in 11 (by decide +kernel) rfl
theorem k_12 : (Jvm.Cond.selects "FundBookModel" { cls := "FundBookModel", name := "batched", desc := "(I)J" } { cls := "FundBookModel", name := "batched", desc := "(I)J" }) ∈ wG := wG_in 12 (by decide +kernel) rfl
theorem k_13 : (Jvm.Cond.initialized "FundBookLaw") ∈ wG := wG_in 13 (by decide +kernel) rfl
theorem k_14 : (Jvm.Cond.initialized "FundBook") ∈ wG := wG_in 14 (by decide +kernel) rfl
theorem k_15 : (Jvm.Cond.initialized "FundBook$Batch") ∈ wG := wG_in 15 (by decide +kernel) rfl
theorem k_16 : (Jvm.Cond.initialized "java/lang/Math") ∈ wG := wG_in 16 (by decide +kernel) rfl
theorem k_17 : (Jvm.Cond.initialized "FundBookModel") ∈ wG := wG_in 17 (by decide +kernel) rfl
theorem k_18 : (Jvm.Cond.initialized "FundBook$Account") ∈ wG := wG_in 18 (by decide +kernel) rfl
theorem k_19 : (Jvm.Cond.initialized "FundBook$Purchase") ∈ wG := wG_in 19 (by decide +kernel) rfl
theorem k_20 : (Jvm.Cond.initialized "FundBook$Approvals") ∈ wG := wG_in 20 (by decide +kernel) rfl
theorem k_21 : (Jvm.Cond.initialized "FundBook$Rate") ∈ wG := wG_in 21 (by decide +kernel) rfl
theorem k_22 : (Jvm.Cond.initialized "FundBook$Move") ∈ wG := wG_in 22 (by decide +kernel) rfl
theorem k_23 : (Jvm.Cond.initialized "java/lang/Throwable") ∈ wG := wG_in 23 (by decide +kernel) rfl
theorem k_24 : (Jvm.Cond.initialized "java/lang/Exception") ∈ wG := wG_in 24 (by decide +kernel) rfl
theorem k_25 : (Jvm.Cond.initialized "java/lang/RuntimeException") ∈ wG := wG_in 25 (by decide +kernel) rfl
theorem k_26 : (Jvm.Cond.initialized "java/lang/IllegalStateException") ∈ wG := wG_in 26 (by decide +kernel) rfl
theorem k_27 : (Jvm.Cond.classLink "FundBookLaw" 8 "FundBook") ∈ wG := wG_in 27 (by decide +kernel) rfl
theorem k_28 : (Jvm.Cond.instantiable "FundBook" 11) ∈ wG := wG_in 28 (by decide +kernel) rfl
theorem k_29 : (Jvm.Cond.methodLink "FundBookLaw" 21 { cls := "FundBook", name := "<init>", desc := "(I)V" }) ∈ wG := wG_in 29 (by decide +kernel) rfl
theorem k_30 : (Jvm.Cond.instanceMethod { cls := "FundBook", name := "<init>", desc := "(I)V" }) ∈ wG := wG_in 30 (by decide +kernel) rfl
theorem k_31 : (Jvm.Cond.code { cls := "FundBook", name := "<init>", desc := "(I)V" } prog_1_method_1_code 2 none) ∈ wG := wG_in 31 (by decide +kernel) rfl
theorem k_32 : (Jvm.Cond.methodLink "FundBook" 1 { cls := "java/lang/Object", name := "<init>", desc := "()V" }) ∈ wG := wG_in 32 (by decide +kernel) rfl
theorem k_33 : (Jvm.Cond.instanceMethod { cls := "java/lang/Object", name := "<init>", desc := "()V" }) ∈ wG := wG_in 33 (by decide +kernel) rfl
theorem k_34 : (Jvm.Cond.code { cls := "java/lang/Object", name := "<init>", desc := "()V" } object_method_1_code 1 none) ∈ wG := wG_in 34 (by decide +kernel) rfl
theorem k_35 : (Jvm.Cond.classLink "FundBook" 9 "FundBook$Account") ∈ wG := wG_in 35 (by decide +kernel) rfl
theorem k_36 : (Jvm.Cond.arrayOver (.object "FundBook$Account")) ∈ lw_tbl := List.mem_of_getElem? (i := 36) (by decide +kernel)
theorem k_37 : (Jvm.Cond.classLink "FundBook" 15 "FundBook$Purchase") ∈ wG := wG_in 37 (by decide +kernel) rfl
theorem k_38 : (Jvm.Cond.arrayOver (.object "FundBook$Purchase")) ∈ lw_tbl := List.mem_of_getElem? (i := 38) (by decide +kernel)
theorem k_39 : (Jvm.Cond.classLink "FundBook" 21 "FundBook$Move") ∈ wG := wG_in 39 (by decide +kernel) rfl
theorem k_40 : (Jvm.Cond.arrayOver (.object "FundBook$Move")) ∈ lw_tbl := List.mem_of_getElem? (i := 40) (by decide +kernel)
theorem k_41 : (Jvm.Cond.classLink "FundBook" 27 "FundBook$Rate") ∈ wG := wG_in 41 (by decide +kernel) rfl
theorem k_42 : (Jvm.Cond.arrayOver (.object "FundBook$Rate")) ∈ lw_tbl := List.mem_of_getElem? (i := 42) (by decide +kernel)
theorem k_43 : (Jvm.Cond.classLink "FundBook" 33 "FundBook$Batch") ∈ wG := wG_in 43 (by decide +kernel) rfl
theorem k_44 : (Jvm.Cond.instantiable "FundBook$Batch" 3) ∈ wG := wG_in 44 (by decide +kernel) rfl
theorem k_45 : (Jvm.Cond.methodLinkNest "FundBook" 35 { cls := "FundBook$Batch", name := "<init>", desc := "()V" } "FundBook") ∈ wN := wN_in 45 (by decide +kernel) rfl
theorem k_46 : (Jvm.Cond.instanceMethod { cls := "FundBook$Batch", name := "<init>", desc := "()V" }) ∈ wG := wG_in 46 (by decide +kernel) rfl
theorem k_47 : (Jvm.Cond.code { cls := "FundBook$Batch", name := "<init>", desc := "()V" } prog_4_method_1_code 1 none) ∈ wG := wG_in 47 (by decide +kernel) rfl
theorem k_48 : (Jvm.Cond.methodLink "FundBook$Batch" 3 { cls := "java/lang/Object", name := "<init>", desc := "()V" }) ∈ wG := wG_in 48 (by decide +kernel) rfl
theorem k_49 : (Jvm.Cond.classLink "FundBook$Batch" 9 "FundBook$Account") ∈ wG := wG_in 49 (by decide +kernel) rfl
theorem k_50 : (Jvm.Cond.fieldLink "FundBook$Batch" 11 "FundBook$Batch" "rows" "[LFundBook$Account;") ∈ wG := wG_in 50 (by decide +kernel) rfl
theorem k_51 : (Jvm.Cond.fieldLink "FundBook$Batch" 17 "FundBook$Batch" "count" "I") ∈ wG := wG_in 51 (by decide +kernel) rfl
theorem k_52 : (Jvm.Cond.fieldLinkNest "FundBook" 221 "FundBook$Batch" "count" "I" "FundBook") ∈ wN := wN_in 52 (by decide +kernel) rfl
theorem k_53 : (Jvm.Cond.fieldLink "FundBook$Batch" 29 "FundBook$Batch" "total" "J") ∈ wG := wG_in 53 (by decide +kernel) rfl
theorem k_61 : (Jvm.Cond.methodLink "FundBook" 47 { cls := "java/lang/Math", name := "min", desc := "(II)I" }) ∈ wG := wG_in 61 (by decide +kernel) rfl
theorem k_62 : (Jvm.Cond.static { cls := "java/lang/Math", name := "min", desc := "(II)I" }) ∈ wG := wG_in 62 (by decide +kernel) rfl
theorem k_63 : (Jvm.Cond.code { cls := "java/lang/Math", name := "min", desc := "(II)I" } prog_12_method_69_code 2 (some .int)) ∈ wG := wG_in 63 (by decide +kernel) rfl
theorem k_64 : (Jvm.Cond.methodLink "FundBook" 53 { cls := "java/lang/Math", name := "max", desc := "(II)I" }) ∈ wG := wG_in 64 (by decide +kernel) rfl
theorem k_65 : (Jvm.Cond.static { cls := "java/lang/Math", name := "max", desc := "(II)I" }) ∈ wG := wG_in 65 (by decide +kernel) rfl
theorem k_66 : (Jvm.Cond.code { cls := "java/lang/Math", name := "max", desc := "(II)I" } prog_12_method_65_code 2 (some .int)) ∈ wG := wG_in 66 (by decide +kernel) rfl
theorem k_67 : (Jvm.Cond.fieldLink "FundBook" 11 "FundBook" "accounts" "[LFundBook$Account;") ∈ wG := wG_in 67 (by decide +kernel) rfl
theorem k_68 : (Jvm.Cond.fieldLink "FundBook" 17 "FundBook" "purchases" "[LFundBook$Purchase;") ∈ wG := wG_in 68 (by decide +kernel) rfl
theorem k_69 : (Jvm.Cond.fieldLink "FundBook" 23 "FundBook" "moves" "[LFundBook$Move;") ∈ wG := wG_in 69 (by decide +kernel) rfl
theorem k_70 : (Jvm.Cond.fieldLink "FundBook" 29 "FundBook" "latestRates" "[LFundBook$Rate;") ∈ wG := wG_in 70 (by decide +kernel) rfl
theorem k_71 : (Jvm.Cond.fieldLink "FundBook" 36 "FundBook" "batch" "LFundBook$Batch;") ∈ wG := wG_in 71 (by decide +kernel) rfl
theorem k_72 : (Jvm.Cond.fieldLink "FundBook" 65 "FundBook" "accountCount" "I") ∈ wG := wG_in 72 (by decide +kernel) rfl
theorem k_73 : (Jvm.Cond.fieldLink "FundBook" 86 "FundBook" "purchaseCount" "I") ∈ wG := wG_in 73 (by decide +kernel) rfl
theorem k_74 : (Jvm.Cond.fieldLink "FundBook" 188 "FundBook" "moveCount" "I") ∈ wG := wG_in 74 (by decide +kernel) rfl
theorem k_75 : (Jvm.Cond.fieldLink "FundBook" 56 "FundBook" "currentYear" "I") ∈ wG := wG_in 75 (by decide +kernel) rfl
theorem k_76 : (Jvm.Cond.fieldLink "FundBook" 40 "FundBook" "tolerance" "I") ∈ wG := wG_in 76 (by decide +kernel) rfl
theorem k_77 : (Jvm.Cond.fieldLink "FundBook" 44 "FundBook" "failingFund" "I") ∈ wG := wG_in 77 (by decide +kernel) rfl
theorem k_101 : (Jvm.Cond.methodLink "FundBookLaw" 27 { cls := "FundBook", name := "fund", desc := "(I)I" }) ∈ wG := wG_in 101 (by decide +kernel) rfl
theorem k_102 : (Jvm.Cond.instanceMethod { cls := "FundBook", name := "fund", desc := "(I)I" }) ∈ wG := wG_in 102 (by decide +kernel) rfl
theorem k_103 : (Jvm.Cond.selects "FundBook" { cls := "FundBook", name := "fund", desc := "(I)I" } { cls := "FundBook", name := "fund", desc := "(I)I" }) ∈ wG := wG_in 103 (by decide +kernel) rfl
theorem k_104 : (Jvm.Cond.code { cls := "FundBook", name := "fund", desc := "(I)I" } prog_1_method_2_code 3 (some .int)) ∈ wG := wG_in 104 (by decide +kernel) rfl
theorem k_105 : (Jvm.Cond.constantLong "FundBook" 59 2) ∈ wG := wG_in 105 (by decide +kernel) rfl
theorem k_106 : (Jvm.Cond.methodLink "FundBook" 61 { cls := "FundBook", name := "isWithin", desc := "(JJJ)Z" }) ∈ wG := wG_in 106 (by decide +kernel) rfl
theorem k_107 : (Jvm.Cond.static { cls := "FundBook", name := "isWithin", desc := "(JJJ)Z" }) ∈ wG := wG_in 107 (by decide +kernel) rfl
theorem k_108 : (Jvm.Cond.code { cls := "FundBook", name := "isWithin", desc := "(JJJ)Z" } prog_1_method_25_code 6 (some .boolean)) ∈ wG := wG_in 108 (by decide +kernel) rfl
theorem k_109 : (Jvm.Cond.instantiable "FundBook$Account" 6) ∈ wG := wG_in 109 (by decide +kernel) rfl
theorem k_110 : (Jvm.Cond.methodLink "FundBook" 68 { cls := "FundBook$Account", name := "<init>", desc := "(II)V" }) ∈ wG := wG_in 110 (by decide +kernel) rfl
theorem k_111 : (Jvm.Cond.instanceMethod { cls := "FundBook$Account", name := "<init>", desc := "(II)V" }) ∈ wG := wG_in 111 (by decide +kernel) rfl
theorem k_112 : (Jvm.Cond.code { cls := "FundBook$Account", name := "<init>", desc := "(II)V" } prog_2_method_1_code 3 none) ∈ wG := wG_in 112 (by decide +kernel) rfl
theorem k_113 : (Jvm.Cond.methodLink "FundBook$Account" 3 { cls := "java/lang/Object", name := "<init>", desc := "()V" }) ∈ wG := wG_in 113 (by decide +kernel) rfl
theorem k_114 : (Jvm.Cond.fieldLink "FundBook$Account" 9 "FundBook$Account" "number" "I") ∈ wG := wG_in 114 (by decide +kernel) rfl
theorem k_115 : (Jvm.Cond.fieldLinkNest "FundBook" 230 "FundBook$Account" "number" "I" "FundBook") ∈ wN := wN_in 115 (by decide +kernel) rfl
theorem k_116 : (Jvm.Cond.fieldLink "FundBook$Account" 15 "FundBook$Account" "carry" "I") ∈ wG := wG_in 116 (by decide +kernel) rfl
theorem k_117 : (Jvm.Cond.fieldLink "FundBook$Account" 18 "FundBook$Account" "given" "J") ∈ wG := wG_in 117 (by decide +kernel) rfl
theorem k_118 : (Jvm.Cond.fieldLinkNest "FundBook" 80 "FundBook$Account" "given" "J" "FundBook") ∈ wN := wN_in 118 (by decide +kernel) rfl
theorem k_119 : (Jvm.Cond.fieldLinkNest "FundBook$Move" 42 "FundBook$Account" "given" "J" "FundBook") ∈ wN := wN_in 119 (by decide +kernel) rfl
theorem k_120 : (Jvm.Cond.fieldLinkNest "FundBook$Batch" 36 "FundBook$Account" "given" "J" "FundBook") ∈ wN := wN_in 120 (by decide +kernel) rfl
theorem k_121 : (Jvm.Cond.fieldLink "FundBook$Account" 22 "FundBook$Account" "encumbered" "J") ∈ wG := wG_in 121 (by decide +kernel) rfl
theorem k_122 : (Jvm.Cond.fieldLinkNest "FundBook$Purchase" 36 "FundBook$Account" "encumbered" "J" "FundBook") ∈ wN := wN_in 122 (by decide +kernel) rfl
theorem k_123 : (Jvm.Cond.fieldLinkNest "FundBook" 172 "FundBook$Account" "encumbered" "J" "FundBook") ∈ wN := wN_in 123 (by decide +kernel) rfl
theorem k_124 : (Jvm.Cond.fieldLink "FundBook$Account" 25 "FundBook$Account" "spent" "J") ∈ wG := wG_in 124 (by decide +kernel) rfl
theorem k_125 : (Jvm.Cond.fieldLinkNest "FundBook$Purchase" 55 "FundBook$Account" "spent" "J" "FundBook") ∈ wN := wN_in 125 (by decide +kernel) rfl
theorem k_126 : (Jvm.Cond.fieldLinkNest "FundBook" 245 "FundBook$Account" "spent" "J" "FundBook") ∈ wN := wN_in 126 (by decide +kernel) rfl
theorem k_127 : (Jvm.Cond.fieldLinkNest "FundBook$Batch" 25 "FundBook$Account" "pending" "J" "FundBook") ∈ wN := wN_in 127 (by decide +kernel) rfl
theorem k_141 : (Jvm.Cond.methodLink "FundBookLaw" 34 { cls := "FundBook", name := "give", desc := "(IJ)I" }) ∈ wG := wG_in 141 (by decide +kernel) rfl
theorem k_142 : (Jvm.Cond.instanceMethod { cls := "FundBook", name := "give", desc := "(IJ)I" }) ∈ wG := wG_in 142 (by decide +kernel) rfl
theorem k_143 : (Jvm.Cond.selects "FundBook" { cls := "FundBook", name := "give", desc := "(IJ)I" } { cls := "FundBook", name := "give", desc := "(IJ)I" }) ∈ wG := wG_in 143 (by decide +kernel) rfl
theorem k_144 : (Jvm.Cond.code { cls := "FundBook", name := "give", desc := "(IJ)I" } prog_1_method_3_code 5 (some .int)) ∈ wG := wG_in 144 (by decide +kernel) rfl
theorem k_145 : (Jvm.Cond.methodLink "FundBook" 71 { cls := "FundBook", name := "accountAt", desc := "(I)LFundBook$Account;" }) ∈ wG := wG_in 145 (by decide +kernel) rfl
theorem k_147 : (Jvm.Cond.instanceMethod { cls := "FundBook", name := "accountAt", desc := "(I)LFundBook$Account;" }) ∈ wG := wG_in 147 (by decide +kernel) rfl
theorem k_148 : (Jvm.Cond.code { cls := "FundBook", name := "accountAt", desc := "(I)LFundBook$Account;" } prog_1_method_20_code 2 (some (.object "FundBook$Account"))) ∈ wG := wG_in 148 (by decide +kernel) rfl
theorem k_149 : (Jvm.Cond.constantLong "FundBook" 75 1000000000000) ∈ wG := wG_in 149 (by decide +kernel) rfl
theorem k_150 : (Jvm.Cond.methodLink "FundBook" 77 { cls := "FundBook$Account", name := "hasRoomFor", desc := "(JJJ)Z" }) ∈ wG := wG_in 150 (by decide +kernel) rfl
theorem k_151 : (Jvm.Cond.instanceMethod { cls := "FundBook$Account", name := "hasRoomFor", desc := "(JJJ)Z" }) ∈ wG := wG_in 151 (by decide +kernel) rfl
theorem k_152 : (Jvm.Cond.selects "FundBook$Account" { cls := "FundBook$Account", name := "hasRoomFor", desc := "(JJJ)Z" } { cls := "FundBook$Account", name := "hasRoomFor", desc := "(JJJ)Z" }) ∈ wG := wG_in 152 (by decide +kernel) rfl
theorem k_153 : (Jvm.Cond.code { cls := "FundBook$Account", name := "hasRoomFor", desc := "(JJJ)Z" } prog_2_method_3_code 7 (some .boolean)) ∈ wG := wG_in 153 (by decide +kernel) rfl
theorem k_154 : (Jvm.Cond.methodLinkNest "FundBook$Account" 28 { cls := "FundBook", name := "isAmount", desc := "(J)Z" } "FundBook") ∈ wN := wN_in 154 (by decide +kernel) rfl
theorem k_155 : (Jvm.Cond.static { cls := "FundBook", name := "isAmount", desc := "(J)Z" }) ∈ wG := wG_in 155 (by decide +kernel) rfl
theorem k_156 : (Jvm.Cond.code { cls := "FundBook", name := "isAmount", desc := "(J)Z" } prog_1_method_26_code 2 (some .boolean)) ∈ wG := wG_in 156 (by decide +kernel) rfl
theorem k_157 : (Jvm.Cond.constantLong "FundBook" 261 (-1000000000000000)) ∈ wG := wG_in 157 (by decide +kernel) rfl
theorem k_158 : (Jvm.Cond.constantLong "FundBook" 263 1000000000000000) ∈ wG := wG_in 158 (by decide +kernel) rfl
theorem k_159 : (Jvm.Cond.methodLink "FundBook$Account" 32 { cls := "FundBook$Account", name := "free", desc := "()J" }) ∈ wG := wG_in 159 (by decide +kernel) rfl
theorem k_160 : (Jvm.Cond.instanceMethod { cls := "FundBook$Account", name := "free", desc := "()J" }) ∈ wG := wG_in 160 (by decide +kernel) rfl
theorem k_161 : (Jvm.Cond.selects "FundBook$Account" { cls := "FundBook$Account", name := "free", desc := "()J" } { cls := "FundBook$Account", name := "free", desc := "()J" }) ∈ wG := wG_in 161 (by decide +kernel) rfl
theorem k_162 : (Jvm.Cond.code { cls := "FundBook$Account", name := "free", desc := "()J" } prog_2_method_2_code 1 (some .long)) ∈ wG := wG_in 162 (by decide +kernel) rfl
theorem k_163 : (Jvm.Cond.methodLink "FundBookLaw" 39 { cls := "FundBook", name := "order", desc := "(IIZ)I" }) ∈ wG := wG_in 163 (by decide +kernel) rfl
theorem k_164 : (Jvm.Cond.instanceMethod { cls := "FundBook", name := "order", desc := "(IIZ)I" }) ∈ wG := wG_in 164 (by decide +kernel) rfl
theorem k_165 : (Jvm.Cond.selects "FundBook" { cls := "FundBook", name := "order", desc := "(IIZ)I" } { cls := "FundBook", name := "order", desc := "(IIZ)I" }) ∈ wG := wG_in 165 (by decide +kernel) rfl
theorem k_166 : (Jvm.Cond.code { cls := "FundBook", name := "order", desc := "(IIZ)I" } prog_1_method_4_code 7 (some .int)) ∈ wG := wG_in 166 (by decide +kernel) rfl
theorem k_167 : (Jvm.Cond.constantLong "FundBook" 84 1000000000) ∈ wG := wG_in 167 (by decide +kernel) rfl
theorem k_168 : (Jvm.Cond.instantiable "FundBook$Purchase" 8) ∈ wG := wG_in 168 (by decide +kernel) rfl
theorem k_169 : (Jvm.Cond.methodLink "FundBook" 89 { cls := "FundBook$Purchase", name := "<init>", desc := "(LFundBook$Account;IZ)V" }) ∈ wG := wG_in 169 (by decide +kernel) rfl
theorem k_170 : (Jvm.Cond.instanceMethod { cls := "FundBook$Purchase", name := "<init>", desc := "(LFundBook$Account;IZ)V" }) ∈ wG := wG_in 170 (by decide +kernel) rfl
theorem k_171 : (Jvm.Cond.code { cls := "FundBook$Purchase", name := "<init>", desc := "(LFundBook$Account;IZ)V" } prog_6_method_1_code 4 none) ∈ wG := wG_in 171 (by decide +kernel) rfl
theorem k_172 : (Jvm.Cond.methodLink "FundBook$Purchase" 3 { cls := "java/lang/Object", name := "<init>", desc := "()V" }) ∈ wG := wG_in 172 (by decide +kernel) rfl
theorem k_173 : (Jvm.Cond.classLink "FundBook$Purchase" 9 "FundBook$Approvals") ∈ wG := wG_in 173 (by decide +kernel) rfl
theorem k_174 : (Jvm.Cond.instantiable "FundBook$Approvals" 3) ∈ wG := wG_in 174 (by decide +kernel) rfl
theorem k_175 : (Jvm.Cond.methodLinkNest "FundBook$Purchase" 11 { cls := "FundBook$Approvals", name := "<init>", desc := "()V" } "FundBook") ∈ wN := wN_in 175 (by decide +kernel) rfl
theorem k_176 : (Jvm.Cond.instanceMethod { cls := "FundBook$Approvals", name := "<init>", desc := "()V" }) ∈ wG := wG_in 176 (by decide +kernel) rfl
theorem k_177 : (Jvm.Cond.code { cls := "FundBook$Approvals", name := "<init>", desc := "()V" } prog_3_method_1_code 1 none) ∈ wG := wG_in 177 (by decide +kernel) rfl
theorem k_178 : (Jvm.Cond.methodLink "FundBook$Approvals" 1 { cls := "java/lang/Object", name := "<init>", desc := "()V" }) ∈ wG := wG_in 178 (by decide +kernel) rfl
theorem k_179 : (Jvm.Cond.fieldLink "FundBook$Approvals" 9 "FundBook$Approvals" "lowPersons" "J") ∈ wG := wG_in 179 (by decide +kernel) rfl
theorem k_180 : (Jvm.Cond.fieldLink "FundBook$Approvals" 13 "FundBook$Approvals" "highPersons" "J") ∈ wG := wG_in 180 (by decide +kernel) rfl
theorem k_181 : (Jvm.Cond.fieldLinkNest "FundBook$Move" 29 "FundBook$Approvals" "count" "I" "FundBook") ∈ wN := wN_in 181 (by decide +kernel) rfl
theorem k_182 : (Jvm.Cond.fieldLink "FundBook$Approvals" 20 "FundBook$Approvals" "count" "I") ∈ wG := wG_in 182 (by decide +kernel) rfl
theorem k_183 : (Jvm.Cond.fieldLinkNest "FundBook" 122 "FundBook$Approvals" "count" "I" "FundBook") ∈ wN := wN_in 183 (by decide +kernel) rfl
theorem k_191 : (Jvm.Cond.fieldLink "FundBook$Purchase" 25 "FundBook$Purchase" "account" "LFundBook$Account;") ∈ wG := wG_in 191 (by decide +kernel) rfl
theorem k_192 : (Jvm.Cond.fieldLinkNest "FundBook" 168 "FundBook$Purchase" "account" "LFundBook$Account;" "FundBook") ∈ wN := wN_in 192 (by decide +kernel) rfl
theorem k_193 : (Jvm.Cond.fieldLink "FundBook$Purchase" 29 "FundBook$Purchase" "cents" "I") ∈ wG := wG_in 193 (by decide +kernel) rfl
theorem k_194 : (Jvm.Cond.fieldLinkNest "FundBook" 165 "FundBook$Purchase" "cents" "I" "FundBook") ∈ wN := wN_in 194 (by decide +kernel) rfl
theorem k_195 : (Jvm.Cond.fieldLink "FundBook$Purchase" 32 "FundBook$Purchase" "standing" "Z") ∈ wG := wG_in 195 (by decide +kernel) rfl
theorem k_196 : (Jvm.Cond.fieldLink "FundBook$Purchase" 12 "FundBook$Purchase" "approvals" "LFundBook$Approvals;") ∈ wG := wG_in 196 (by decide +kernel) rfl
theorem k_197 : (Jvm.Cond.fieldLinkNest "FundBook" 108 "FundBook$Purchase" "approvals" "LFundBook$Approvals;" "FundBook") ∈ wN := wN_in 197 (by decide +kernel) rfl
theorem k_198 : (Jvm.Cond.fieldLink "FundBook$Purchase" 18 "FundBook$Purchase" "state" "I") ∈ wG := wG_in 198 (by decide +kernel) rfl
theorem k_199 : (Jvm.Cond.fieldLinkNest "FundBook" 105 "FundBook$Purchase" "state" "I" "FundBook") ∈ wN := wN_in 199 (by decide +kernel) rfl
theorem k_200 : (Jvm.Cond.fieldLink "FundBook$Purchase" 61 "FundBook$Purchase" "invoiceCount" "I") ∈ wG := wG_in 200 (by decide +kernel) rfl
theorem k_201 : (Jvm.Cond.fieldLinkNest "FundBook" 251 "FundBook$Purchase" "invoiceCount" "I" "FundBook") ∈ wN := wN_in 201 (by decide +kernel) rfl
theorem k_202 : (Jvm.Cond.fieldLink "FundBook$Purchase" 22 "FundBook$Purchase" "latestMonth" "I") ∈ wG := wG_in 202 (by decide +kernel) rfl
theorem k_203 : (Jvm.Cond.fieldLink "FundBook$Purchase" 58 "FundBook$Purchase" "latestExcess" "J") ∈ wG := wG_in 203 (by decide +kernel) rfl
theorem k_204 : (Jvm.Cond.fieldLinkNest "FundBook" 248 "FundBook$Purchase" "latestExcess" "J" "FundBook") ∈ wN := wN_in 204 (by decide +kernel) rfl
theorem k_222 : (Jvm.Cond.methodLink "FundBook" 92 { cls := "FundBook$Account", name := "free", desc := "()J" }) ∈ wG := wG_in 222 (by decide +kernel) rfl
theorem k_223 : (Jvm.Cond.methodLink "FundBook" 96 { cls := "FundBook$Purchase", name := "place", desc := "()V" }) ∈ wG := wG_in 223 (by decide +kernel) rfl
theorem k_224 : (Jvm.Cond.instanceMethod { cls := "FundBook$Purchase", name := "place", desc := "()V" }) ∈ wG := wG_in 224 (by decide +kernel) rfl
theorem k_225 : (Jvm.Cond.selects "FundBook$Purchase" { cls := "FundBook$Purchase", name := "place", desc := "()V" } { cls := "FundBook$Purchase", name := "place", desc := "()V" }) ∈ wG := wG_in 225 (by decide +kernel) rfl
theorem k_226 : (Jvm.Cond.code { cls := "FundBook$Purchase", name := "place", desc := "()V" } prog_6_method_2_code 1 none) ∈ wG := wG_in 226 (by decide +kernel) rfl
theorem k_227 : (Jvm.Cond.methodLink "FundBookLaw" 44 { cls := "FundBook", name := "approve", desc := "(II)I" }) ∈ wG := wG_in 227 (by decide +kernel) rfl
theorem k_228 : (Jvm.Cond.instanceMethod { cls := "FundBook", name := "approve", desc := "(II)I" }) ∈ wG := wG_in 228 (by decide +kernel) rfl
theorem k_229 : (Jvm.Cond.selects "FundBook" { cls := "FundBook", name := "approve", desc := "(II)I" } { cls := "FundBook", name := "approve", desc := "(II)I" }) ∈ wG := wG_in 229 (by decide +kernel) rfl
theorem k_230 : (Jvm.Cond.code { cls := "FundBook", name := "approve", desc := "(II)I" } prog_1_method_5_code 4 (some .int)) ∈ wG := wG_in 230 (by decide +kernel) rfl
theorem k_231 : (Jvm.Cond.methodLink "FundBook" 99 { cls := "FundBook", name := "purchaseAt", desc := "(I)LFundBook$Purchase;" }) ∈ wG := wG_in 231 (by decide +kernel) rfl
theorem k_233 : (Jvm.Cond.instanceMethod { cls := "FundBook", name := "purchaseAt", desc := "(I)LFundBook$Purchase;" }) ∈ wG := wG_in 233 (by decide +kernel) rfl
theorem k_234 : (Jvm.Cond.code { cls := "FundBook", name := "purchaseAt", desc := "(I)LFundBook$Purchase;" } prog_1_method_21_code 2 (some (.object "FundBook$Purchase"))) ∈ wG := wG_in 234 (by decide +kernel) rfl
theorem k_235 : (Jvm.Cond.constantLong "FundBook" 103 99) ∈ wG := wG_in 235 (by decide +kernel) rfl
theorem k_236 : (Jvm.Cond.methodLink "FundBook" 112 { cls := "FundBook$Approvals", name := "include", desc := "(I)Z" }) ∈ wG := wG_in 236 (by decide +kernel) rfl
theorem k_237 : (Jvm.Cond.instanceMethod { cls := "FundBook$Approvals", name := "include", desc := "(I)Z" }) ∈ wG := wG_in 237 (by decide +kernel) rfl
theorem k_238 : (Jvm.Cond.selects "FundBook$Approvals" { cls := "FundBook$Approvals", name := "include", desc := "(I)Z" } { cls := "FundBook$Approvals", name := "include", desc := "(I)Z" }) ∈ wG := wG_in 238 (by decide +kernel) rfl
theorem k_239 : (Jvm.Cond.code { cls := "FundBook$Approvals", name := "include", desc := "(I)Z" } prog_3_method_2_code 4 (some .boolean)) ∈ wG := wG_in 239 (by decide +kernel) rfl
theorem k_240 : (Jvm.Cond.methodLink "FundBook$Approvals" 16 { cls := "FundBook$Approvals", name := "bitOf", desc := "(I)J" }) ∈ wG := wG_in 240 (by decide +kernel) rfl
theorem k_241 : (Jvm.Cond.static { cls := "FundBook$Approvals", name := "bitOf", desc := "(I)J" }) ∈ wG := wG_in 241 (by decide +kernel) rfl
theorem k_242 : (Jvm.Cond.code { cls := "FundBook$Approvals", name := "bitOf", desc := "(I)J" } prog_3_method_4_code 1 (some .long)) ∈ wG := wG_in 242 (by decide +kernel) rfl
theorem k_243 : (Jvm.Cond.methodLink "FundBook" 118 { cls := "FundBook$Approvals", name := "add", desc := "(I)V" }) ∈ wG := wG_in 243 (by decide +kernel) rfl
theorem k_244 : (Jvm.Cond.instanceMethod { cls := "FundBook$Approvals", name := "add", desc := "(I)V" }) ∈ wG := wG_in 244 (by decide +kernel) rfl
theorem k_245 : (Jvm.Cond.selects "FundBook$Approvals" { cls := "FundBook$Approvals", name := "add", desc := "(I)V" } { cls := "FundBook$Approvals", name := "add", desc := "(I)V" }) ∈ wG := wG_in 245 (by decide +kernel) rfl
theorem k_246 : (Jvm.Cond.code { cls := "FundBook$Approvals", name := "add", desc := "(I)V" } prog_3_method_3_code 2 none) ∈ wG := wG_in 246 (by decide +kernel) rfl
theorem k_247 : (Jvm.Cond.methodLink "FundBookLaw" 49 { cls := "FundBook", name := "invoice", desc := "(IIII)J" }) ∈ wG := wG_in 247 (by decide +kernel) rfl
theorem k_248 : (Jvm.Cond.instanceMethod { cls := "FundBook", name := "invoice", desc := "(IIII)J" }) ∈ wG := wG_in 248 (by decide +kernel) rfl
theorem k_249 : (Jvm.Cond.selects "FundBook" { cls := "FundBook", name := "invoice", desc := "(IIII)J" } { cls := "FundBook", name := "invoice", desc := "(IIII)J" }) ∈ wG := wG_in 249 (by decide +kernel) rfl
theorem k_250 : (Jvm.Cond.code { cls := "FundBook", name := "invoice", desc := "(IIII)J" } prog_1_method_6_code 10 (some .long)) ∈ wG := wG_in 250 (by decide +kernel) rfl
theorem k_251 : (Jvm.Cond.constantLong "FundBook" 125 (-1)) ∈ wG := wG_in 251 (by decide +kernel) rfl
theorem k_252 : (Jvm.Cond.methodLink "FundBook" 127 { cls := "FundBook", name := "isCurrency", desc := "(I)Z" }) ∈ wG := wG_in 252 (by decide +kernel) rfl
theorem k_254 : (Jvm.Cond.instanceMethod { cls := "FundBook", name := "isCurrency", desc := "(I)Z" }) ∈ wG := wG_in 254 (by decide +kernel) rfl
theorem k_255 : (Jvm.Cond.code { cls := "FundBook", name := "isCurrency", desc := "(I)Z" } prog_1_method_23_code 2 (some .boolean)) ∈ wG := wG_in 255 (by decide +kernel) rfl
theorem k_256 : (Jvm.Cond.constantLong "FundBook" 130 100000) ∈ wG := wG_in 256 (by decide +kernel) rfl
theorem k_257 : (Jvm.Cond.constantLong "FundBook" 132 (-2)) ∈ wG := wG_in 257 (by decide +kernel) rfl
theorem k_258 : (Jvm.Cond.methodLink "FundBook" 134 { cls := "FundBook$Purchase", name := "awaitsInvoiceIn", desc := "(I)Z" }) ∈ wG := wG_in 258 (by decide +kernel) rfl
theorem k_259 : (Jvm.Cond.instanceMethod { cls := "FundBook$Purchase", name := "awaitsInvoiceIn", desc := "(I)Z" }) ∈ wG := wG_in 259 (by decide +kernel) rfl
theorem k_260 : (Jvm.Cond.selects "FundBook$Purchase" { cls := "FundBook$Purchase", name := "awaitsInvoiceIn", desc := "(I)Z" } { cls := "FundBook$Purchase", name := "awaitsInvoiceIn", desc := "(I)Z" }) ∈ wG := wG_in 260 (by decide +kernel) rfl
theorem k_261 : (Jvm.Cond.code { cls := "FundBook$Purchase", name := "awaitsInvoiceIn", desc := "(I)Z" } prog_6_method_3_code 2 (some .boolean)) ∈ wG := wG_in 261 (by decide +kernel) rfl
theorem k_262 : (Jvm.Cond.constantLong "FundBook" 137 (-3)) ∈ wG := wG_in 262 (by decide +kernel) rfl
theorem k_263 : (Jvm.Cond.methodLink "FundBook" 139 { cls := "FundBook", name := "rateOn", desc := "(II)LFundBook$Rate;" }) ∈ wG := wG_in 263 (by decide +kernel) rfl
theorem k_265 : (Jvm.Cond.instanceMethod { cls := "FundBook", name := "rateOn", desc := "(II)LFundBook$Rate;" }) ∈ wG := wG_in 265 (by decide +kernel) rfl
theorem k_266 : (Jvm.Cond.code { cls := "FundBook", name := "rateOn", desc := "(II)LFundBook$Rate;" } prog_1_method_24_code 4 (some (.object "FundBook$Rate"))) ∈ wG := wG_in 266 (by decide +kernel) rfl
theorem k_267 : (Jvm.Cond.constantLong "FundBook" 143 (-6)) ∈ wG := wG_in 267 (by decide +kernel) rfl
theorem k_268 : (Jvm.Cond.methodLink "FundBook" 145 { cls := "FundBook$Rate", name := "inHouse", desc := "(I)J" }) ∈ wG := wG_in 268 (by decide +kernel) rfl
theorem k_269 : (Jvm.Cond.instanceMethod { cls := "FundBook$Rate", name := "inHouse", desc := "(I)J" }) ∈ wG := wG_in 269 (by decide +kernel) rfl
theorem k_270 : (Jvm.Cond.selects "FundBook$Rate" { cls := "FundBook$Rate", name := "inHouse", desc := "(I)J" } { cls := "FundBook$Rate", name := "inHouse", desc := "(I)J" }) ∈ wG := wG_in 270 (by decide +kernel) rfl
theorem k_271 : (Jvm.Cond.code { cls := "FundBook$Rate", name := "inHouse", desc := "(I)J" } prog_7_method_2_code 2 (some .long)) ∈ wG := wG_in 271 (by decide +kernel) rfl
theorem k_272 : (Jvm.Cond.methodLink "FundBook" 149 { cls := "FundBook$Purchase", name := "isInBand", desc := "(JI)Z" }) ∈ wG := wG_in 272 (by decide +kernel) rfl
theorem k_273 : (Jvm.Cond.instanceMethod { cls := "FundBook$Purchase", name := "isInBand", desc := "(JI)Z" }) ∈ wG := wG_in 273 (by decide +kernel) rfl
theorem k_274 : (Jvm.Cond.selects "FundBook$Purchase" { cls := "FundBook$Purchase", name := "isInBand", desc := "(JI)Z" } { cls := "FundBook$Purchase", name := "isInBand", desc := "(JI)Z" }) ∈ wG := wG_in 274 (by decide +kernel) rfl
theorem k_275 : (Jvm.Cond.code { cls := "FundBook$Purchase", name := "isInBand", desc := "(JI)Z" } prog_6_method_4_code 6 (some .boolean)) ∈ wG := wG_in 275 (by decide +kernel) rfl
theorem k_276 : (Jvm.Cond.constantLong "FundBook$Purchase" 42 1000) ∈ wG := wG_in 276 (by decide +kernel) rfl
theorem k_277 : (Jvm.Cond.methodLinkNest "FundBook$Purchase" 44 { cls := "FundBook", name := "isWithin", desc := "(JJJ)Z" } "FundBook") ∈ wN := wN_in 277 (by decide +kernel) rfl
theorem k_278 : (Jvm.Cond.constantLong "FundBook" 153 (-5)) ∈ wG := wG_in 278 (by decide +kernel) rfl
theorem k_279 : (Jvm.Cond.methodLink "FundBook" 155 { cls := "FundBook$Purchase", name := "hasRoomToPay", desc := "(J)Z" }) ∈ wG := wG_in 279 (by decide +kernel) rfl
theorem k_280 : (Jvm.Cond.instanceMethod { cls := "FundBook$Purchase", name := "hasRoomToPay", desc := "(J)Z" }) ∈ wG := wG_in 280 (by decide +kernel) rfl
theorem k_281 : (Jvm.Cond.selects "FundBook$Purchase" { cls := "FundBook$Purchase", name := "hasRoomToPay", desc := "(J)Z" } { cls := "FundBook$Purchase", name := "hasRoomToPay", desc := "(J)Z" }) ∈ wG := wG_in 281 (by decide +kernel) rfl
theorem k_282 : (Jvm.Cond.code { cls := "FundBook$Purchase", name := "hasRoomToPay", desc := "(J)Z" } prog_6_method_6_code 3 (some .boolean)) ∈ wG := wG_in 282 (by decide +kernel) rfl
theorem k_283 : (Jvm.Cond.methodLink "FundBook$Purchase" 48 { cls := "FundBook$Purchase", name := "releasedByInvoice", desc := "()I" }) ∈ wG := wG_in 283 (by decide +kernel) rfl
theorem k_284 : (Jvm.Cond.instanceMethod { cls := "FundBook$Purchase", name := "releasedByInvoice", desc := "()I" }) ∈ wG := wG_in 284 (by decide +kernel) rfl
theorem k_285 : (Jvm.Cond.selects "FundBook$Purchase" { cls := "FundBook$Purchase", name := "releasedByInvoice", desc := "()I" } { cls := "FundBook$Purchase", name := "releasedByInvoice", desc := "()I" }) ∈ wG := wG_in 285 (by decide +kernel) rfl
theorem k_286 : (Jvm.Cond.code { cls := "FundBook$Purchase", name := "releasedByInvoice", desc := "()I" } prog_6_method_5_code 1 (some .int)) ∈ wG := wG_in 286 (by decide +kernel) rfl
theorem k_287 : (Jvm.Cond.methodLink "FundBook$Purchase" 52 { cls := "FundBook$Account", name := "hasRoomFor", desc := "(JJJ)Z" }) ∈ wG := wG_in 287 (by decide +kernel) rfl
theorem k_288 : (Jvm.Cond.constantLong "FundBook" 159 (-4)) ∈ wG := wG_in 288 (by decide +kernel) rfl
theorem k_289 : (Jvm.Cond.methodLink "FundBook" 161 { cls := "FundBook$Purchase", name := "pay", desc := "(JI)V" }) ∈ wG := wG_in 289 (by decide +kernel) rfl
theorem k_290 : (Jvm.Cond.instanceMethod { cls := "FundBook$Purchase", name := "pay", desc := "(JI)V" }) ∈ wG := wG_in 290 (by decide +kernel) rfl
theorem k_291 : (Jvm.Cond.selects "FundBook$Purchase" { cls := "FundBook$Purchase", name := "pay", desc := "(JI)V" } { cls := "FundBook$Purchase", name := "pay", desc := "(JI)V" }) ∈ wG := wG_in 291 (by decide +kernel) rfl
theorem k_292 : (Jvm.Cond.code { cls := "FundBook$Purchase", name := "pay", desc := "(JI)V" } prog_6_method_7_code 4 none) ∈ wG := wG_in 292 (by decide +kernel) rfl
theorem k_293 : (Jvm.Cond.methodLink "FundBookLaw" 54 { cls := "FundBook", name := "cancel", desc := "(I)I" }) ∈ wG := wG_in 293 (by decide +kernel) rfl
theorem k_294 : (Jvm.Cond.instanceMethod { cls := "FundBook", name := "cancel", desc := "(I)I" }) ∈ wG := wG_in 294 (by decide +kernel) rfl
theorem k_295 : (Jvm.Cond.selects "FundBook" { cls := "FundBook", name := "cancel", desc := "(I)I" } { cls := "FundBook", name := "cancel", desc := "(I)I" }) ∈ wG := wG_in 295 (by decide +kernel) rfl
theorem k_296 : (Jvm.Cond.code { cls := "FundBook", name := "cancel", desc := "(I)I" } prog_1_method_7_code 4 (some .int)) ∈ wG := wG_in 296 (by decide +kernel) rfl
theorem k_297 : (Jvm.Cond.methodLink "FundBookLaw" 58 { cls := "FundBook", name := "band", desc := "(I)I" }) ∈ wG := wG_in 297 (by decide +kernel) rfl
theorem k_298 : (Jvm.Cond.instanceMethod { cls := "FundBook", name := "band", desc := "(I)I" }) ∈ wG := wG_in 298 (by decide +kernel) rfl
theorem k_299 : (Jvm.Cond.selects "FundBook" { cls := "FundBook", name := "band", desc := "(I)I" } { cls := "FundBook", name := "band", desc := "(I)I" }) ∈ wG := wG_in 299 (by decide +kernel) rfl
theorem k_300 : (Jvm.Cond.code { cls := "FundBook", name := "band", desc := "(I)I" } prog_1_method_8_code 2 (some .int)) ∈ wG := wG_in 300 (by decide +kernel) rfl
theorem k_301 : (Jvm.Cond.constantLong "FundBook" 175 1000) ∈ wG := wG_in 301 (by decide +kernel) rfl
theorem k_302 : (Jvm.Cond.methodLink "FundBookLaw" 62 { cls := "FundBook", name := "currency", desc := "(IIII)I" }) ∈ wG := wG_in 302 (by decide +kernel) rfl
theorem k_303 : (Jvm.Cond.instanceMethod { cls := "FundBook", name := "currency", desc := "(IIII)I" }) ∈ wG := wG_in 303 (by decide +kernel) rfl
theorem k_304 : (Jvm.Cond.selects "FundBook" { cls := "FundBook", name := "currency", desc := "(IIII)I" } { cls := "FundBook", name := "currency", desc := "(IIII)I" }) ∈ wG := wG_in 304 (by decide +kernel) rfl
theorem k_305 : (Jvm.Cond.code { cls := "FundBook", name := "currency", desc := "(IIII)I" } prog_1_method_9_code 6 (some .int)) ∈ wG := wG_in 305 (by decide +kernel) rfl
theorem k_306 : (Jvm.Cond.constantLong "FundBook" 177 1000000) ∈ wG := wG_in 306 (by decide +kernel) rfl
theorem k_307 : (Jvm.Cond.instantiable "FundBook$Rate" 5) ∈ wG := wG_in 307 (by decide +kernel) rfl
theorem k_308 : (Jvm.Cond.methodLink "FundBook" 185 { cls := "FundBook$Rate", name := "<init>", desc := "(IIILFundBook$Rate;)V" }) ∈ wG := wG_in 308 (by decide +kernel) rfl
theorem k_309 : (Jvm.Cond.instanceMethod { cls := "FundBook$Rate", name := "<init>", desc := "(IIILFundBook$Rate;)V" }) ∈ wG := wG_in 309 (by decide +kernel) rfl
theorem k_310 : (Jvm.Cond.code { cls := "FundBook$Rate", name := "<init>", desc := "(IIILFundBook$Rate;)V" } prog_7_method_1_code 5 none) ∈ wG := wG_in 310 (by decide +kernel) rfl
theorem k_311 : (Jvm.Cond.methodLink "FundBook$Rate" 1 { cls := "java/lang/Object", name := "<init>", desc := "()V" }) ∈ wG := wG_in 311 (by decide +kernel) rfl
theorem k_312 : (Jvm.Cond.methodLink "FundBook$Rate" 16 { cls := "java/lang/Math", name := "max", desc := "(II)I" }) ∈ wG := wG_in 312 (by decide +kernel) rfl
theorem k_313 : (Jvm.Cond.fieldLink "FundBook$Rate" 7 "FundBook$Rate" "day" "I") ∈ wG := wG_in 313 (by decide +kernel) rfl
theorem k_314 : (Jvm.Cond.fieldLinkNest "FundBook" 179 "FundBook$Rate" "day" "I" "FundBook") ∈ wN := wN_in 314 (by decide +kernel) rfl
theorem k_315 : (Jvm.Cond.fieldLink "FundBook$Rate" 13 "FundBook$Rate" "up" "I") ∈ wG := wG_in 315 (by decide +kernel) rfl
theorem k_316 : (Jvm.Cond.fieldLink "FundBook$Rate" 22 "FundBook$Rate" "down" "I") ∈ wG := wG_in 316 (by decide +kernel) rfl
theorem k_317 : (Jvm.Cond.fieldLink "FundBook$Rate" 25 "FundBook$Rate" "earlier" "LFundBook$Rate;") ∈ wG := wG_in 317 (by decide +kernel) rfl
theorem k_318 : (Jvm.Cond.fieldLinkNest "FundBook" 257 "FundBook$Rate" "earlier" "LFundBook$Rate;" "FundBook") ∈ wN := wN_in 318 (by decide +kernel) rfl
theorem k_319 : (Jvm.Cond.fieldLink "FundBook$Rate" 29 "FundBook$Rate" "rank" "I") ∈ wG := wG_in 319 (by decide +kernel) rfl
theorem k_320 : (Jvm.Cond.fieldLinkNest "FundBook" 182 "FundBook$Rate" "rank" "I" "FundBook") ∈ wN := wN_in 320 (by decide +kernel) rfl
theorem k_332 : (Jvm.Cond.methodLink "FundBookLaw" 67 { cls := "FundBook", name := "transfer", desc := "(III)I" }) ∈ wG := wG_in 332 (by decide +kernel) rfl
theorem k_333 : (Jvm.Cond.instanceMethod { cls := "FundBook", name := "transfer", desc := "(III)I" }) ∈ wG := wG_in 333 (by decide +kernel) rfl
theorem k_334 : (Jvm.Cond.selects "FundBook" { cls := "FundBook", name := "transfer", desc := "(III)I" } { cls := "FundBook", name := "transfer", desc := "(III)I" }) ∈ wG := wG_in 334 (by decide +kernel) rfl
theorem k_335 : (Jvm.Cond.code { cls := "FundBook", name := "transfer", desc := "(III)I" } prog_1_method_10_code 7 (some .int)) ∈ wG := wG_in 335 (by decide +kernel) rfl
theorem k_336 : (Jvm.Cond.instantiable "FundBook$Move" 5) ∈ wG := wG_in 336 (by decide +kernel) rfl
theorem k_337 : (Jvm.Cond.methodLink "FundBook" 191 { cls := "FundBook$Move", name := "<init>", desc := "(LFundBook$Account;LFundBook$Account;I)V" }) ∈ wG := wG_in 337 (by decide +kernel) rfl
theorem k_338 : (Jvm.Cond.instanceMethod { cls := "FundBook$Move", name := "<init>", desc := "(LFundBook$Account;LFundBook$Account;I)V" }) ∈ wG := wG_in 338 (by decide +kernel) rfl
theorem k_339 : (Jvm.Cond.code { cls := "FundBook$Move", name := "<init>", desc := "(LFundBook$Account;LFundBook$Account;I)V" } prog_5_method_1_code 4 none) ∈ wG := wG_in 339 (by decide +kernel) rfl
theorem k_340 : (Jvm.Cond.methodLink "FundBook$Move" 3 { cls := "java/lang/Object", name := "<init>", desc := "()V" }) ∈ wG := wG_in 340 (by decide +kernel) rfl
theorem k_341 : (Jvm.Cond.classLink "FundBook$Move" 9 "FundBook$Approvals") ∈ wG := wG_in 341 (by decide +kernel) rfl
theorem k_342 : (Jvm.Cond.methodLinkNest "FundBook$Move" 11 { cls := "FundBook$Approvals", name := "<init>", desc := "()V" } "FundBook") ∈ wN := wN_in 342 (by decide +kernel) rfl
theorem k_343 : (Jvm.Cond.fieldLink "FundBook$Move" 18 "FundBook$Move" "source" "LFundBook$Account;") ∈ wG := wG_in 343 (by decide +kernel) rfl
theorem k_344 : (Jvm.Cond.fieldLink "FundBook$Move" 22 "FundBook$Move" "target" "LFundBook$Account;") ∈ wG := wG_in 344 (by decide +kernel) rfl
theorem k_345 : (Jvm.Cond.fieldLink "FundBook$Move" 25 "FundBook$Move" "cents" "I") ∈ wG := wG_in 345 (by decide +kernel) rfl
theorem k_346 : (Jvm.Cond.fieldLink "FundBook$Move" 12 "FundBook$Move" "approvals" "LFundBook$Approvals;") ∈ wG := wG_in 346 (by decide +kernel) rfl
theorem k_347 : (Jvm.Cond.fieldLinkNest "FundBook" 202 "FundBook$Move" "approvals" "LFundBook$Approvals;" "FundBook") ∈ wN := wN_in 347 (by decide +kernel) rfl
theorem k_348 : (Jvm.Cond.fieldLink "FundBook$Move" 46 "FundBook$Move" "happened" "Z") ∈ wG := wG_in 348 (by decide +kernel) rfl
theorem k_349 : (Jvm.Cond.fieldLinkNest "FundBook" 198 "FundBook$Move" "happened" "Z" "FundBook") ∈ wN := wN_in 349 (by decide +kernel) rfl
theorem k_361 : (Jvm.Cond.methodLink "FundBookLaw" 72 { cls := "FundBook", name := "agree", desc := "(II)I" }) ∈ wG := wG_in 361 (by decide +kernel) rfl
theorem k_362 : (Jvm.Cond.instanceMethod { cls := "FundBook", name := "agree", desc := "(II)I" }) ∈ wG := wG_in 362 (by decide +kernel) rfl
theorem k_363 : (Jvm.Cond.selects "FundBook" { cls := "FundBook", name := "agree", desc := "(II)I" } { cls := "FundBook", name := "agree", desc := "(II)I" }) ∈ wG := wG_in 363 (by decide +kernel) rfl
theorem k_364 : (Jvm.Cond.code { cls := "FundBook", name := "agree", desc := "(II)I" } prog_1_method_11_code 5 (some .int)) ∈ wG := wG_in 364 (by decide +kernel) rfl
theorem k_365 : (Jvm.Cond.methodLink "FundBook" 194 { cls := "FundBook", name := "moveAt", desc := "(I)LFundBook$Move;" }) ∈ wG := wG_in 365 (by decide +kernel) rfl
theorem k_367 : (Jvm.Cond.instanceMethod { cls := "FundBook", name := "moveAt", desc := "(I)LFundBook$Move;" }) ∈ wG := wG_in 367 (by decide +kernel) rfl
theorem k_368 : (Jvm.Cond.code { cls := "FundBook", name := "moveAt", desc := "(I)LFundBook$Move;" } prog_1_method_22_code 2 (some (.object "FundBook$Move"))) ∈ wG := wG_in 368 (by decide +kernel) rfl
theorem k_369 : (Jvm.Cond.methodLink "FundBook" 203 { cls := "FundBook$Move", name := "happensWithOneMore", desc := "()Z" }) ∈ wG := wG_in 369 (by decide +kernel) rfl
theorem k_370 : (Jvm.Cond.instanceMethod { cls := "FundBook$Move", name := "happensWithOneMore", desc := "()Z" }) ∈ wG := wG_in 370 (by decide +kernel) rfl
theorem k_371 : (Jvm.Cond.selects "FundBook$Move" { cls := "FundBook$Move", name := "happensWithOneMore", desc := "()Z" } { cls := "FundBook$Move", name := "happensWithOneMore", desc := "()Z" }) ∈ wG := wG_in 371 (by decide +kernel) rfl
theorem k_372 : (Jvm.Cond.code { cls := "FundBook$Move", name := "happensWithOneMore", desc := "()Z" } prog_5_method_2_code 1 (some .boolean)) ∈ wG := wG_in 372 (by decide +kernel) rfl
theorem k_373 : (Jvm.Cond.methodLink "FundBook$Move" 32 { cls := "FundBook$Account", name := "free", desc := "()J" }) ∈ wG := wG_in 373 (by decide +kernel) rfl
theorem k_374 : (Jvm.Cond.methodLink "FundBook" 207 { cls := "FundBook$Move", name := "hasRoom", desc := "()Z" }) ∈ wG := wG_in 374 (by decide +kernel) rfl
theorem k_375 : (Jvm.Cond.instanceMethod { cls := "FundBook$Move", name := "hasRoom", desc := "()Z" }) ∈ wG := wG_in 375 (by decide +kernel) rfl
theorem k_376 : (Jvm.Cond.selects "FundBook$Move" { cls := "FundBook$Move", name := "hasRoom", desc := "()Z" } { cls := "FundBook$Move", name := "hasRoom", desc := "()Z" }) ∈ wG := wG_in 376 (by decide +kernel) rfl
theorem k_377 : (Jvm.Cond.code { cls := "FundBook$Move", name := "hasRoom", desc := "()Z" } prog_5_method_3_code 1 (some .boolean)) ∈ wG := wG_in 377 (by decide +kernel) rfl
theorem k_378 : (Jvm.Cond.methodLink "FundBook$Move" 38 { cls := "FundBook$Account", name := "hasRoomFor", desc := "(JJJ)Z" }) ∈ wG := wG_in 378 (by decide +kernel) rfl
theorem k_379 : (Jvm.Cond.methodLink "FundBook" 210 { cls := "FundBook$Move", name := "carryOut", desc := "()V" }) ∈ wG := wG_in 379 (by decide +kernel) rfl
theorem k_380 : (Jvm.Cond.instanceMethod { cls := "FundBook$Move", name := "carryOut", desc := "()V" }) ∈ wG := wG_in 380 (by decide +kernel) rfl
theorem k_381 : (Jvm.Cond.selects "FundBook$Move" { cls := "FundBook$Move", name := "carryOut", desc := "()V" } { cls := "FundBook$Move", name := "carryOut", desc := "()V" }) ∈ wG := wG_in 381 (by decide +kernel) rfl
theorem k_382 : (Jvm.Cond.code { cls := "FundBook$Move", name := "carryOut", desc := "()V" } prog_5_method_4_code 1 none) ∈ wG := wG_in 382 (by decide +kernel) rfl
theorem k_383 : (Jvm.Cond.methodLink "FundBookLaw" 76 { cls := "FundBook", name := "row", desc := "(II)I" }) ∈ wG := wG_in 383 (by decide +kernel) rfl
theorem k_384 : (Jvm.Cond.instanceMethod { cls := "FundBook", name := "row", desc := "(II)I" }) ∈ wG := wG_in 384 (by decide +kernel) rfl
theorem k_385 : (Jvm.Cond.selects "FundBook" { cls := "FundBook", name := "row", desc := "(II)I" } { cls := "FundBook", name := "row", desc := "(II)I" }) ∈ wG := wG_in 385 (by decide +kernel) rfl
theorem k_386 : (Jvm.Cond.code { cls := "FundBook", name := "row", desc := "(II)I" } prog_1_method_12_code 4 (some .int)) ∈ wG := wG_in 386 (by decide +kernel) rfl
theorem k_387 : (Jvm.Cond.constantLong "FundBook" 213 (-1000000000)) ∈ wG := wG_in 387 (by decide +kernel) rfl
theorem k_388 : (Jvm.Cond.methodLink "FundBook" 215 { cls := "FundBook$Batch", name := "isFull", desc := "()Z" }) ∈ wG := wG_in 388 (by decide +kernel) rfl
theorem k_389 : (Jvm.Cond.instanceMethod { cls := "FundBook$Batch", name := "isFull", desc := "()Z" }) ∈ wG := wG_in 389 (by decide +kernel) rfl
theorem k_390 : (Jvm.Cond.selects "FundBook$Batch" { cls := "FundBook$Batch", name := "isFull", desc := "()Z" } { cls := "FundBook$Batch", name := "isFull", desc := "()Z" }) ∈ wG := wG_in 390 (by decide +kernel) rfl
theorem k_391 : (Jvm.Cond.code { cls := "FundBook$Batch", name := "isFull", desc := "()Z" } prog_4_method_2_code 1 (some .boolean)) ∈ wG := wG_in 391 (by decide +kernel) rfl
theorem k_392 : (Jvm.Cond.methodLink "FundBook" 218 { cls := "FundBook$Batch", name := "add", desc := "(LFundBook$Account;I)V" }) ∈ wG := wG_in 392 (by decide +kernel) rfl
theorem k_393 : (Jvm.Cond.instanceMethod { cls := "FundBook$Batch", name := "add", desc := "(LFundBook$Account;I)V" }) ∈ wG := wG_in 393 (by decide +kernel) rfl
theorem k_394 : (Jvm.Cond.selects "FundBook$Batch" { cls := "FundBook$Batch", name := "add", desc := "(LFundBook$Account;I)V" } { cls := "FundBook$Batch", name := "add", desc := "(LFundBook$Account;I)V" }) ∈ wG := wG_in 394 (by decide +kernel) rfl
theorem k_395 : (Jvm.Cond.code { cls := "FundBook$Batch", name := "add", desc := "(LFundBook$Account;I)V" } prog_4_method_3_code 3 none) ∈ wG := wG_in 395 (by decide +kernel) rfl
theorem k_396 : (Jvm.Cond.methodLink "FundBook$Batch" 21 { cls := "FundBook$Batch", name := "isFull", desc := "()Z" }) ∈ wG := wG_in 396 (by decide +kernel) rfl
theorem k_397 : (Jvm.Cond.methodLink "FundBookLaw" 87 { cls := "FundBook", name := "failing", desc := "()I" }) ∈ wG := wG_in 397 (by decide +kernel) rfl
theorem k_398 : (Jvm.Cond.instanceMethod { cls := "FundBook", name := "failing", desc := "()I" }) ∈ wG := wG_in 398 (by decide +kernel) rfl
theorem k_399 : (Jvm.Cond.selects "FundBook" { cls := "FundBook", name := "failing", desc := "()I" } { cls := "FundBook", name := "failing", desc := "()I" }) ∈ wG := wG_in 399 (by decide +kernel) rfl
theorem k_400 : (Jvm.Cond.code { cls := "FundBook", name := "failing", desc := "()I" } prog_1_method_14_code 1 (some .int)) ∈ wG := wG_in 400 (by decide +kernel) rfl
theorem k_401 : (Jvm.Cond.methodLink "FundBookLaw" 91 { cls := "FundBook", name := "close", desc := "()I" }) ∈ wG := wG_in 401 (by decide +kernel) rfl
theorem k_402 : (Jvm.Cond.instanceMethod { cls := "FundBook", name := "close", desc := "()I" }) ∈ wG := wG_in 402 (by decide +kernel) rfl
theorem k_403 : (Jvm.Cond.selects "FundBook" { cls := "FundBook", name := "close", desc := "()I" } { cls := "FundBook", name := "close", desc := "()I" }) ∈ wG := wG_in 403 (by decide +kernel) rfl
theorem k_404 : (Jvm.Cond.code { cls := "FundBook", name := "close", desc := "()I" } prog_1_method_15_code 5 (some .int)) ∈ wG := wG_in 404 (by decide +kernel) rfl
theorem k_405 : (Jvm.Cond.methodLink "FundBook" 240 { cls := "FundBook$Account", name := "beginYear", desc := "()V" }) ∈ wG := wG_in 405 (by decide +kernel) rfl
theorem k_406 : (Jvm.Cond.instanceMethod { cls := "FundBook$Account", name := "beginYear", desc := "()V" }) ∈ wG := wG_in 406 (by decide +kernel) rfl
theorem k_407 : (Jvm.Cond.selects "FundBook$Account" { cls := "FundBook$Account", name := "beginYear", desc := "()V" } { cls := "FundBook$Account", name := "beginYear", desc := "()V" }) ∈ wG := wG_in 407 (by decide +kernel) rfl
theorem k_408 : (Jvm.Cond.code { cls := "FundBook$Account", name := "beginYear", desc := "()V" } prog_2_method_5_code 1 none) ∈ wG := wG_in 408 (by decide +kernel) rfl
theorem k_409 : (Jvm.Cond.methodLink "FundBook$Account" 38 { cls := "FundBook$Account", name := "carried", desc := "()J" }) ∈ wG := wG_in 409 (by decide +kernel) rfl
theorem k_410 : (Jvm.Cond.instanceMethod { cls := "FundBook$Account", name := "carried", desc := "()J" }) ∈ wG := wG_in 410 (by decide +kernel) rfl
theorem k_411 : (Jvm.Cond.selects "FundBook$Account" { cls := "FundBook$Account", name := "carried", desc := "()J" } { cls := "FundBook$Account", name := "carried", desc := "()J" }) ∈ wG := wG_in 411 (by decide +kernel) rfl
theorem k_412 : (Jvm.Cond.code { cls := "FundBook$Account", name := "carried", desc := "()J" } prog_2_method_4_code 3 (some .long)) ∈ wG := wG_in 412 (by decide +kernel) rfl
theorem k_413 : (Jvm.Cond.constantLong "FundBook$Account" 36 2) ∈ wG := wG_in 413 (by decide +kernel) rfl
theorem k_414 : (Jvm.Cond.methodLink "FundBookLaw" 95 { cls := "FundBook", name := "about", desc := "(II)J" }) ∈ wG := wG_in 414 (by decide +kernel) rfl
theorem k_415 : (Jvm.Cond.instanceMethod { cls := "FundBook", name := "about", desc := "(II)J" }) ∈ wG := wG_in 415 (by decide +kernel) rfl
theorem k_416 : (Jvm.Cond.selects "FundBook" { cls := "FundBook", name := "about", desc := "(II)J" } { cls := "FundBook", name := "about", desc := "(II)J" }) ∈ wG := wG_in 416 (by decide +kernel) rfl
theorem k_417 : (Jvm.Cond.code { cls := "FundBook", name := "about", desc := "(II)J" } prog_1_method_16_code 4 (some .long)) ∈ wG := wG_in 417 (by decide +kernel) rfl
theorem k_418 : (Jvm.Cond.constantLong "FundBook" 243 (-1000000000000000001)) ∈ wG := wG_in 418 (by decide +kernel) rfl
theorem k_419 : (Jvm.Cond.methodLink "FundBookLaw" 100 { cls := "FundBook", name := "told", desc := "(II)J" }) ∈ wG := wG_in 419 (by decide +kernel) rfl
theorem k_420 : (Jvm.Cond.instanceMethod { cls := "FundBook", name := "told", desc := "(II)J" }) ∈ wG := wG_in 420 (by decide +kernel) rfl
theorem k_421 : (Jvm.Cond.selects "FundBook" { cls := "FundBook", name := "told", desc := "(II)J" } { cls := "FundBook", name := "told", desc := "(II)J" }) ∈ wG := wG_in 421 (by decide +kernel) rfl
theorem k_422 : (Jvm.Cond.code { cls := "FundBook", name := "told", desc := "(II)J" } prog_1_method_17_code 4 (some .long)) ∈ wG := wG_in 422 (by decide +kernel) rfl
theorem k_423 : (Jvm.Cond.methodLink "FundBookLaw" 104 { cls := "FundBook", name := "sum", desc := "(I)J" }) ∈ wG := wG_in 423 (by decide +kernel) rfl
theorem k_424 : (Jvm.Cond.instanceMethod { cls := "FundBook", name := "sum", desc := "(I)J" }) ∈ wG := wG_in 424 (by decide +kernel) rfl
theorem k_425 : (Jvm.Cond.selects "FundBook" { cls := "FundBook", name := "sum", desc := "(I)J" } { cls := "FundBook", name := "sum", desc := "(I)J" }) ∈ wG := wG_in 425 (by decide +kernel) rfl
theorem k_426 : (Jvm.Cond.code { cls := "FundBook", name := "sum", desc := "(I)J" } prog_1_method_18_code 2 (some .long)) ∈ wG := wG_in 426 (by decide +kernel) rfl
theorem k_427 : (Jvm.Cond.methodLink "FundBook" 254 { cls := "FundBook", name := "givenToAll", desc := "()J" }) ∈ wG := wG_in 427 (by decide +kernel) rfl
theorem k_429 : (Jvm.Cond.instanceMethod { cls := "FundBook", name := "givenToAll", desc := "()J" }) ∈ wG := wG_in 429 (by decide +kernel) rfl
theorem k_430 : (Jvm.Cond.code { cls := "FundBook", name := "givenToAll", desc := "()J" } prog_1_method_19_code 7 (some .long)) ∈ wG := wG_in 430 (by decide +kernel) rfl
theorem k_431 : (Jvm.Cond.methodLink "FundBookLaw" 15 { cls := "FundBookLaw", name := "cell", desc := "([II)I" }) ∈ wG := wG_in 431 (by decide +kernel) rfl
theorem k_432 : (Jvm.Cond.static { cls := "FundBookLaw", name := "cell", desc := "([II)I" }) ∈ wG := wG_in 432 (by decide +kernel) rfl
theorem k_433 : (Jvm.Cond.code { cls := "FundBookLaw", name := "cell", desc := "([II)I" } method_2_code 2 (some .int)) ∈ wG := wG_in 433 (by decide +kernel) rfl
theorem k_434 : (Jvm.Cond.methodLink "FundBookLaw" 80 { cls := "FundBookLaw", name := "post", desc := "(LFundBook;[J)I" }) ∈ wG := wG_in 434 (by decide +kernel) rfl
theorem k_435 : (Jvm.Cond.static { cls := "FundBookLaw", name := "post", desc := "(LFundBook;[J)I" }) ∈ wG := wG_in 435 (by decide +kernel) rfl
theorem k_437 : (Jvm.Cond.classLink "FundBookLaw" 13 "java/lang/IllegalStateException") ∈ wG := wG_in 437 (by decide +kernel) rfl
theorem k_438 : (Jvm.Cond.methodLink "FundBookLaw" 7 { cls := "FundBook", name := "post", desc := "()I" }) ∈ wG := wG_in 438 (by decide +kernel) rfl
theorem k_439 : (Jvm.Cond.instanceMethod { cls := "FundBook", name := "post", desc := "()I" }) ∈ wG := wG_in 439 (by decide +kernel) rfl
theorem k_440 : (Jvm.Cond.selects "FundBook" { cls := "FundBook", name := "post", desc := "()I" } { cls := "FundBook", name := "post", desc := "()I" }) ∈ wG := wG_in 440 (by decide +kernel) rfl
theorem k_441 : (Jvm.Cond.code { cls := "FundBook", name := "post", desc := "()I" } prog_1_method_13_code 3 (some .int)) ∈ wG := wG_in 441 (by decide +kernel) rfl
theorem k_442 : (Jvm.Cond.methodLink "FundBook" 222 { cls := "FundBook$Batch", name := "culprit", desc := "()LFundBook$Account;" }) ∈ wG := wG_in 442 (by decide +kernel) rfl
theorem k_443 : (Jvm.Cond.instanceMethod { cls := "FundBook$Batch", name := "culprit", desc := "()LFundBook$Account;" }) ∈ wG := wG_in 443 (by decide +kernel) rfl
theorem k_444 : (Jvm.Cond.selects "FundBook$Batch" { cls := "FundBook$Batch", name := "culprit", desc := "()LFundBook$Account;" } { cls := "FundBook$Batch", name := "culprit", desc := "()LFundBook$Account;" }) ∈ wG := wG_in 444 (by decide +kernel) rfl
theorem k_445 : (Jvm.Cond.code { cls := "FundBook$Batch", name := "culprit", desc := "()LFundBook$Account;" } prog_4_method_4_code 6 (some (.object "FundBook$Account"))) ∈ wG := wG_in 445 (by decide +kernel) rfl
theorem k_446 : (Jvm.Cond.methodLink "FundBook$Batch" 32 { cls := "FundBook$Account", name := "free", desc := "()J" }) ∈ wG := wG_in 446 (by decide +kernel) rfl
theorem k_447 : (Jvm.Cond.methodLink "FundBook" 226 { cls := "FundBook$Batch", name := "empty", desc := "(Z)V" }) ∈ wG := wG_in 447 (by decide +kernel) rfl
theorem k_448 : (Jvm.Cond.instanceMethod { cls := "FundBook$Batch", name := "empty", desc := "(Z)V" }) ∈ wG := wG_in 448 (by decide +kernel) rfl
theorem k_449 : (Jvm.Cond.selects "FundBook$Batch" { cls := "FundBook$Batch", name := "empty", desc := "(Z)V" } { cls := "FundBook$Batch", name := "empty", desc := "(Z)V" }) ∈ wG := wG_in 449 (by decide +kernel) rfl
theorem k_450 : (Jvm.Cond.code { cls := "FundBook$Batch", name := "empty", desc := "(Z)V" } prog_4_method_5_code 4 none) ∈ wG := wG_in 450 (by decide +kernel) rfl
theorem k_451 : (Jvm.Cond.classLink "FundBook" 233 "java/lang/IllegalStateException") ∈ wG := wG_in 451 (by decide +kernel) rfl
theorem k_452 : (Jvm.Cond.instantiable "java/lang/IllegalStateException" 6) ∈ wG := wG_in 452 (by decide +kernel) rfl
theorem k_460 : (Jvm.Cond.selects "java/lang/IllegalStateException" { cls := "java/lang/Throwable", name := "fillInStackTrace", desc := "(I)Ljava/lang/Throwable;" } { cls := "java/lang/Throwable", name := "fillInStackTrace", desc := "(I)Ljava/lang/Throwable;" }) ∈ wG := wG_in 460 (by decide +kernel) rfl
theorem k_461 : (Jvm.Cond.selects "java/lang/IllegalStateException" { cls := "java/lang/Throwable", name := "fillInStackTrace", desc := "()Ljava/lang/Throwable;" } { cls := "java/lang/Throwable", name := "fillInStackTrace", desc := "()Ljava/lang/Throwable;" }) ∈ wG := wG_in 461 (by decide +kernel) rfl
theorem k_472 : (Jvm.Cond.fieldLink "java/lang/Throwable" 198 "java/lang/Throwable" "backtrace" "Ljava/lang/Object;") ∈ wG := wG_in 472 (by decide +kernel) rfl
theorem k_474 : (Jvm.Cond.instanceMethod { cls := "java/lang/Throwable", name := "<init>", desc := "()V" }) ∈ wG := wG_in 474 (by decide +kernel) rfl
theorem k_475 : (Jvm.Cond.code { cls := "java/lang/Throwable", name := "<init>", desc := "()V" } prog_15_method_1_code 1 none) ∈ wG := wG_in 475 (by decide +kernel) rfl
theorem k_476 : (Jvm.Cond.methodLink "java/lang/Throwable" 1 { cls := "java/lang/Object", name := "<init>", desc := "()V" }) ∈ wG := wG_in 476 (by decide +kernel) rfl
theorem k_477 : (Jvm.Cond.fieldLink "java/lang/Throwable" 13 "java/lang/Throwable" "UNASSIGNED_STACK" "[Ljava/lang/StackTraceElement;") ∈ wG := wG_in 477 (by decide +kernel) rfl
theorem k_479 : (Jvm.Cond.fieldLink "java/lang/Throwable" 20 "java/lang/Throwable" "SUPPRESSED_SENTINEL" "Ljava/util/List;") ∈ wG := wG_in 479 (by decide +kernel) rfl
theorem k_481 : (Jvm.Cond.methodLink "java/lang/Throwable" 27 { cls := "java/lang/Throwable", name := "fillInStackTrace", desc := "()Ljava/lang/Throwable;" }) ∈ wG := wG_in 481 (by decide +kernel) rfl
theorem k_482 : (Jvm.Cond.instanceMethod { cls := "java/lang/Throwable", name := "fillInStackTrace", desc := "()Ljava/lang/Throwable;" }) ∈ wG := wG_in 482 (by decide +kernel) rfl
theorem k_485 : (Jvm.Cond.methodLink "java/lang/Throwable" 202 { cls := "java/lang/Throwable", name := "fillInStackTrace", desc := "(I)Ljava/lang/Throwable;" }) ∈ wG := wG_in 485 (by decide +kernel) rfl
theorem k_487 : (Jvm.Cond.instanceMethod { cls := "java/lang/Throwable", name := "fillInStackTrace", desc := "(I)Ljava/lang/Throwable;" }) ∈ wG := wG_in 487 (by decide +kernel) rfl
theorem k_488 : (Jvm.Cond.instantiable "java/lang/Throwable" 6) ∈ wG := wG_in 488 (by decide +kernel) rfl
theorem k_491 : (Jvm.Cond.methodLink "FundBook" 237 { cls := "java/lang/IllegalStateException", name := "<init>", desc := "(Ljava/lang/String;)V" }) ∈ wG := wG_in 491 (by decide +kernel) rfl
theorem k_492 : (Jvm.Cond.instanceMethod { cls := "java/lang/IllegalStateException", name := "<init>", desc := "(Ljava/lang/String;)V" }) ∈ wG := wG_in 492 (by decide +kernel) rfl
theorem k_493 : (Jvm.Cond.code { cls := "java/lang/IllegalStateException", name := "<init>", desc := "(Ljava/lang/String;)V" } prog_11_method_2_code 2 none) ∈ wG := wG_in 493 (by decide +kernel) rfl
theorem k_494 : (Jvm.Cond.methodLink "java/lang/IllegalStateException" 7 { cls := "java/lang/RuntimeException", name := "<init>", desc := "(Ljava/lang/String;)V" }) ∈ wG := wG_in 494 (by decide +kernel) rfl
theorem k_495 : (Jvm.Cond.instanceMethod { cls := "java/lang/RuntimeException", name := "<init>", desc := "(Ljava/lang/String;)V" }) ∈ wG := wG_in 495 (by decide +kernel) rfl
theorem k_496 : (Jvm.Cond.code { cls := "java/lang/RuntimeException", name := "<init>", desc := "(Ljava/lang/String;)V" } prog_13_method_2_code 2 none) ∈ wG := wG_in 496 (by decide +kernel) rfl
theorem k_497 : (Jvm.Cond.methodLink "java/lang/RuntimeException" 7 { cls := "java/lang/Exception", name := "<init>", desc := "(Ljava/lang/String;)V" }) ∈ wG := wG_in 497 (by decide +kernel) rfl
theorem k_498 : (Jvm.Cond.instanceMethod { cls := "java/lang/Exception", name := "<init>", desc := "(Ljava/lang/String;)V" }) ∈ wG := wG_in 498 (by decide +kernel) rfl
theorem k_499 : (Jvm.Cond.code { cls := "java/lang/Exception", name := "<init>", desc := "(Ljava/lang/String;)V" } prog_10_method_2_code 2 none) ∈ wG := wG_in 499 (by decide +kernel) rfl
theorem k_500 : (Jvm.Cond.methodLink "java/lang/Exception" 7 { cls := "java/lang/Throwable", name := "<init>", desc := "(Ljava/lang/String;)V" }) ∈ wG := wG_in 500 (by decide +kernel) rfl
theorem k_501 : (Jvm.Cond.instanceMethod { cls := "java/lang/Throwable", name := "<init>", desc := "(Ljava/lang/String;)V" }) ∈ wG := wG_in 501 (by decide +kernel) rfl
theorem k_502 : (Jvm.Cond.code { cls := "java/lang/Throwable", name := "<init>", desc := "(Ljava/lang/String;)V" } prog_15_method_2_code 2 none) ∈ wG := wG_in 502 (by decide +kernel) rfl
theorem k_504 : (Jvm.Cond.fieldLink "java/lang/Throwable" 31 "java/lang/Throwable" "detailMessage" "Ljava/lang/String;") ∈ wG := wG_in 504 (by decide +kernel) rfl
theorem k_505 : (Jvm.Cond.fieldLink "java/lang/Throwable" 7 "java/lang/Throwable" "cause" "Ljava/lang/Throwable;") ∈ wG := wG_in 505 (by decide +kernel) rfl
theorem k_506 : (Jvm.Cond.fieldLink "java/lang/Throwable" 17 "java/lang/Throwable" "stackTrace" "[Ljava/lang/StackTraceElement;") ∈ wG := wG_in 506 (by decide +kernel) rfl
theorem k_507 : (Jvm.Cond.fieldLink "java/lang/Throwable" 24 "java/lang/Throwable" "suppressedExceptions" "Ljava/util/List;") ∈ wG := wG_in 507 (by decide +kernel) rfl
theorem k_516 : (Jvm.Cond.arrayClass .byte) ∈ wG := wG_in 516 (by decide +kernel) rfl
theorem k_517 : (Jvm.Cond.classLink "FundBookLaw" 24 "FundBookModel") ∈ wG := wG_in 517 (by decide +kernel) rfl
theorem k_518 : (Jvm.Cond.instantiable "FundBookModel" 31) ∈ wG := wG_in 518 (by decide +kernel) rfl
theorem k_519 : (Jvm.Cond.methodLink "FundBookLaw" 26 { cls := "FundBookModel", name := "<init>", desc := "(I)V" }) ∈ wG := wG_in 519 (by decide +kernel) rfl
theorem k_520 : (Jvm.Cond.instanceMethod { cls := "FundBookModel", name := "<init>", desc := "(I)V" }) ∈ wG := wG_in 520 (by decide +kernel) rfl
theorem k_521 : (Jvm.Cond.code { cls := "FundBookModel", name := "<init>", desc := "(I)V" } prog_9_method_1_code 2 none) ∈ wG := wG_in 521 (by decide +kernel) rfl
theorem k_522 : (Jvm.Cond.methodLink "FundBookModel" 1 { cls := "java/lang/Object", name := "<init>", desc := "()V" }) ∈ wG := wG_in 522 (by decide +kernel) rfl
theorem k_523 : (Jvm.Cond.fieldLink "FundBookModel" 91 "FundBookModel" "thrown" "I") ∈ wG := wG_in 523 (by decide +kernel) rfl
theorem k_524 : (Jvm.Cond.fieldLink "FundBookModel" 88 "FundBookModel" "year" "I") ∈ wG := wG_in 524 (by decide +kernel) rfl
theorem k_525 : (Jvm.Cond.fieldLink "FundBookModel" 94 "FundBookModel" "funds" "I") ∈ wG := wG_in 525 (by decide +kernel) rfl
theorem k_526 : (Jvm.Cond.fieldLink "FundBookModel" 7 "FundBookModel" "carry" "[I") ∈ wG := wG_in 526 (by decide +kernel) rfl
theorem k_527 : (Jvm.Cond.fieldLink "FundBookModel" 13 "FundBookModel" "given" "[J") ∈ wG := wG_in 527 (by decide +kernel) rfl
theorem k_528 : (Jvm.Cond.fieldLink "FundBookModel" 17 "FundBookModel" "spent" "[J") ∈ wG := wG_in 528 (by decide +kernel) rfl
theorem k_529 : (Jvm.Cond.fieldLink "FundBookModel" 101 "FundBookModel" "orders" "I") ∈ wG := wG_in 529 (by decide +kernel) rfl
theorem k_530 : (Jvm.Cond.fieldLink "FundBookModel" 20 "FundBookModel" "fund" "[I") ∈ wG := wG_in 530 (by decide +kernel) rfl
theorem k_531 : (Jvm.Cond.fieldLink "FundBookModel" 23 "FundBookModel" "cents" "[I") ∈ wG := wG_in 531 (by decide +kernel) rfl
theorem k_532 : (Jvm.Cond.fieldLink "FundBookModel" 26 "FundBookModel" "standing" "[Z") ∈ wG := wG_in 532 (by decide +kernel) rfl
theorem k_533 : (Jvm.Cond.fieldLink "FundBookModel" 30 "FundBookModel" "state" "[I") ∈ wG := wG_in 533 (by decide +kernel) rfl
theorem k_534 : (Jvm.Cond.fieldLink "FundBookModel" 33 "FundBookModel" "firstBy" "[I") ∈ wG := wG_in 534 (by decide +kernel) rfl
theorem k_535 : (Jvm.Cond.fieldLink "FundBookModel" 36 "FundBookModel" "approved" "[I") ∈ wG := wG_in 535 (by decide +kernel) rfl
theorem k_536 : (Jvm.Cond.fieldLink "FundBookModel" 39 "FundBookModel" "difference" "[J") ∈ wG := wG_in 536 (by decide +kernel) rfl
theorem k_537 : (Jvm.Cond.fieldLink "FundBookModel" 42 "FundBookModel" "invoices" "[I") ∈ wG := wG_in 537 (by decide +kernel) rfl
theorem k_538 : (Jvm.Cond.fieldLink "FundBookModel" 45 "FundBookModel" "month" "[I") ∈ wG := wG_in 538 (by decide +kernel) rfl
theorem k_539 : (Jvm.Cond.fieldLink "FundBookModel" 159 "FundBookModel" "transfers" "I") ∈ wG := wG_in 539 (by decide +kernel) rfl
theorem k_540 : (Jvm.Cond.fieldLink "FundBookModel" 48 "FundBookModel" "from" "[I") ∈ wG := wG_in 540 (by decide +kernel) rfl
theorem k_541 : (Jvm.Cond.fieldLink "FundBookModel" 51 "FundBookModel" "to" "[I") ∈ wG := wG_in 541 (by decide +kernel) rfl
theorem k_542 : (Jvm.Cond.fieldLink "FundBookModel" 54 "FundBookModel" "sum" "[I") ∈ wG := wG_in 542 (by decide +kernel) rfl
theorem k_543 : (Jvm.Cond.fieldLink "FundBookModel" 57 "FundBookModel" "happened" "[Z") ∈ wG := wG_in 543 (by decide +kernel) rfl
theorem k_544 : (Jvm.Cond.fieldLink "FundBookModel" 60 "FundBookModel" "agreed" "[Z") ∈ wG := wG_in 544 (by decide +kernel) rfl
theorem k_545 : (Jvm.Cond.fieldLink "FundBookModel" 63 "FundBookModel" "band" "I") ∈ wG := wG_in 545 (by decide +kernel) rfl
theorem k_546 : (Jvm.Cond.fieldLink "FundBookModel" 67 "FundBookModel" "rows" "[I") ∈ wG := wG_in 546 (by decide +kernel) rfl
theorem k_547 : (Jvm.Cond.fieldLink "FundBookModel" 70 "FundBookModel" "day" "[I") ∈ wG := wG_in 547 (by decide +kernel) rfl
theorem k_548 : (Jvm.Cond.fieldLink "FundBookModel" 73 "FundBookModel" "up" "[I") ∈ wG := wG_in 548 (by decide +kernel) rfl
theorem k_549 : (Jvm.Cond.fieldLink "FundBookModel" 76 "FundBookModel" "down" "[I") ∈ wG := wG_in 549 (by decide +kernel) rfl
theorem k_550 : (Jvm.Cond.fieldLink "FundBookModel" 164 "FundBookModel" "batch" "I") ∈ wG := wG_in 550 (by decide +kernel) rfl
theorem k_551 : (Jvm.Cond.fieldLink "FundBookModel" 79 "FundBookModel" "batchFund" "[I") ∈ wG := wG_in 551 (by decide +kernel) rfl
theorem k_552 : (Jvm.Cond.fieldLink "FundBookModel" 82 "FundBookModel" "batchCents" "[I") ∈ wG := wG_in 552 (by decide +kernel) rfl
theorem k_553 : (Jvm.Cond.fieldLink "FundBookModel" 85 "FundBookModel" "failing" "I") ∈ wG := wG_in 553 (by decide +kernel) rfl
theorem k_617 : (Jvm.Cond.arrayClass .int) ∈ wG := wG_in 617 (by decide +kernel) rfl
theorem k_618 : (Jvm.Cond.arrayClass .long) ∈ wG := wG_in 618 (by decide +kernel) rfl
theorem k_619 : (Jvm.Cond.arrayClass .boolean) ∈ wG := wG_in 619 (by decide +kernel) rfl
theorem k_620 : (Jvm.Cond.methodLink "FundBookLaw" 84 { cls := "FundBookModel", name := "thrown", desc := "()I" }) ∈ wG := wG_in 620 (by decide +kernel) rfl
theorem k_621 : (Jvm.Cond.instanceMethod { cls := "FundBookModel", name := "thrown", desc := "()I" }) ∈ wG := wG_in 621 (by decide +kernel) rfl
theorem k_622 : (Jvm.Cond.selects "FundBookModel" { cls := "FundBookModel", name := "thrown", desc := "()I" } { cls := "FundBookModel", name := "thrown", desc := "()I" }) ∈ wG := wG_in 622 (by decide +kernel) rfl
theorem k_623 : (Jvm.Cond.code { cls := "FundBookModel", name := "thrown", desc := "()I" } prog_9_method_2_code 1 (some .int)) ∈ wG := wG_in 623 (by decide +kernel) rfl
theorem k_624 : (Jvm.Cond.methodLink "FundBookLaw" 31 { cls := "FundBookModel", name := "fund", desc := "(I)I" }) ∈ wG := wG_in 624 (by decide +kernel) rfl
theorem k_625 : (Jvm.Cond.instanceMethod { cls := "FundBookModel", name := "fund", desc := "(I)I" }) ∈ wG := wG_in 625 (by decide +kernel) rfl
theorem k_626 : (Jvm.Cond.selects "FundBookModel" { cls := "FundBookModel", name := "fund", desc := "(I)I" } { cls := "FundBookModel", name := "fund", desc := "(I)I" }) ∈ wG := wG_in 626 (by decide +kernel) rfl
theorem k_627 : (Jvm.Cond.code { cls := "FundBookModel", name := "fund", desc := "(I)I" } prog_9_method_9_code 2 (some .int)) ∈ wG := wG_in 627 (by decide +kernel) rfl
theorem k_628 : (Jvm.Cond.constantLong "FundBookModel" 116 2) ∈ wG := wG_in 628 (by decide +kernel) rfl
theorem k_629 : (Jvm.Cond.methodLink "FundBookModel" 97 { cls := "FundBookModel", name := "in", desc := "(JJJ)Z" }) ∈ wG := wG_in 629 (by decide +kernel) rfl
theorem k_630 : (Jvm.Cond.static { cls := "FundBookModel", name := "in", desc := "(JJJ)Z" }) ∈ wG := wG_in 630 (by decide +kernel) rfl
theorem k_631 : (Jvm.Cond.code { cls := "FundBookModel", name := "in", desc := "(JJJ)Z" } prog_9_method_3_code 6 (some .boolean)) ∈ wG := wG_in 631 (by decide +kernel) rfl
theorem k_632 : (Jvm.Cond.methodLink "FundBookLaw" 38 { cls := "FundBookModel", name := "give", desc := "(IJ)I" }) ∈ wG := wG_in 632 (by decide +kernel) rfl
theorem k_633 : (Jvm.Cond.instanceMethod { cls := "FundBookModel", name := "give", desc := "(IJ)I" }) ∈ wG := wG_in 633 (by decide +kernel) rfl
theorem k_634 : (Jvm.Cond.selects "FundBookModel" { cls := "FundBookModel", name := "give", desc := "(IJ)I" } { cls := "FundBookModel", name := "give", desc := "(IJ)I" }) ∈ wG := wG_in 634 (by decide +kernel) rfl
theorem k_635 : (Jvm.Cond.code { cls := "FundBookModel", name := "give", desc := "(IJ)I" } prog_9_method_10_code 4 (some .int)) ∈ wG := wG_in 635 (by decide +kernel) rfl
theorem k_636 : (Jvm.Cond.methodLink "FundBookModel" 118 { cls := "FundBookModel", name := "isFund", desc := "(I)Z" }) ∈ wG := wG_in 636 (by decide +kernel) rfl
theorem k_638 : (Jvm.Cond.instanceMethod { cls := "FundBookModel", name := "isFund", desc := "(I)Z" }) ∈ wG := wG_in 638 (by decide +kernel) rfl
theorem k_639 : (Jvm.Cond.code { cls := "FundBookModel", name := "isFund", desc := "(I)Z" } prog_9_method_4_code 2 (some .boolean)) ∈ wG := wG_in 639 (by decide +kernel) rfl
theorem k_640 : (Jvm.Cond.constantLong "FundBookModel" 122 1000000000000) ∈ wG := wG_in 640 (by decide +kernel) rfl
theorem k_641 : (Jvm.Cond.methodLink "FundBookModel" 124 { cls := "FundBookModel", name := "fits", desc := "(IJJJ)Z" }) ∈ wG := wG_in 641 (by decide +kernel) rfl
theorem k_643 : (Jvm.Cond.instanceMethod { cls := "FundBookModel", name := "fits", desc := "(IJJJ)Z" }) ∈ wG := wG_in 643 (by decide +kernel) rfl
theorem k_644 : (Jvm.Cond.code { cls := "FundBookModel", name := "fits", desc := "(IJJJ)Z" } prog_9_method_8_code 14 (some .boolean)) ∈ wG := wG_in 644 (by decide +kernel) rfl
theorem k_645 : (Jvm.Cond.methodLink "FundBookModel" 104 { cls := "FundBookModel", name := "encumbered", desc := "(I)J" }) ∈ wG := wG_in 645 (by decide +kernel) rfl
theorem k_647 : (Jvm.Cond.instanceMethod { cls := "FundBookModel", name := "encumbered", desc := "(I)J" }) ∈ wG := wG_in 647 (by decide +kernel) rfl
theorem k_648 : (Jvm.Cond.code { cls := "FundBookModel", name := "encumbered", desc := "(I)J" } prog_9_method_5_code 5 (some .long)) ∈ wG := wG_in 648 (by decide +kernel) rfl
theorem k_649 : (Jvm.Cond.methodLink "FundBookModel" 112 { cls := "FundBookModel", name := "isBound", desc := "(J)Z" }) ∈ wG := wG_in 649 (by decide +kernel) rfl
theorem k_650 : (Jvm.Cond.static { cls := "FundBookModel", name := "isBound", desc := "(J)Z" }) ∈ wG := wG_in 650 (by decide +kernel) rfl
theorem k_651 : (Jvm.Cond.code { cls := "FundBookModel", name := "isBound", desc := "(J)Z" } prog_9_method_7_code 2 (some .boolean)) ∈ wG := wG_in 651 (by decide +kernel) rfl
theorem k_652 : (Jvm.Cond.constantLong "FundBookModel" 108 (-1000000000000000)) ∈ wG := wG_in 652 (by decide +kernel) rfl
theorem k_653 : (Jvm.Cond.constantLong "FundBookModel" 110 1000000000000000) ∈ wG := wG_in 653 (by decide +kernel) rfl
theorem k_654 : (Jvm.Cond.methodLink "FundBookLaw" 43 { cls := "FundBookModel", name := "order", desc := "(IIZ)I" }) ∈ wG := wG_in 654 (by decide +kernel) rfl
theorem k_655 : (Jvm.Cond.instanceMethod { cls := "FundBookModel", name := "order", desc := "(IIZ)I" }) ∈ wG := wG_in 655 (by decide +kernel) rfl
theorem k_656 : (Jvm.Cond.selects "FundBookModel" { cls := "FundBookModel", name := "order", desc := "(IIZ)I" } { cls := "FundBookModel", name := "order", desc := "(IIZ)I" }) ∈ wG := wG_in 656 (by decide +kernel) rfl
theorem k_657 : (Jvm.Cond.code { cls := "FundBookModel", name := "order", desc := "(IIZ)I" } prog_9_method_11_code 5 (some .int)) ∈ wG := wG_in 657 (by decide +kernel) rfl
theorem k_658 : (Jvm.Cond.constantLong "FundBookModel" 128 1000000000) ∈ wG := wG_in 658 (by decide +kernel) rfl
theorem k_659 : (Jvm.Cond.methodLink "FundBookModel" 130 { cls := "FundBookModel", name := "free", desc := "(I)J" }) ∈ wG := wG_in 659 (by decide +kernel) rfl
theorem k_661 : (Jvm.Cond.instanceMethod { cls := "FundBookModel", name := "free", desc := "(I)J" }) ∈ wG := wG_in 661 (by decide +kernel) rfl
theorem k_662 : (Jvm.Cond.code { cls := "FundBookModel", name := "free", desc := "(I)J" } prog_9_method_6_code 2 (some .long)) ∈ wG := wG_in 662 (by decide +kernel) rfl
theorem k_663 : (Jvm.Cond.methodLink "FundBookLaw" 48 { cls := "FundBookModel", name := "approve", desc := "(II)I" }) ∈ wG := wG_in 663 (by decide +kernel) rfl
theorem k_664 : (Jvm.Cond.instanceMethod { cls := "FundBookModel", name := "approve", desc := "(II)I" }) ∈ wG := wG_in 664 (by decide +kernel) rfl
theorem k_665 : (Jvm.Cond.selects "FundBookModel" { cls := "FundBookModel", name := "approve", desc := "(II)I" } { cls := "FundBookModel", name := "approve", desc := "(II)I" }) ∈ wG := wG_in 665 (by decide +kernel) rfl
theorem k_666 : (Jvm.Cond.code { cls := "FundBookModel", name := "approve", desc := "(II)I" } prog_9_method_12_code 3 (some .int)) ∈ wG := wG_in 666 (by decide +kernel) rfl
theorem k_667 : (Jvm.Cond.constantLong "FundBookModel" 133 99) ∈ wG := wG_in 667 (by decide +kernel) rfl
theorem k_668 : (Jvm.Cond.methodLink "FundBookLaw" 53 { cls := "FundBookModel", name := "invoice", desc := "(IIII)J" }) ∈ wG := wG_in 668 (by decide +kernel) rfl
theorem k_669 : (Jvm.Cond.instanceMethod { cls := "FundBookModel", name := "invoice", desc := "(IIII)J" }) ∈ wG := wG_in 669 (by decide +kernel) rfl
theorem k_670 : (Jvm.Cond.selects "FundBookModel" { cls := "FundBookModel", name := "invoice", desc := "(IIII)J" } { cls := "FundBookModel", name := "invoice", desc := "(IIII)J" }) ∈ wG := wG_in 670 (by decide +kernel) rfl
theorem k_671 : (Jvm.Cond.code { cls := "FundBookModel", name := "invoice", desc := "(IIII)J" } prog_9_method_14_code 10 (some .long)) ∈ wG := wG_in 671 (by decide +kernel) rfl
theorem k_672 : (Jvm.Cond.constantLong "FundBookModel" 135 (-1)) ∈ wG := wG_in 672 (by decide +kernel) rfl
theorem k_673 : (Jvm.Cond.constantLong "FundBookModel" 137 9) ∈ wG := wG_in 673 (by decide +kernel) rfl
theorem k_674 : (Jvm.Cond.constantLong "FundBookModel" 139 100000) ∈ wG := wG_in 674 (by decide +kernel) rfl
theorem k_675 : (Jvm.Cond.constantLong "FundBookModel" 141 (-2)) ∈ wG := wG_in 675 (by decide +kernel) rfl
theorem k_676 : (Jvm.Cond.constantLong "FundBookModel" 143 (-3)) ∈ wG := wG_in 676 (by decide +kernel) rfl
theorem k_677 : (Jvm.Cond.methodLink "FundBookModel" 145 { cls := "FundBookModel", name := "rowOn", desc := "(II)I" }) ∈ wG := wG_in 677 (by decide +kernel) rfl
theorem k_679 : (Jvm.Cond.instanceMethod { cls := "FundBookModel", name := "rowOn", desc := "(II)I" }) ∈ wG := wG_in 679 (by decide +kernel) rfl
theorem k_680 : (Jvm.Cond.code { cls := "FundBookModel", name := "rowOn", desc := "(II)I" } prog_9_method_13_code 5 (some .int)) ∈ wG := wG_in 680 (by decide +kernel) rfl
theorem k_681 : (Jvm.Cond.constantLong "FundBookModel" 149 (-6)) ∈ wG := wG_in 681 (by decide +kernel) rfl
theorem k_682 : (Jvm.Cond.constantLong "FundBookModel" 151 1000) ∈ wG := wG_in 682 (by decide +kernel) rfl
theorem k_683 : (Jvm.Cond.constantLong "FundBookModel" 153 (-5)) ∈ wG := wG_in 683 (by decide +kernel) rfl
theorem k_684 : (Jvm.Cond.constantLong "FundBookModel" 155 (-4)) ∈ wG := wG_in 684 (by decide +kernel) rfl
theorem k_685 : (Jvm.Cond.methodLink "FundBookLaw" 57 { cls := "FundBookModel", name := "cancel", desc := "(I)I" }) ∈ wG := wG_in 685 (by decide +kernel) rfl
theorem k_686 : (Jvm.Cond.instanceMethod { cls := "FundBookModel", name := "cancel", desc := "(I)I" }) ∈ wG := wG_in 686 (by decide +kernel) rfl
theorem k_687 : (Jvm.Cond.selects "FundBookModel" { cls := "FundBookModel", name := "cancel", desc := "(I)I" } { cls := "FundBookModel", name := "cancel", desc := "(I)I" }) ∈ wG := wG_in 687 (by decide +kernel) rfl
theorem k_688 : (Jvm.Cond.code { cls := "FundBookModel", name := "cancel", desc := "(I)I" } prog_9_method_15_code 3 (some .int)) ∈ wG := wG_in 688 (by decide +kernel) rfl
theorem k_689 : (Jvm.Cond.methodLink "FundBookLaw" 61 { cls := "FundBookModel", name := "band", desc := "(I)I" }) ∈ wG := wG_in 689 (by decide +kernel) rfl
theorem k_690 : (Jvm.Cond.instanceMethod { cls := "FundBookModel", name := "band", desc := "(I)I" }) ∈ wG := wG_in 690 (by decide +kernel) rfl
theorem k_691 : (Jvm.Cond.selects "FundBookModel" { cls := "FundBookModel", name := "band", desc := "(I)I" } { cls := "FundBookModel", name := "band", desc := "(I)I" }) ∈ wG := wG_in 691 (by decide +kernel) rfl
theorem k_692 : (Jvm.Cond.code { cls := "FundBookModel", name := "band", desc := "(I)I" } prog_9_method_16_code 2 (some .int)) ∈ wG := wG_in 692 (by decide +kernel) rfl
theorem k_693 : (Jvm.Cond.methodLink "FundBookLaw" 66 { cls := "FundBookModel", name := "currency", desc := "(IIII)I" }) ∈ wG := wG_in 693 (by decide +kernel) rfl
theorem k_694 : (Jvm.Cond.instanceMethod { cls := "FundBookModel", name := "currency", desc := "(IIII)I" }) ∈ wG := wG_in 694 (by decide +kernel) rfl
theorem k_695 : (Jvm.Cond.selects "FundBookModel" { cls := "FundBookModel", name := "currency", desc := "(IIII)I" } { cls := "FundBookModel", name := "currency", desc := "(IIII)I" }) ∈ wG := wG_in 695 (by decide +kernel) rfl
theorem k_696 : (Jvm.Cond.code { cls := "FundBookModel", name := "currency", desc := "(IIII)I" } prog_9_method_17_code 6 (some .int)) ∈ wG := wG_in 696 (by decide +kernel) rfl
theorem k_697 : (Jvm.Cond.constantLong "FundBookModel" 157 1000000) ∈ wG := wG_in 697 (by decide +kernel) rfl
theorem k_698 : (Jvm.Cond.methodLink "FundBookLaw" 71 { cls := "FundBookModel", name := "transfer", desc := "(III)I" }) ∈ wG := wG_in 698 (by decide +kernel) rfl
theorem k_699 : (Jvm.Cond.instanceMethod { cls := "FundBookModel", name := "transfer", desc := "(III)I" }) ∈ wG := wG_in 699 (by decide +kernel) rfl
theorem k_700 : (Jvm.Cond.selects "FundBookModel" { cls := "FundBookModel", name := "transfer", desc := "(III)I" } { cls := "FundBookModel", name := "transfer", desc := "(III)I" }) ∈ wG := wG_in 700 (by decide +kernel) rfl
theorem k_701 : (Jvm.Cond.code { cls := "FundBookModel", name := "transfer", desc := "(III)I" } prog_9_method_18_code 4 (some .int)) ∈ wG := wG_in 701 (by decide +kernel) rfl
theorem k_702 : (Jvm.Cond.methodLink "FundBookLaw" 75 { cls := "FundBookModel", name := "agree", desc := "(II)I" }) ∈ wG := wG_in 702 (by decide +kernel) rfl
theorem k_703 : (Jvm.Cond.instanceMethod { cls := "FundBookModel", name := "agree", desc := "(II)I" }) ∈ wG := wG_in 703 (by decide +kernel) rfl
theorem k_704 : (Jvm.Cond.selects "FundBookModel" { cls := "FundBookModel", name := "agree", desc := "(II)I" } { cls := "FundBookModel", name := "agree", desc := "(II)I" }) ∈ wG := wG_in 704 (by decide +kernel) rfl
theorem k_705 : (Jvm.Cond.code { cls := "FundBookModel", name := "agree", desc := "(II)I" } prog_9_method_19_code 5 (some .int)) ∈ wG := wG_in 705 (by decide +kernel) rfl
theorem k_706 : (Jvm.Cond.methodLink "FundBookLaw" 79 { cls := "FundBookModel", name := "row", desc := "(II)I" }) ∈ wG := wG_in 706 (by decide +kernel) rfl
theorem k_707 : (Jvm.Cond.instanceMethod { cls := "FundBookModel", name := "row", desc := "(II)I" }) ∈ wG := wG_in 707 (by decide +kernel) rfl
theorem k_708 : (Jvm.Cond.selects "FundBookModel" { cls := "FundBookModel", name := "row", desc := "(II)I" } { cls := "FundBookModel", name := "row", desc := "(II)I" }) ∈ wG := wG_in 708 (by decide +kernel) rfl
theorem k_709 : (Jvm.Cond.code { cls := "FundBookModel", name := "row", desc := "(II)I" } prog_9_method_20_code 3 (some .int)) ∈ wG := wG_in 709 (by decide +kernel) rfl
theorem k_710 : (Jvm.Cond.constantLong "FundBookModel" 162 (-1000000000)) ∈ wG := wG_in 710 (by decide +kernel) rfl
theorem k_711 : (Jvm.Cond.methodLink "FundBookLaw" 83 { cls := "FundBookModel", name := "post", desc := "()I" }) ∈ wG := wG_in 711 (by decide +kernel) rfl
theorem k_712 : (Jvm.Cond.instanceMethod { cls := "FundBookModel", name := "post", desc := "()I" }) ∈ wG := wG_in 712 (by decide +kernel) rfl
theorem k_713 : (Jvm.Cond.selects "FundBookModel" { cls := "FundBookModel", name := "post", desc := "()I" } { cls := "FundBookModel", name := "post", desc := "()I" }) ∈ wG := wG_in 713 (by decide +kernel) rfl
theorem k_714 : (Jvm.Cond.code { cls := "FundBookModel", name := "post", desc := "()I" } prog_9_method_22_code 6 (some .int)) ∈ wG := wG_in 714 (by decide +kernel) rfl
theorem k_715 : (Jvm.Cond.methodLink "FundBookModel" 167 { cls := "FundBookModel", name := "batched", desc := "(I)J" }) ∈ wG := wG_in 715 (by decide +kernel) rfl
theorem k_717 : (Jvm.Cond.instanceMethod { cls := "FundBookModel", name := "batched", desc := "(I)J" }) ∈ wG := wG_in 717 (by decide +kernel) rfl
theorem k_718 : (Jvm.Cond.code { cls := "FundBookModel", name := "batched", desc := "(I)J" } prog_9_method_21_code 5 (some .long)) ∈ wG := wG_in 718 (by decide +kernel) rfl
theorem k_719 : (Jvm.Cond.methodLink "FundBookLaw" 90 { cls := "FundBookModel", name := "failing", desc := "()I" }) ∈ wG := wG_in 719 (by decide +kernel) rfl
theorem k_720 : (Jvm.Cond.instanceMethod { cls := "FundBookModel", name := "failing", desc := "()I" }) ∈ wG := wG_in 720 (by decide +kernel) rfl
theorem k_721 : (Jvm.Cond.selects "FundBookModel" { cls := "FundBookModel", name := "failing", desc := "()I" } { cls := "FundBookModel", name := "failing", desc := "()I" }) ∈ wG := wG_in 721 (by decide +kernel) rfl
theorem k_722 : (Jvm.Cond.code { cls := "FundBookModel", name := "failing", desc := "()I" } prog_9_method_23_code 1 (some .int)) ∈ wG := wG_in 722 (by decide +kernel) rfl
theorem k_723 : (Jvm.Cond.methodLink "FundBookLaw" 94 { cls := "FundBookModel", name := "close", desc := "()I" }) ∈ wG := wG_in 723 (by decide +kernel) rfl
theorem k_724 : (Jvm.Cond.instanceMethod { cls := "FundBookModel", name := "close", desc := "()I" }) ∈ wG := wG_in 724 (by decide +kernel) rfl
theorem k_725 : (Jvm.Cond.selects "FundBookModel" { cls := "FundBookModel", name := "close", desc := "()I" } { cls := "FundBookModel", name := "close", desc := "()I" }) ∈ wG := wG_in 725 (by decide +kernel) rfl
theorem k_726 : (Jvm.Cond.code { cls := "FundBookModel", name := "close", desc := "()I" } prog_9_method_24_code 6 (some .int)) ∈ wG := wG_in 726 (by decide +kernel) rfl
theorem k_727 : (Jvm.Cond.methodLink "FundBookLaw" 99 { cls := "FundBookModel", name := "about", desc := "(II)J" }) ∈ wG := wG_in 727 (by decide +kernel) rfl
theorem k_728 : (Jvm.Cond.instanceMethod { cls := "FundBookModel", name := "about", desc := "(II)J" }) ∈ wG := wG_in 728 (by decide +kernel) rfl
theorem k_729 : (Jvm.Cond.selects "FundBookModel" { cls := "FundBookModel", name := "about", desc := "(II)J" } { cls := "FundBookModel", name := "about", desc := "(II)J" }) ∈ wG := wG_in 729 (by decide +kernel) rfl
theorem k_730 : (Jvm.Cond.code { cls := "FundBookModel", name := "about", desc := "(II)J" } prog_9_method_25_code 3 (some .long)) ∈ wG := wG_in 730 (by decide +kernel) rfl
theorem k_731 : (Jvm.Cond.constantLong "FundBookModel" 170 (-1000000000000000001)) ∈ wG := wG_in 731 (by decide +kernel) rfl
theorem k_732 : (Jvm.Cond.methodLink "FundBookLaw" 103 { cls := "FundBookModel", name := "told", desc := "(II)J" }) ∈ wG := wG_in 732 (by decide +kernel) rfl
theorem k_733 : (Jvm.Cond.instanceMethod { cls := "FundBookModel", name := "told", desc := "(II)J" }) ∈ wG := wG_in 733 (by decide +kernel) rfl
theorem k_734 : (Jvm.Cond.selects "FundBookModel" { cls := "FundBookModel", name := "told", desc := "(II)J" } { cls := "FundBookModel", name := "told", desc := "(II)J" }) ∈ wG := wG_in 734 (by decide +kernel) rfl
theorem k_735 : (Jvm.Cond.code { cls := "FundBookModel", name := "told", desc := "(II)J" } prog_9_method_26_code 3 (some .long)) ∈ wG := wG_in 735 (by decide +kernel) rfl
theorem k_736 : (Jvm.Cond.methodLink "FundBookLaw" 108 { cls := "FundBookModel", name := "sum", desc := "(I)J" }) ∈ wG := wG_in 736 (by decide +kernel) rfl
theorem k_737 : (Jvm.Cond.instanceMethod { cls := "FundBookModel", name := "sum", desc := "(I)J" }) ∈ wG := wG_in 737 (by decide +kernel) rfl
theorem k_738 : (Jvm.Cond.selects "FundBookModel" { cls := "FundBookModel", name := "sum", desc := "(I)J" } { cls := "FundBookModel", name := "sum", desc := "(I)J" }) ∈ wG := wG_in 738 (by decide +kernel) rfl
theorem k_739 : (Jvm.Cond.code { cls := "FundBookModel", name := "sum", desc := "(I)J" } prog_9_method_27_code 5 (some .long)) ∈ wG := wG_in 739 (by decide +kernel) rfl
theorem k_740 : (Jvm.Cond.constantLong "FundBookLaw" 32 4294967295) ∈ wG := wG_in 740 (by decide +kernel) rfl
