-- ===== PART A: goes FIRST, ahead of the names: the tables' words, and 'selects' of the private methods out of them =====
/-- a private method of a class that the tables say can be made, by its rows of tables_1 -/
def lw_okq (q : MethodName × Nat) : Prop := (q.1.cls ≠ "java/lang/invoke/MethodHandle" ∧ q.1.cls ≠ "java/lang/invoke/VarHandle") ∧ Cond.instantiable q.1.cls q.2 ∈ tables_1 ∧ Cond.privateMethod q.1 ∈ tables_1 ∧ Cond.instanceMethod q.1 ∈ tables_1
theorem lw_p0 : lw_okq (⟨"NearFinder", "look", "(IIZ)I"⟩, 9) := ⟨⟨by decide +kernel, by decide +kernel⟩, List.mem_of_getElem? (i := 16) (by decide +kernel), List.mem_of_getElem? (i := 260) (by decide +kernel), List.mem_of_getElem? (i := 261) (by decide +kernel)⟩
theorem lw_p1 : lw_okq (⟨"NearFinder", "isLookedFor", "(I)Z"⟩, 9) := ⟨⟨by decide +kernel, by decide +kernel⟩, List.mem_of_getElem? (i := 16) (by decide +kernel), List.mem_of_getElem? (i := 268) (by decide +kernel), List.mem_of_getElem? (i := 269) (by decide +kernel)⟩
theorem lw_p2 : lw_okq (⟨"NearFinder", "leastOfWays", "(ILNearFinder$Measure;)I"⟩, 9) := ⟨⟨by decide +kernel, by decide +kernel⟩, List.mem_of_getElem? (i := 16) (by decide +kernel), List.mem_of_getElem? (i := 272) (by decide +kernel), List.mem_of_getElem? (i := 273) (by decide +kernel)⟩
theorem lw_p3 : lw_okq (⟨"NearFinder", "costOfPair", "(IILNearFinder$Measure;)I"⟩, 9) := ⟨⟨by decide +kernel, by decide +kernel⟩, List.mem_of_getElem? (i := 16) (by decide +kernel), List.mem_of_getElem? (i := 288) (by decide +kernel), List.mem_of_getElem? (i := 289) (by decide +kernel)⟩
theorem lw_p4 : lw_okq (⟨"NearFinder$ByChanges", "nextRow", "(I[III)V"⟩, 2) := ⟨⟨by decide +kernel, by decide +kernel⟩, List.mem_of_getElem? (i := 89) (by decide +kernel), List.mem_of_getElem? (i := 307) (by decide +kernel), List.mem_of_getElem? (i := 308) (by decide +kernel)⟩
theorem lw_p5 : lw_okq (⟨"NearFinder$ByCounts", "sharedLetters", "(LNearFinder$Words;ILNearFinder$Words;I)I"⟩, 2) := ⟨⟨by decide +kernel, by decide +kernel⟩, List.mem_of_getElem? (i := 102) (by decide +kernel), List.mem_of_getElem? (i := 335) (by decide +kernel), List.mem_of_getElem? (i := 336) (by decide +kernel)⟩
theorem lw_p6 : lw_okq (⟨"NearFinder$Pairing", "totalOf", "(I)I"⟩, 4) := ⟨⟨by decide +kernel, by decide +kernel⟩, List.mem_of_getElem? (i := 115) (by decide +kernel), List.mem_of_getElem? (i := 356) (by decide +kernel), List.mem_of_getElem? (i := 357) (by decide +kernel)⟩
theorem lw_p7 : lw_okq (⟨"NearFinder$Hits", "isNearer", "(III)Z"⟩, 6) := ⟨⟨by decide +kernel, by decide +kernel⟩, List.mem_of_getElem? (i := 135) (by decide +kernel), List.mem_of_getElem? (i := 385) (by decide +kernel), List.mem_of_getElem? (i := 386) (by decide +kernel)⟩
theorem lw_p8 : lw_okq (⟨"NearFinder$Hits", "copy", "(II)V"⟩, 6) := ⟨⟨by decide +kernel, by decide +kernel⟩, List.mem_of_getElem? (i := 135) (by decide +kernel), List.mem_of_getElem? (i := 389) (by decide +kernel), List.mem_of_getElem? (i := 390) (by decide +kernel)⟩
theorem lw_p9 : lw_okq (⟨"java/lang/Throwable", "fillInStackTrace", "(I)Ljava/lang/Throwable;"⟩, 6) := ⟨⟨by decide +kernel, by decide +kernel⟩, List.mem_of_getElem? (i := 491) (by decide +kernel), List.mem_of_getElem? (i := 489) (by decide +kernel), List.mem_of_getElem? (i := 490) (by decide +kernel)⟩
theorem lw_p10 : lw_okq (⟨"NearFinderModel", "isEntry", "(I)Z"⟩, 17) := ⟨⟨by decide +kernel, by decide +kernel⟩, List.mem_of_getElem? (i := 522) (by decide +kernel), List.mem_of_getElem? (i := 592) (by decide +kernel), List.mem_of_getElem? (i := 593) (by decide +kernel)⟩
theorem lw_p11 : lw_okq (⟨"NearFinderModel", "add", "(II)Z"⟩, 17) := ⟨⟨by decide +kernel, by decide +kernel⟩, List.mem_of_getElem? (i := 522) (by decide +kernel), List.mem_of_getElem? (i := 599) (by decide +kernel), List.mem_of_getElem? (i := 600) (by decide +kernel)⟩
theorem lw_p12 : lw_okq (⟨"NearFinderModel", "look", "(IIZ)I"⟩, 17) := ⟨⟨by decide +kernel, by decide +kernel⟩, List.mem_of_getElem? (i := 522) (by decide +kernel), List.mem_of_getElem? (i := 619) (by decide +kernel), List.mem_of_getElem? (i := 620) (by decide +kernel)⟩
theorem lw_p13 : lw_okq (⟨"NearFinderModel", "words", "(I)I"⟩, 17) := ⟨⟨by decide +kernel, by decide +kernel⟩, List.mem_of_getElem? (i := 522) (by decide +kernel), List.mem_of_getElem? (i := 623) (by decide +kernel), List.mem_of_getElem? (i := 624) (by decide +kernel)⟩
theorem lw_p14 : lw_okq (⟨"NearFinderModel", "isAsked", "(I)Z"⟩, 17) := ⟨⟨by decide +kernel, by decide +kernel⟩, List.mem_of_getElem? (i := 522) (by decide +kernel), List.mem_of_getElem? (i := 627) (by decide +kernel), List.mem_of_getElem? (i := 628) (by decide +kernel)⟩
theorem lw_p15 : lw_okq (⟨"NearFinderModel", "sumBy", "(IZ)I"⟩, 17) := ⟨⟨by decide +kernel, by decide +kernel⟩, List.mem_of_getElem? (i := 522) (by decide +kernel), List.mem_of_getElem? (i := 631) (by decide +kernel), List.mem_of_getElem? (i := 632) (by decide +kernel)⟩
def lw_privs_1 : List (MethodName × Nat) := [(⟨"NearFinder", "look", "(IIZ)I"⟩, 9), (⟨"NearFinder", "isLookedFor", "(I)Z"⟩, 9), (⟨"NearFinder", "leastOfWays", "(ILNearFinder$Measure;)I"⟩, 9), (⟨"NearFinder", "costOfPair", "(IILNearFinder$Measure;)I"⟩, 9), (⟨"NearFinder$ByChanges", "nextRow", "(I[III)V"⟩, 2), (⟨"NearFinder$ByCounts", "sharedLetters", "(LNearFinder$Words;ILNearFinder$Words;I)I"⟩, 2), (⟨"NearFinder$Pairing", "totalOf", "(I)I"⟩, 4), (⟨"NearFinder$Hits", "isNearer", "(III)Z"⟩, 6), (⟨"NearFinder$Hits", "copy", "(II)V"⟩, 6), (⟨"java/lang/Throwable", "fillInStackTrace", "(I)Ljava/lang/Throwable;"⟩, 6), (⟨"NearFinderModel", "isEntry", "(I)Z"⟩, 17), (⟨"NearFinderModel", "add", "(II)Z"⟩, 17), (⟨"NearFinderModel", "look", "(IIZ)I"⟩, 17), (⟨"NearFinderModel", "words", "(I)I"⟩, 17), (⟨"NearFinderModel", "isAsked", "(I)Z"⟩, 17), (⟨"NearFinderModel", "sumBy", "(IZ)I"⟩, 17)]
theorem lw_r1 : ∀ q ∈ lw_privs_1, lw_okq q := List.forall_mem_cons.mpr ⟨lw_p0, List.forall_mem_cons.mpr ⟨lw_p1, List.forall_mem_cons.mpr ⟨lw_p2, List.forall_mem_cons.mpr ⟨lw_p3, List.forall_mem_cons.mpr ⟨lw_p4, List.forall_mem_cons.mpr ⟨lw_p5, List.forall_mem_cons.mpr ⟨lw_p6, List.forall_mem_cons.mpr ⟨lw_p7, List.forall_mem_cons.mpr ⟨lw_p8, List.forall_mem_cons.mpr ⟨lw_p9, List.forall_mem_cons.mpr ⟨lw_p10, List.forall_mem_cons.mpr ⟨lw_p11, List.forall_mem_cons.mpr ⟨lw_p12, List.forall_mem_cons.mpr ⟨lw_p13, List.forall_mem_cons.mpr ⟨lw_p14, List.forall_mem_cons.mpr ⟨lw_p15, fun _ h => absurd h List.not_mem_nil⟩⟩⟩⟩⟩⟩⟩⟩⟩⟩⟩⟩⟩⟩⟩⟩
theorem lw_p16 : lw_okq (⟨"NearFinderModel", "counted", "(II)I"⟩, 17) := ⟨⟨by decide +kernel, by decide +kernel⟩, List.mem_of_getElem? (i := 522) (by decide +kernel), List.mem_of_getElem? (i := 635) (by decide +kernel), List.mem_of_getElem? (i := 636) (by decide +kernel)⟩
theorem lw_p17 : lw_okq (⟨"NearFinderModel", "beyond", "(II)I"⟩, 17) := ⟨⟨by decide +kernel, by decide +kernel⟩, List.mem_of_getElem? (i := 522) (by decide +kernel), List.mem_of_getElem? (i := 642) (by decide +kernel), List.mem_of_getElem? (i := 643) (by decide +kernel)⟩
theorem lw_p18 : lw_okq (⟨"NearFinderModel", "change", "(II)I"⟩, 17) := ⟨⟨by decide +kernel, by decide +kernel⟩, List.mem_of_getElem? (i := 522) (by decide +kernel), List.mem_of_getElem? (i := 646) (by decide +kernel), List.mem_of_getElem? (i := 647) (by decide +kernel)⟩
theorem lw_p19 : lw_okq (⟨"NearFinderModel", "exchange", "(II)I"⟩, 17) := ⟨⟨by decide +kernel, by decide +kernel⟩, List.mem_of_getElem? (i := 522) (by decide +kernel), List.mem_of_getElem? (i := 651) (by decide +kernel), List.mem_of_getElem? (i := 652) (by decide +kernel)⟩
theorem lw_p20 : lw_okq (⟨"NearFinderModel", "may", "(III)Z"⟩, 17) := ⟨⟨by decide +kernel, by decide +kernel⟩, List.mem_of_getElem? (i := 522) (by decide +kernel), List.mem_of_getElem? (i := 658) (by decide +kernel), List.mem_of_getElem? (i := 659) (by decide +kernel)⟩
theorem lw_p21 : lw_okq (⟨"NearFinderModel", "cost", "(II)I"⟩, 17) := ⟨⟨by decide +kernel, by decide +kernel⟩, List.mem_of_getElem? (i := 522) (by decide +kernel), List.mem_of_getElem? (i := 662) (by decide +kernel), List.mem_of_getElem? (i := 663) (by decide +kernel)⟩
theorem lw_p22 : lw_okq (⟨"NearFinderModel", "come", "(III)V"⟩, 17) := ⟨⟨by decide +kernel, by decide +kernel⟩, List.mem_of_getElem? (i := 522) (by decide +kernel), List.mem_of_getElem? (i := 669) (by decide +kernel), List.mem_of_getElem? (i := 670) (by decide +kernel)⟩
theorem lw_p23 : lw_okq (⟨"NearFinderModel", "isBefore", "(III)Z"⟩, 17) := ⟨⟨by decide +kernel, by decide +kernel⟩, List.mem_of_getElem? (i := 522) (by decide +kernel), List.mem_of_getElem? (i := 673) (by decide +kernel), List.mem_of_getElem? (i := 674) (by decide +kernel)⟩
def lw_privs_2 : List (MethodName × Nat) := [(⟨"NearFinderModel", "counted", "(II)I"⟩, 17), (⟨"NearFinderModel", "beyond", "(II)I"⟩, 17), (⟨"NearFinderModel", "change", "(II)I"⟩, 17), (⟨"NearFinderModel", "exchange", "(II)I"⟩, 17), (⟨"NearFinderModel", "may", "(III)Z"⟩, 17), (⟨"NearFinderModel", "cost", "(II)I"⟩, 17), (⟨"NearFinderModel", "come", "(III)V"⟩, 17), (⟨"NearFinderModel", "isBefore", "(III)Z"⟩, 17)]
theorem lw_r2 : ∀ q ∈ lw_privs_2, lw_okq q := List.forall_mem_cons.mpr ⟨lw_p16, List.forall_mem_cons.mpr ⟨lw_p17, List.forall_mem_cons.mpr ⟨lw_p18, List.forall_mem_cons.mpr ⟨lw_p19, List.forall_mem_cons.mpr ⟨lw_p20, List.forall_mem_cons.mpr ⟨lw_p21, List.forall_mem_cons.mpr ⟨lw_p22, List.forall_mem_cons.mpr ⟨lw_p23, fun _ h => absurd h List.not_mem_nil⟩⟩⟩⟩⟩⟩⟩⟩
def lw_privs : List (MethodName × Nat) := lw_privs_1 ++ (lw_privs_2)
def lw_tbl : List Cond := k2_sels lw_privs ++ tables_1
theorem lw_privs_ok : ∀ q ∈ lw_privs, lw_okq q := by
  show ∀ q ∈ lw_privs_1 ++ (lw_privs_2), lw_okq q
  exact List.forall_mem_append.mpr ⟨lw_r1, lw_r2⟩
/-! names: classes, fields, methods; the words of the tables that a walk may use (BW) -/
theorem mw_of {tbl : List Cond} (i : Nat) {w : Cond} (h : tbl[i]? = some w) (hg : goodWord w = true) : w ∈ tbl.filter goodWord := List.mem_filter.mpr ⟨List.mem_of_getElem? h, hg⟩
def BW : List Cond := lw_tbl.filter goodWord
def R_Bk : String := "NearFinder$Book"
def R_Bc : String := "NearFinder$ByChanges"
def R_Bn : String := "NearFinder$ByCounts"
def R_Hi : String := "NearFinder$Hits"
def R_Pa : String := "NearFinder$Pairing"
def R_We : String := "NearFinder$Weights"
def R_Wo : String := "NearFinder$Words"
def R_Nf : String := "NearFinder"
def R_Mo : String := "NearFinderModel"
def R_La : String := "NearFinderLaw"
abbrev b_Nf_init : ByteArray := prog_1_method_1_code
def y_Nf_init : MethodName := ⟨R_Nf, "<init>", "()V"⟩
def w_Nf_init : List Cond := .code y_Nf_init b_Nf_init 1 none :: BW
abbrev b_Nf_entry : ByteArray := prog_1_method_2_code
def y_Nf_entry : MethodName := ⟨R_Nf, "entry", "(I)I"⟩
def w_Nf_entry : List Cond := .code y_Nf_entry b_Nf_entry 2 (some .int) :: BW
abbrev b_Nf_letter : ByteArray := prog_1_method_3_code
def y_Nf_letter : MethodName := ⟨R_Nf, "letter", "(III)Z"⟩
def w_Nf_letter : List Cond := .code y_Nf_letter b_Nf_letter 4 (some .boolean) :: BW
abbrev b_Nf_ask : ByteArray := prog_1_method_4_code
def y_Nf_ask : MethodName := ⟨R_Nf, "ask", "(II)Z"⟩
def w_Nf_ask : List Cond := .code y_Nf_ask b_Nf_ask 3 (some .boolean) :: BW
abbrev b_Nf_asked : ByteArray := prog_1_method_5_code
def y_Nf_asked : MethodName := ⟨R_Nf, "asked", "(I)Z"⟩
def w_Nf_asked : List Cond := .code y_Nf_asked b_Nf_asked 2 (some .boolean) :: BW
abbrev b_Nf_weight : ByteArray := prog_1_method_6_code
def y_Nf_weight : MethodName := ⟨R_Nf, "weight", "(II)I"⟩
def w_Nf_weight : List Cond := .code y_Nf_weight b_Nf_weight 3 (some .int) :: BW
abbrev b_Nf_find : ByteArray := prog_1_method_7_code
def y_Nf_find : MethodName := ⟨R_Nf, "find", "(II)I"⟩
def w_Nf_find : List Cond := .code y_Nf_find b_Nf_find 3 (some .int) :: BW
abbrev b_Nf_scan : ByteArray := prog_1_method_8_code
def y_Nf_scan : MethodName := ⟨R_Nf, "scan", "(II)I"⟩
def w_Nf_scan : List Cond := .code y_Nf_scan b_Nf_scan 3 (some .int) :: BW
abbrev b_Nf_worked : ByteArray := prog_1_method_9_code
def y_Nf_worked : MethodName := ⟨R_Nf, "worked", "()I"⟩
def w_Nf_worked : List Cond := .code y_Nf_worked b_Nf_worked 1 (some .int) :: BW
abbrev b_Nf_found : ByteArray := prog_1_method_10_code
def y_Nf_found : MethodName := ⟨R_Nf, "found", "(I)I"⟩
def w_Nf_found : List Cond := .code y_Nf_found b_Nf_found 2 (some .int) :: BW
abbrev b_Nf_sum : ByteArray := prog_1_method_11_code
def y_Nf_sum : MethodName := ⟨R_Nf, "sum", "(I)I"⟩
def w_Nf_sum : List Cond := .code y_Nf_sum b_Nf_sum 2 (some .int) :: BW
abbrev b_Nf_sumOf : ByteArray := prog_1_method_12_code
def y_Nf_sumOf : MethodName := ⟨R_Nf, "sumOf", "(I)I"⟩
def w_Nf_sumOf : List Cond := .code y_Nf_sumOf b_Nf_sumOf 2 (some .int) :: BW
abbrev b_Nf_pair : ByteArray := prog_1_method_13_code
def y_Nf_pair : MethodName := ⟨R_Nf, "pair", "(II)I"⟩
def w_Nf_pair : List Cond := .code y_Nf_pair b_Nf_pair 3 (some .int) :: BW
abbrev b_Nf_changes : ByteArray := prog_1_method_14_code
def y_Nf_changes : MethodName := ⟨R_Nf, "changes", "(III)I"⟩
def w_Nf_changes : List Cond := .code y_Nf_changes b_Nf_changes 5 (some .int) :: BW
abbrev b_Nf_learned : ByteArray := prog_1_method_15_code
def y_Nf_learned : MethodName := ⟨R_Nf, "learned", "(II)I"⟩
def w_Nf_learned : List Cond := .code y_Nf_learned b_Nf_learned 3 (some .int) :: BW
abbrev b_Nf_drop : ByteArray := prog_1_method_16_code
def y_Nf_drop : MethodName := ⟨R_Nf, "drop", "(IZ)I"⟩
def w_Nf_drop : List Cond := .code y_Nf_drop b_Nf_drop 4 (some .int) :: BW
abbrev b_Nf_share : ByteArray := prog_1_method_17_code
def y_Nf_share : MethodName := ⟨R_Nf, "share", "(II)J"⟩
def w_Nf_share : List Cond := .code y_Nf_share b_Nf_share 3 (some .long) :: BW
abbrev b_Nf_count : ByteArray := prog_1_method_18_code
def y_Nf_count : MethodName := ⟨R_Nf, "count", "(I)I"⟩
def w_Nf_count : List Cond := .code y_Nf_count b_Nf_count 2 (some .int) :: BW
abbrev b_Nf_isPlace : ByteArray := prog_1_method_19_code
def y_Nf_isPlace : MethodName := ⟨R_Nf, "isPlace", "(I)Z"⟩
def w_Nf_isPlace : List Cond := .code y_Nf_isPlace b_Nf_isPlace 1 (some .boolean) :: BW
abbrev b_Nf_isWord : ByteArray := prog_1_method_20_code
def y_Nf_isWord : MethodName := ⟨R_Nf, "isWord", "(I)Z"⟩
def w_Nf_isWord : List Cond := .code y_Nf_isWord b_Nf_isWord 1 (some .boolean) :: BW
abbrev b_Nf_isLetter : ByteArray := prog_1_method_21_code
def y_Nf_isLetter : MethodName := ⟨R_Nf, "isLetter", "(I)Z"⟩
def w_Nf_isLetter : List Cond := .code y_Nf_isLetter b_Nf_isLetter 1 (some .boolean) :: BW
abbrev b_Nf_look : ByteArray := prog_1_method_22_code
def y_Nf_look : MethodName := ⟨R_Nf, "look", "(IIZ)I"⟩
def w_Nf_look : List Cond := .code y_Nf_look b_Nf_look 5 (some .int) :: BW
abbrev b_Nf_isLookedFor : ByteArray := prog_1_method_23_code
def y_Nf_isLookedFor : MethodName := ⟨R_Nf, "isLookedFor", "(I)Z"⟩
def w_Nf_isLookedFor : List Cond := .code y_Nf_isLookedFor b_Nf_isLookedFor 2 (some .boolean) :: BW
abbrev b_Nf_leastOfWays : ByteArray := prog_1_method_24_code
def y_Nf_leastOfWays : MethodName := ⟨R_Nf, "leastOfWays", "(ILNearFinder$Measure;)I"⟩
def w_Nf_leastOfWays : List Cond := .code y_Nf_leastOfWays b_Nf_leastOfWays 5 (some .int) :: BW
abbrev b_Nf_costOfPair : ByteArray := prog_1_method_25_code
def y_Nf_costOfPair : MethodName := ⟨R_Nf, "costOfPair", "(IILNearFinder$Measure;)I"⟩
def w_Nf_costOfPair : List Cond := .code y_Nf_costOfPair b_Nf_costOfPair 4 (some .int) :: BW
abbrev b_Mo_init : ByteArray := prog_11_method_1_code
def y_Mo_init : MethodName := ⟨R_Mo, "<init>", "()V"⟩
def w_Mo_init : List Cond := .code y_Mo_init b_Mo_init 2 none :: BW
abbrev b_Mo_thrown : ByteArray := prog_11_method_2_code
def y_Mo_thrown : MethodName := ⟨R_Mo, "thrown", "()I"⟩
def w_Mo_thrown : List Cond := .code y_Mo_thrown b_Mo_thrown 1 (some .int) :: BW
abbrev b_Mo_isEntry : ByteArray := prog_11_method_3_code
def y_Mo_isEntry : MethodName := ⟨R_Mo, "isEntry", "(I)Z"⟩
def w_Mo_isEntry : List Cond := .code y_Mo_isEntry b_Mo_isEntry 2 (some .boolean) :: BW
abbrev b_Mo_isWord : ByteArray := prog_11_method_4_code
def y_Mo_isWord : MethodName := ⟨R_Mo, "isWord", "(I)Z"⟩
def w_Mo_isWord : List Cond := .code y_Mo_isWord b_Mo_isWord 1 (some .boolean) :: BW
abbrev b_Mo_entry : ByteArray := prog_11_method_5_code
def y_Mo_entry : MethodName := ⟨R_Mo, "entry", "(I)I"⟩
def w_Mo_entry : List Cond := .code y_Mo_entry b_Mo_entry 2 (some .int) :: BW
abbrev b_Mo_add : ByteArray := prog_11_method_6_code
def y_Mo_add : MethodName := ⟨R_Mo, "add", "(II)Z"⟩
def w_Mo_add : List Cond := .code y_Mo_add b_Mo_add 3 (some .boolean) :: BW
abbrev b_Mo_letter : ByteArray := prog_11_method_7_code
def y_Mo_letter : MethodName := ⟨R_Mo, "letter", "(III)Z"⟩
def w_Mo_letter : List Cond := .code y_Mo_letter b_Mo_letter 4 (some .boolean) :: BW
abbrev b_Mo_ask : ByteArray := prog_11_method_8_code
def y_Mo_ask : MethodName := ⟨R_Mo, "ask", "(II)Z"⟩
def w_Mo_ask : List Cond := .code y_Mo_ask b_Mo_ask 3 (some .boolean) :: BW
abbrev b_Mo_asked : ByteArray := prog_11_method_9_code
def y_Mo_asked : MethodName := ⟨R_Mo, "asked", "(I)Z"⟩
def w_Mo_asked : List Cond := .code y_Mo_asked b_Mo_asked 2 (some .boolean) :: BW
abbrev b_Mo_weight : ByteArray := prog_11_method_10_code
def y_Mo_weight : MethodName := ⟨R_Mo, "weight", "(II)I"⟩
def w_Mo_weight : List Cond := .code y_Mo_weight b_Mo_weight 4 (some .int) :: BW
abbrev b_Mo_lesser : ByteArray := prog_11_method_11_code
def y_Mo_lesser : MethodName := ⟨R_Mo, "lesser", "(II)I"⟩
def w_Mo_lesser : List Cond := .code y_Mo_lesser b_Mo_lesser 2 (some .int) :: BW
abbrev b_Mo_sound : ByteArray := prog_11_method_12_code
def y_Mo_sound : MethodName := ⟨R_Mo, "sound", "(I)I"⟩
def w_Mo_sound : List Cond := .code y_Mo_sound b_Mo_sound 1 (some .int) :: BW
abbrev b_Mo_exchange : ByteArray := prog_11_method_13_code
def y_Mo_exchange : MethodName := ⟨R_Mo, "exchange", "(II)I"⟩
def w_Mo_exchange : List Cond := .code y_Mo_exchange b_Mo_exchange 3 (some .int) :: BW
abbrev b_Mo_change : ByteArray := prog_11_method_14_code
def y_Mo_change : MethodName := ⟨R_Mo, "change", "(II)I"⟩
def w_Mo_change : List Cond := .code y_Mo_change b_Mo_change 6 (some .int) :: BW
abbrev b_Mo_beyond : ByteArray := prog_11_method_15_code
def y_Mo_beyond : MethodName := ⟨R_Mo, "beyond", "(II)I"⟩
def w_Mo_beyond : List Cond := .code y_Mo_beyond b_Mo_beyond 7 (some .int) :: BW
abbrev b_Mo_counted : ByteArray := prog_11_method_16_code
def y_Mo_counted : MethodName := ⟨R_Mo, "counted", "(II)I"⟩
def w_Mo_counted : List Cond := .code y_Mo_counted b_Mo_counted 6 (some .int) :: BW
abbrev b_Mo_may : ByteArray := prog_11_method_17_code
def y_Mo_may : MethodName := ⟨R_Mo, "may", "(III)Z"⟩
def w_Mo_may : List Cond := .code y_Mo_may b_Mo_may 4 (some .boolean) :: BW
abbrev b_Mo_words : ByteArray := prog_11_method_18_code
def y_Mo_words : MethodName := ⟨R_Mo, "words", "(I)I"⟩
def w_Mo_words : List Cond := .code y_Mo_words b_Mo_words 2 (some .int) :: BW
abbrev b_Mo_cost : ByteArray := prog_11_method_19_code
def y_Mo_cost : MethodName := ⟨R_Mo, "cost", "(II)I"⟩
def w_Mo_cost : List Cond := .code y_Mo_cost b_Mo_cost 3 (some .int) :: BW
abbrev b_Mo_turned : ByteArray := prog_11_method_20_code
def y_Mo_turned : MethodName := ⟨R_Mo, "turned", "(II)I"⟩
def w_Mo_turned : List Cond := .code y_Mo_turned b_Mo_turned 2 (some .int) :: BW
abbrev b_Mo_sumBy : ByteArray := prog_11_method_21_code
def y_Mo_sumBy : MethodName := ⟨R_Mo, "sumBy", "(IZ)I"⟩
def w_Mo_sumBy : List Cond := .code y_Mo_sumBy b_Mo_sumBy 12 (some .int) :: BW
abbrev b_Mo_isAsked : ByteArray := prog_11_method_22_code
def y_Mo_isAsked : MethodName := ⟨R_Mo, "isAsked", "(I)Z"⟩
def w_Mo_isAsked : List Cond := .code y_Mo_isAsked b_Mo_isAsked 2 (some .boolean) :: BW
abbrev b_Mo_isBefore : ByteArray := prog_11_method_23_code
def y_Mo_isBefore : MethodName := ⟨R_Mo, "isBefore", "(III)Z"⟩
def w_Mo_isBefore : List Cond := .code y_Mo_isBefore b_Mo_isBefore 5 (some .boolean) :: BW
abbrev b_Mo_come : ByteArray := prog_11_method_24_code
def y_Mo_come : MethodName := ⟨R_Mo, "come", "(III)V"⟩
def w_Mo_come : List Cond := .code y_Mo_come b_Mo_come 6 none :: BW
abbrev b_Mo_look : ByteArray := prog_11_method_25_code
def y_Mo_look : MethodName := ⟨R_Mo, "look", "(IIZ)I"⟩
def w_Mo_look : List Cond := .code y_Mo_look b_Mo_look 8 (some .int) :: BW
abbrev b_Mo_find : ByteArray := prog_11_method_26_code
def y_Mo_find : MethodName := ⟨R_Mo, "find", "(II)I"⟩
def w_Mo_find : List Cond := .code y_Mo_find b_Mo_find 3 (some .int) :: BW
abbrev b_Mo_scan : ByteArray := prog_11_method_27_code
def y_Mo_scan : MethodName := ⟨R_Mo, "scan", "(II)I"⟩
def w_Mo_scan : List Cond := .code y_Mo_scan b_Mo_scan 3 (some .int) :: BW
abbrev b_Mo_worked : ByteArray := prog_11_method_28_code
def y_Mo_worked : MethodName := ⟨R_Mo, "worked", "()I"⟩
def w_Mo_worked : List Cond := .code y_Mo_worked b_Mo_worked 1 (some .int) :: BW
abbrev b_Mo_found : ByteArray := prog_11_method_29_code
def y_Mo_found : MethodName := ⟨R_Mo, "found", "(I)I"⟩
def w_Mo_found : List Cond := .code y_Mo_found b_Mo_found 2 (some .int) :: BW
abbrev b_Mo_sum : ByteArray := prog_11_method_30_code
def y_Mo_sum : MethodName := ⟨R_Mo, "sum", "(I)I"⟩
def w_Mo_sum : List Cond := .code y_Mo_sum b_Mo_sum 2 (some .int) :: BW
abbrev b_Mo_sumOf : ByteArray := prog_11_method_31_code
def y_Mo_sumOf : MethodName := ⟨R_Mo, "sumOf", "(I)I"⟩
def w_Mo_sumOf : List Cond := .code y_Mo_sumOf b_Mo_sumOf 2 (some .int) :: BW
abbrev b_Mo_pair : ByteArray := prog_11_method_32_code
def y_Mo_pair : MethodName := ⟨R_Mo, "pair", "(II)I"⟩
def w_Mo_pair : List Cond := .code y_Mo_pair b_Mo_pair 4 (some .int) :: BW
abbrev b_Mo_changes : ByteArray := prog_11_method_33_code
def y_Mo_changes : MethodName := ⟨R_Mo, "changes", "(III)I"⟩
def w_Mo_changes : List Cond := .code y_Mo_changes b_Mo_changes 4 (some .int) :: BW
abbrev b_Mo_learned : ByteArray := prog_11_method_34_code
def y_Mo_learned : MethodName := ⟨R_Mo, "learned", "(II)I"⟩
def w_Mo_learned : List Cond := .code y_Mo_learned b_Mo_learned 3 (some .int) :: BW
abbrev b_Mo_drop : ByteArray := prog_11_method_35_code
def y_Mo_drop : MethodName := ⟨R_Mo, "drop", "(IZ)I"⟩
def w_Mo_drop : List Cond := .code y_Mo_drop b_Mo_drop 4 (some .int) :: BW
abbrev b_Mo_share : ByteArray := prog_11_method_36_code
def y_Mo_share : MethodName := ⟨R_Mo, "share", "(II)J"⟩
def w_Mo_share : List Cond := .code y_Mo_share b_Mo_share 3 (some .long) :: BW
abbrev b_Mo_count : ByteArray := prog_11_method_37_code
def y_Mo_count : MethodName := ⟨R_Mo, "count", "(I)I"⟩
def w_Mo_count : List Cond := .code y_Mo_count b_Mo_count 4 (some .int) :: BW
abbrev b_Bk_init : ByteArray := prog_2_method_1_code
def y_Bk_init : MethodName := ⟨R_Bk, "<init>", "()V"⟩
def w_Bk_init : List Cond := .code y_Bk_init b_Bk_init 1 none :: BW
abbrev b_Bk_wordAt : ByteArray := prog_2_method_2_code
def y_Bk_wordAt : MethodName := ⟨R_Bk, "wordAt", "(II)I"⟩
def w_Bk_wordAt : List Cond := .code y_Bk_wordAt b_Bk_wordAt 2 (some .int) :: BW
abbrev b_Bk_has : ByteArray := prog_2_method_3_code
def y_Bk_has : MethodName := ⟨R_Bk, "has", "(I)Z"⟩
def w_Bk_has : List Cond := .code y_Bk_has b_Bk_has 2 (some .boolean) :: BW
abbrev b_Bk_isFull : ByteArray := prog_2_method_4_code
def y_Bk_isFull : MethodName := ⟨R_Bk, "isFull", "()Z"⟩
def w_Bk_isFull : List Cond := .code y_Bk_isFull b_Bk_isFull 1 (some .boolean) :: BW
abbrev b_Bk_addEntry : ByteArray := prog_2_method_5_code
def y_Bk_addEntry : MethodName := ⟨R_Bk, "addEntry", "(I)I"⟩
def w_Bk_addEntry : List Cond := .code y_Bk_addEntry b_Bk_addEntry 3 (some .int) :: BW
abbrev b_Bk_learn : ByteArray := prog_2_method_6_code
def y_Bk_learn : MethodName := ⟨R_Bk, "learn", "(II)I"⟩
def w_Bk_learn : List Cond := .code y_Bk_learn b_Bk_learn 3 (some .int) :: BW
abbrev b_Bk_droppedOnes : ByteArray := prog_2_method_7_code
def y_Bk_droppedOnes : MethodName := ⟨R_Bk, "droppedOnes", "()I"⟩
def w_Bk_droppedOnes : List Cond := .code y_Bk_droppedOnes b_Bk_droppedOnes 3 (some .int) :: BW
abbrev b_Bc_init : ByteArray := prog_3_method_1_code
def y_Bc_init : MethodName := ⟨R_Bc, "<init>", "(LNearFinder$Weights;)V"⟩
def w_Bc_init : List Cond := .code y_Bc_init b_Bc_init 2 none :: BW
abbrev b_Bc_between : ByteArray := prog_3_method_2_code
def y_Bc_between : MethodName := ⟨R_Bc, "between", "(LNearFinder$Words;ILNearFinder$Words;I)I"⟩
def w_Bc_between : List Cond := .code y_Bc_between b_Bc_between 9 (some .int) :: BW
abbrev b_Bc_nextRow : ByteArray := prog_3_method_3_code
def y_Bc_nextRow : MethodName := ⟨R_Bc, "nextRow", "(I[III)V"⟩
def w_Bc_nextRow : List Cond := .code y_Bc_nextRow b_Bc_nextRow 14 none :: BW
abbrev b_Bn_init : ByteArray := prog_4_method_1_code
def y_Bn_init : MethodName := ⟨R_Bn, "<init>", "(LNearFinder$Weights;)V"⟩
def w_Bn_init : List Cond := .code y_Bn_init b_Bn_init 2 none :: BW
abbrev b_Bn_between : ByteArray := prog_4_method_2_code
def y_Bn_between : MethodName := ⟨R_Bn, "between", "(LNearFinder$Words;ILNearFinder$Words;I)I"⟩
def w_Bn_between : List Cond := .code y_Bn_between b_Bn_between 9 (some .int) :: BW
abbrev b_Bn_sharedLetters : ByteArray := prog_4_method_3_code
def y_Bn_sharedLetters : MethodName := ⟨R_Bn, "sharedLetters", "(LNearFinder$Words;ILNearFinder$Words;I)I"⟩
def w_Bn_sharedLetters : List Cond := .code y_Bn_sharedLetters b_Bn_sharedLetters 10 (some .int) :: BW
abbrev b_Hi_init : ByteArray := prog_5_method_1_code
def y_Hi_init : MethodName := ⟨R_Hi, "<init>", "()V"⟩
def w_Hi_init : List Cond := .code y_Hi_init b_Hi_init 1 none :: BW
abbrev b_Hi_start : ByteArray := prog_5_method_2_code
def y_Hi_start : MethodName := ⟨R_Hi, "start", "(II)V"⟩
def w_Hi_start : List Cond := .code y_Hi_start b_Hi_start 3 none :: BW
abbrev b_Hi_has : ByteArray := prog_5_method_3_code
def y_Hi_has : MethodName := ⟨R_Hi, "has", "(I)Z"⟩
def w_Hi_has : List Cond := .code y_Hi_has b_Hi_has 2 (some .boolean) :: BW
abbrev b_Hi_limit : ByteArray := prog_5_method_4_code
def y_Hi_limit : MethodName := ⟨R_Hi, "limit", "()I"⟩
def w_Hi_limit : List Cond := .code y_Hi_limit b_Hi_limit 1 (some .int) :: BW
abbrev b_Hi_offer : ByteArray := prog_5_method_5_code
def y_Hi_offer : MethodName := ⟨R_Hi, "offer", "(III)V"⟩
def w_Hi_offer : List Cond := .code y_Hi_offer b_Hi_offer 6 none :: BW
abbrev b_Hi_isNearer : ByteArray := prog_5_method_6_code
def y_Hi_isNearer : MethodName := ⟨R_Hi, "isNearer", "(III)Z"⟩
def w_Hi_isNearer : List Cond := .code y_Hi_isNearer b_Hi_isNearer 4 (some .boolean) :: BW
abbrev b_Hi_copy : ByteArray := prog_5_method_7_code
def y_Hi_copy : MethodName := ⟨R_Hi, "copy", "(II)V"⟩
def w_Hi_copy : List Cond := .code y_Hi_copy b_Hi_copy 3 none :: BW
abbrev b_Pa_init : ByteArray := prog_7_method_1_code
def y_Pa_init : MethodName := ⟨R_Pa, "<init>", "(LNearFinder$Weights;)V"⟩
def w_Pa_init : List Cond := .code y_Pa_init b_Pa_init 2 none :: BW
abbrev b_Pa_partner : ByteArray := prog_7_method_2_code
def y_Pa_partner : MethodName := ⟨R_Pa, "partner", "(II)I"⟩
def w_Pa_partner : List Cond := .code y_Pa_partner b_Pa_partner 2 (some .int) :: BW
abbrev b_Pa_start : ByteArray := prog_7_method_3_code
def y_Pa_start : MethodName := ⟨R_Pa, "start", "()V"⟩
def w_Pa_start : List Cond := .code y_Pa_start b_Pa_start 1 none :: BW
abbrev b_Pa_countWord : ByteArray := prog_7_method_4_code
def y_Pa_countWord : MethodName := ⟨R_Pa, "countWord", "(Z)V"⟩
def w_Pa_countWord : List Cond := .code y_Pa_countWord b_Pa_countWord 2 none :: BW
abbrev b_Pa_setCost : ByteArray := prog_7_method_5_code
def y_Pa_setCost : MethodName := ⟨R_Pa, "setCost", "(III)V"⟩
def w_Pa_setCost : List Cond := .code y_Pa_setCost b_Pa_setCost 4 none :: BW
abbrev b_Pa_choose : ByteArray := prog_7_method_6_code
def y_Pa_choose : MethodName := ⟨R_Pa, "choose", "()I"⟩
def w_Pa_choose : List Cond := .code y_Pa_choose b_Pa_choose 4 (some .int) :: BW
abbrev b_Pa_totalOf : ByteArray := prog_7_method_7_code
def y_Pa_totalOf : MethodName := ⟨R_Pa, "totalOf", "(I)I"⟩
def w_Pa_totalOf : List Cond := .code y_Pa_totalOf b_Pa_totalOf 7 (some .int) :: BW
abbrev b_Pa_isTaken : ByteArray := prog_7_method_8_code
def y_Pa_isTaken : MethodName := ⟨R_Pa, "isTaken", "(III)Z"⟩
def w_Pa_isTaken : List Cond := .code y_Pa_isTaken b_Pa_isTaken 4 (some .boolean) :: BW
abbrev b_Pa_turnedBefore : ByteArray := prog_7_method_9_code
def y_Pa_turnedBefore : MethodName := ⟨R_Pa, "turnedBefore", "(III)I"⟩
def w_Pa_turnedBefore : List Cond := .code y_Pa_turnedBefore b_Pa_turnedBefore 5 (some .int) :: BW
abbrev b_We_init : ByteArray := prog_8_method_1_code
def y_We_init : MethodName := ⟨R_We, "<init>", "()V"⟩
def w_We_init : List Cond := .code y_We_init b_We_init 1 none :: BW
abbrev b_We_isKind : ByteArray := prog_8_method_2_code
def y_We_isKind : MethodName := ⟨R_We, "isKind", "(I)Z"⟩
def w_We_isKind : List Cond := .code y_We_isKind b_We_isKind 1 (some .boolean) :: BW
abbrev b_We_isWeight : ByteArray := prog_8_method_3_code
def y_We_isWeight : MethodName := ⟨R_We, "isWeight", "(I)Z"⟩
def w_We_isWeight : List Cond := .code y_We_isWeight b_We_isWeight 1 (some .boolean) :: BW
abbrev b_We_replace : ByteArray := prog_8_method_4_code
def y_We_replace : MethodName := ⟨R_We, "replace", "(II)I"⟩
def w_We_replace : List Cond := .code y_We_replace b_We_replace 4 (some .int) :: BW
abbrev b_We_putIn : ByteArray := prog_8_method_5_code
def y_We_putIn : MethodName := ⟨R_We, "putIn", "()I"⟩
def w_We_putIn : List Cond := .code y_We_putIn b_We_putIn 1 (some .int) :: BW
abbrev b_We_leftOut : ByteArray := prog_8_method_6_code
def y_We_leftOut : MethodName := ⟨R_We, "leftOut", "()I"⟩
def w_We_leftOut : List Cond := .code y_We_leftOut b_We_leftOut 1 (some .int) :: BW
abbrev b_We_exchanged : ByteArray := prog_8_method_7_code
def y_We_exchanged : MethodName := ⟨R_We, "exchanged", "()I"⟩
def w_We_exchanged : List Cond := .code y_We_exchanged b_We_exchanged 1 (some .int) :: BW
abbrev b_We_exchangedAlike : ByteArray := prog_8_method_8_code
def y_We_exchangedAlike : MethodName := ⟨R_We, "exchangedAlike", "()I"⟩
def w_We_exchangedAlike : List Cond := .code y_We_exchangedAlike b_We_exchangedAlike 1 (some .int) :: BW
abbrev b_We_missing : ByteArray := prog_8_method_9_code
def y_We_missing : MethodName := ⟨R_We, "missing", "()I"⟩
def w_We_missing : List Cond := .code y_We_missing b_We_missing 1 (some .int) :: BW
abbrev b_We_turned : ByteArray := prog_8_method_10_code
def y_We_turned : MethodName := ⟨R_We, "turned", "()I"⟩
def w_We_turned : List Cond := .code y_We_turned b_We_turned 1 (some .int) :: BW
abbrev b_Wo_init : ByteArray := prog_9_method_1_code
def y_Wo_init : MethodName := ⟨R_Wo, "<init>", "(I)V"⟩
def w_Wo_init : List Cond := .code y_Wo_init b_Wo_init 2 none :: BW
abbrev b_Wo_append : ByteArray := prog_9_method_2_code
def y_Wo_append : MethodName := ⟨R_Wo, "append", "(II)Z"⟩
def w_Wo_append : List Cond := .code y_Wo_append b_Wo_append 3 (some .boolean) :: BW
abbrev b_Wo_isNone : ByteArray := prog_9_method_3_code
def y_Wo_isNone : MethodName := ⟨R_Wo, "isNone", "(I)Z"⟩
def w_Wo_isNone : List Cond := .code y_Wo_isNone b_Wo_isNone 2 (some .boolean) :: BW
abbrev b_Wo_clear : ByteArray := prog_9_method_4_code
def y_Wo_clear : MethodName := ⟨R_Wo, "clear", "()V"⟩
def w_Wo_clear : List Cond := .code y_Wo_clear b_Wo_clear 2 none :: BW
abbrev b_Wo_startOf : ByteArray := prog_9_method_5_code
def y_Wo_startOf : MethodName := ⟨R_Wo, "startOf", "(I)I"⟩
def w_Wo_startOf : List Cond := .code y_Wo_startOf b_Wo_startOf 1 (some .int) :: BW
abbrev b_La_share : ByteArray := method_3_code
def y_La_share : MethodName := ⟨R_La, "share", "(LNearFinder;II[J)I"⟩
def T_Bk : u_T := fun k => match k with
  | 0 => ("NearFinder$Book", "words", "LNearFinder$Words;", true)
  | 1 => ("NearFinder$Book", "places", "[I", true)
  | 2 => ("NearFinder$Book", "days", "[I", true)
  | 3 => ("NearFinder$Book", "times", "[I", true)
  | 4 => ("NearFinder$Book", "dropped", "[Z", true)
  | _ => ("NearFinder$Book", "size", "I", false)
def t_Bk : Nat → FieldType := fun k => match k with
  | 0 => .object "NearFinder$Words"
  | 1 => .array .int
  | 2 => .array .int
  | 3 => .array .int
  | 4 => .array .boolean
  | _ => .int
theorem n_Bk : ∀ a, a < 6 → ∀ b, b < 6 → a ≠ b → (T_Bk a).2.1 ≠ (T_Bk b).2.1 := by decide +kernel
theorem k_Bk : ∀ k, k < 6 → parseFieldDescriptor (T_Bk k).2.2.1 = some (t_Bk k) := by decide +kernel
def T_Bc : u_T := fun k => match k with
  | 0 => ("NearFinder$ByChanges", "weights", "LNearFinder$Weights;", true)
  | _ => ("NearFinder$ByChanges", "row", "[I", true)
def t_Bc : Nat → FieldType := fun k => match k with
  | 0 => .object "NearFinder$Weights"
  | _ => .array .int
theorem n_Bc : ∀ a, a < 2 → ∀ b, b < 2 → a ≠ b → (T_Bc a).2.1 ≠ (T_Bc b).2.1 := by decide +kernel
theorem k_Bc : ∀ k, k < 2 → parseFieldDescriptor (T_Bc k).2.2.1 = some (t_Bc k) := by decide +kernel
def T_Bn : u_T := fun k => match k with
  | 0 => ("NearFinder$ByCounts", "weights", "LNearFinder$Weights;", true)
  | _ => ("NearFinder$ByCounts", "spare", "[I", true)
def t_Bn : Nat → FieldType := fun k => match k with
  | 0 => .object "NearFinder$Weights"
  | _ => .array .int
theorem n_Bn : ∀ a, a < 2 → ∀ b, b < 2 → a ≠ b → (T_Bn a).2.1 ≠ (T_Bn b).2.1 := by decide +kernel
theorem k_Bn : ∀ k, k < 2 → parseFieldDescriptor (T_Bn k).2.2.1 = some (t_Bn k) := by decide +kernel
def T_Hi : u_T := fun k => match k with
  | 0 => ("NearFinder$Hits", "entries", "[I", true)
  | 1 => ("NearFinder$Hits", "sums", "[I", true)
  | 2 => ("NearFinder$Hits", "days", "[I", true)
  | 3 => ("NearFinder$Hits", "most", "I", false)
  | 4 => ("NearFinder$Hits", "bound", "I", false)
  | _ => ("NearFinder$Hits", "size", "I", false)
def t_Hi : Nat → FieldType := fun k => match k with
  | 0 => .array .int
  | 1 => .array .int
  | 2 => .array .int
  | 3 => .int
  | 4 => .int
  | _ => .int
theorem n_Hi : ∀ a, a < 6 → ∀ b, b < 6 → a ≠ b → (T_Hi a).2.1 ≠ (T_Hi b).2.1 := by decide +kernel
theorem k_Hi : ∀ k, k < 6 → parseFieldDescriptor (T_Hi k).2.2.1 = some (t_Hi k) := by decide +kernel
def T_Pa : u_T := fun k => match k with
  | 0 => ("NearFinder$Pairing", "weights", "LNearFinder$Weights;", true)
  | 1 => ("NearFinder$Pairing", "costs", "[I", true)
  | 2 => ("NearFinder$Pairing", "wordCount", "I", false)
  | _ => ("NearFinder$Pairing", "bestWay", "I", false)
def t_Pa : Nat → FieldType := fun k => match k with
  | 0 => .object "NearFinder$Weights"
  | 1 => .array .int
  | 2 => .int
  | _ => .int
theorem n_Pa : ∀ a, a < 4 → ∀ b, b < 4 → a ≠ b → (T_Pa a).2.1 ≠ (T_Pa b).2.1 := by decide +kernel
theorem k_Pa : ∀ k, k < 4 → parseFieldDescriptor (T_Pa k).2.2.1 = some (t_Pa k) := by decide +kernel
def T_We : u_T := fun k => match k with
  | _ => ("NearFinder$Weights", "ofKind", "[I", true)
def t_We : Nat → FieldType := fun k => match k with
  | _ => .array .int
theorem n_We : ∀ a, a < 1 → ∀ b, b < 1 → a ≠ b → (T_We a).2.1 ≠ (T_We b).2.1 := by decide +kernel
theorem k_We : ∀ k, k < 1 → parseFieldDescriptor (T_We k).2.2.1 = some (t_We k) := by decide +kernel
def T_Wo : u_T := fun k => match k with
  | 0 => ("NearFinder$Words", "letters", "[I", true)
  | 1 => ("NearFinder$Words", "lengths", "[I", true)
  | _ => ("NearFinder$Words", "letterCount", "I", false)
def t_Wo : Nat → FieldType := fun k => match k with
  | 0 => .array .int
  | 1 => .array .int
  | _ => .int
theorem n_Wo : ∀ a, a < 3 → ∀ b, b < 3 → a ≠ b → (T_Wo a).2.1 ≠ (T_Wo b).2.1 := by decide +kernel
theorem k_Wo : ∀ k, k < 3 → parseFieldDescriptor (T_Wo k).2.2.1 = some (t_Wo k) := by decide +kernel
def T_Nf : u_T := fun k => match k with
  | 0 => ("NearFinder", "book", "LNearFinder$Book;", true)
  | 1 => ("NearFinder", "askedWords", "LNearFinder$Words;", true)
  | 2 => ("NearFinder", "weights", "LNearFinder$Weights;", true)
  | 3 => ("NearFinder", "byChanges", "LNearFinder$Measure;", true)
  | 4 => ("NearFinder", "byCounts", "LNearFinder$Measure;", true)
  | 5 => ("NearFinder", "pairing", "LNearFinder$Pairing;", true)
  | 6 => ("NearFinder", "hits", "LNearFinder$Hits;", true)
  | 7 => ("NearFinder", "askedPlace", "I", false)
  | _ => ("NearFinder", "sumsWorked", "I", false)
def t_Nf : Nat → FieldType := fun k => match k with
  | 0 => .object "NearFinder$Book"
  | 1 => .object "NearFinder$Words"
  | 2 => .object "NearFinder$Weights"
  | 3 => .object "NearFinder$Measure"
  | 4 => .object "NearFinder$Measure"
  | 5 => .object "NearFinder$Pairing"
  | 6 => .object "NearFinder$Hits"
  | 7 => .int
  | _ => .int
theorem n_Nf : ∀ a, a < 9 → ∀ b, b < 9 → a ≠ b → (T_Nf a).2.1 ≠ (T_Nf b).2.1 := by decide +kernel
theorem k_Nf : ∀ k, k < 9 → parseFieldDescriptor (T_Nf k).2.2.1 = some (t_Nf k) := by decide +kernel
def T_Mo : u_T := fun k => match k with
  | 0 => ("NearFinderModel", "thrown", "I", false)
  | 1 => ("NearFinderModel", "entries", "I", false)
  | 2 => ("NearFinderModel", "places", "[I", true)
  | 3 => ("NearFinderModel", "days", "[I", true)
  | 4 => ("NearFinderModel", "times", "[I", true)
  | 5 => ("NearFinderModel", "dropped", "[Z", true)
  | 6 => ("NearFinderModel", "lengths", "[I", true)
  | 7 => ("NearFinderModel", "letters", "[I", true)
  | 8 => ("NearFinderModel", "place", "I", false)
  | 9 => ("NearFinderModel", "weights", "[I", true)
  | 10 => ("NearFinderModel", "found", "I", false)
  | 11 => ("NearFinderModel", "foundEntries", "[I", true)
  | 12 => ("NearFinderModel", "foundSums", "[I", true)
  | 13 => ("NearFinderModel", "worked", "I", false)
  | 14 => ("NearFinderModel", "steps", "[I", true)
  | 15 => ("NearFinderModel", "costs", "[I", true)
  | _ => ("NearFinderModel", "way", "[I", true)
def t_Mo : Nat → FieldType := fun k => match k with
  | 0 => .int
  | 1 => .int
  | 2 => .array .int
  | 3 => .array .int
  | 4 => .array .int
  | 5 => .array .boolean
  | 6 => .array .int
  | 7 => .array .int
  | 8 => .int
  | 9 => .array .int
  | 10 => .int
  | 11 => .array .int
  | 12 => .array .int
  | 13 => .int
  | 14 => .array .int
  | 15 => .array .int
  | _ => .array .int
theorem n_Mo : ∀ a, a < 17 → ∀ b, b < 17 → a ≠ b → (T_Mo a).2.1 ≠ (T_Mo b).2.1 := by decide +kernel
theorem k_Mo : ∀ k, k < 17 → parseFieldDescriptor (T_Mo k).2.2.1 = some (t_Mo k) := by decide +kernel
abbrev classes : List vw_C := [(R_Bk, T_Bk, 6), (R_Bc, T_Bc, 2), (R_Bn, T_Bn, 2), (R_Hi, T_Hi, 6), (R_Pa, T_Pa, 4), (R_We, T_We, 1), (R_Wo, T_Wo, 3), (R_Nf, T_Nf, 9), (R_Mo, T_Mo, 17)]
