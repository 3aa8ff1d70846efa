section
-- ===== PART A: goes FIRST, ahead of the names: the tables' words, and 'selects' of the private methods out of them =====
/-- a private method of a class that the tables say can be made, by its rows of tables_1 -/
def lw_okq (q : MethodName × Nat) : Prop := (q.1.cls ≠ "java/lang/invoke/MethodHandle" ∧ q.1.cls ≠ "java/lang/invoke/VarHandle") ∧ Cond.instantiable q.1.cls q.2 ∈ tables_1 ∧ Cond.privateMethod q.1 ∈ tables_1 ∧ Cond.instanceMethod q.1 ∈ tables_1
theorem lw_p0 : lw_okq (⟨"NearFinder", "look", "(IIZ)I"⟩, 9) := ⟨⟨by decide +kernel, by decide +kernel⟩, List.mem_of_getElem? (i := 16) (by decide +kernel), List.mem_of_getElem? (i := 260) (by decide +kernel), List.mem_of_getElem? (i := 261) (by decide +kernel)⟩
theorem lw_p1 : lw_okq (⟨"NearFinder", "isLookedFor", "(I)Z"⟩, 9) := ⟨⟨by decide +kernel, by decide +kernel⟩, List.mem_of_getElem? (i := 16) (by decide +kernel), List.mem_of_getElem? (i := 268) (by decide +kernel), List.mem_of_getElem? (i := 269) (by decide +kernel)⟩
theorem lw_p2 : lw_okq (⟨"NearFinder", "leastOfWays", "(ILNearFinder$Measure;)I"⟩, 9) := ⟨⟨by decide +kernel, by decide +kernel⟩, List.mem_of_getElem? (i := 16) (by decide +kernel), List.mem_of_getElem? (i := 272) (by decide +kernel), List.mem_of_getElem? (i := 273) (by decide +kernel)⟩
theorem lw_p3 : lw_okq (⟨"NearFinder", "costOfPair", "(IILNearFinder$Measure;)I"⟩, 9) := ⟨⟨by decide +kernel, by decide +kernel⟩, List.mem_of_getElem? (i := 16) (by decide +kernel), List.mem_of_getElem? (i := 288) (by decide +kernel), List.mem_of_getElem? (i := 289) (by decide +kernel)⟩
theorem lw_p4 : lw_okq (⟨"NearFinder$ByChanges", "nextRow", "(I[III)V"⟩, 2) := ⟨⟨by decide +kernel, by decide +kernel⟩, List.mem_of_getElem? (i := 89) (by decide +kernel), List.mem_of_getElem? (i := 307) (by decide +kernel), List.mem_of_getElem? (i := 308) (by decide +kernel)⟩
theorem lw_p5 : lw_okq (⟨"NearFinder$ByCounts", "sharedLetters", "(LNearFinder$Words;ILNearFinder$Words;I)I"⟩, 2) := ⟨⟨by decide +kernel, by decide +kernel⟩, List.mem_of_getElem? (i := 102) (by decide +kernel), List.mem_of_getElem? (i := 335) (by decide +kernel), List.mem_of_getElem? (i := 336) (by decide +kernel)⟩
theorem lw_p6 : lw_okq (⟨"NearFinder$Pairing", "totalOf", "(I)I"⟩, 4) := ⟨⟨by decide +kernel, by decide +kernel⟩, List.mem_of_getElem? (i := 115) (by decide +kernel), List.mem_of_getElem? (i := 356) (by decide +kernel), List.mem_of_getElem? (i := 357) (by decide +kernel)⟩
theorem lw_p7 : lw_okq (⟨"NearFinder$Hits", "isNearer", "(III)Z"⟩, 6) := ⟨⟨by decide +kernel, by decide +kernel⟩, List.mem_of_getElem? (i := 135) (by decide +kernel), List.mem_of_getElem? (i := 385) (by decide +kernel), List.mem_of_getElem? (i := 386) (by decide +kernel)⟩
theorem lw_p8 : lw_okq (⟨"NearFinder$Hits", "copy", "(II)V"⟩, 6) := ⟨⟨by decide +kernel, by decide +kernel⟩, List.mem_of_getElem? (i := 135) (by decide +kernel), List.mem_of_getElem? (i := 389) (by decide +kernel), List.mem_of_getElem? (i := 390) (by decide +kernel)⟩
theorem lw_p9 : lw_okq (⟨"java/lang/Throwable", "fillInStackTrace", "(I)Ljava/lang/Throwable;"⟩, 6) := ⟨⟨by decide +kernel, by decide +kernel⟩, List.mem_of_getElem? (i := 491) (by decide +kernel), List.mem_of_getElem? (i := 489) (by decide +kernel), List.mem_of_getElem? (i := 490) (by decide +kernel)⟩
theorem lw_p10 : lw_okq (⟨"NearFinderModel", "isEntry", "(I)Z"⟩, 17) := ⟨⟨by decide +kernel, by decide +kernel⟩, List.mem_of_getElem? (i := 522) (by decide +kernel), List.mem_of_getElem? (i := 592) (by decide +kernel), List.mem_of_getElem? (i := 593) (by decide +kernel)⟩
theorem lw_p11 : lw_okq (⟨"NearFinderModel", "add", "(II)Z"⟩, 17) := ⟨⟨by decide +kernel, by decide +kernel⟩, List.mem_of_getElem? (i := 522) (by decide +kernel), List.mem_of_getElem? (i := 599) (by decide +kernel), List.mem_of_getElem? (i := 600) (by decide +kernel)⟩
theorem lw_p12 : lw_okq (⟨"NearFinderModel", "look", "(IIZ)I"⟩, 17) := ⟨⟨by decide +kernel, by decide +kernel⟩, List.mem_of_getElem? (i := 522) (by decide +kernel), List.mem_of_getElem? (i := 619) (by decide +kernel), List.mem_of_getElem? (i := 620) (by decide +kernel)⟩
theorem lw_p13 : lw_okq (⟨"NearFinderModel", "words", "(I)I"⟩, 17) := ⟨⟨by decide +kernel, by decide +kernel⟩, List.mem_of_getElem? (i := 522) (by decide +kernel), List.mem_of_getElem? (i := 623) (by decide +kernel), List.mem_of_getElem? (i := 624) (by decide +kernel)⟩
theorem lw_p14 : lw_okq (⟨"NearFinderModel", "isAsked", "(I)Z"⟩, 17) := ⟨⟨by decide +kernel, by decide +kernel⟩, List.mem_of_getElem? (i := 522) (by decide +kernel), List.mem_of_getElem? (i := 627) (by decide +kernel), List.mem_of_getElem? (i := 628) (by decide +kernel)⟩
theorem lw_p15 : lw_okq (⟨"NearFinderModel", "sumBy", "(IZ)I"⟩, 17) := ⟨⟨by decide +kernel, by decide +kernel⟩, List.mem_of_getElem? (i := 522) (by decide +kernel), List.mem_of_getElem? (i := 631) (by decide +kernel), List.mem_of_getElem? (i := 632) (by decide +kernel)⟩
def lw_privs_1 : List (MethodName × Nat) := [(⟨"NearFinder", "look", "(IIZ)I"⟩, 9), (⟨"NearFinder", "isLookedFor", "(I)Z"⟩, 9), (⟨"NearFinder", "leastOfWays", "(ILNearFinder$Measure;)I"⟩, 9), (⟨"NearFinder", "costOfPair", "(IILNearFinder$Measure;)I"⟩, 9), (⟨"NearFinder$ByChanges", "nextRow", "(I[III)V"⟩, 2), (⟨"NearFinder$ByCounts", "sharedLetters", "(LNearFinder$Words;ILNearFinder$Words;I)I"⟩, 2), (⟨"NearFinder$Pairing", "totalOf", "(I)I"⟩, 4), (⟨"NearFinder$Hits", "isNearer", "(III)Z"⟩, 6), (⟨"NearFinder$Hits", "copy", "(II)V"⟩, 6), (⟨"java/lang/Throwable", "fillInStackTrace", "(I)Ljava/lang/Throwable;"⟩, 6), (⟨"NearFinderModel", "isEntry", "(I)Z"⟩, 17), (⟨"NearFinderModel", "add", "(II)Z"⟩, 17), (⟨"NearFinderModel", "look", "(IIZ)I"⟩, 17), (⟨"NearFinderModel", "words", "(I)I"⟩, 17), (⟨"NearFinderModel", "isAsked", "(I)Z"⟩, 17), (⟨"NearFinderModel", "sumBy", "(IZ)I"⟩, 17)]
theorem lw_r1 : ∀ q ∈ lw_privs_1, lw_okq q := List.forall_mem_cons.mpr ⟨lw_p0, List.forall_mem_cons.mpr ⟨lw_p1, List.forall_mem_cons.mpr ⟨lw_p2, List.forall_mem_cons.mpr ⟨lw_p3, List.forall_mem_cons.mpr ⟨lw_p4, List.forall_mem_cons.mpr ⟨lw_p5, List.forall_mem_cons.mpr ⟨lw_p6, List.forall_mem_cons.mpr ⟨lw_p7, List.forall_mem_cons.mpr ⟨lw_p8, List.forall_mem_cons.mpr ⟨lw_p9, List.forall_mem_cons.mpr ⟨lw_p10, List.forall_mem_cons.mpr ⟨lw_p11, List.forall_mem_cons.mpr ⟨lw_p12, List.forall_mem_cons.mpr ⟨lw_p13, List.forall_mem_cons.mpr ⟨lw_p14, List.forall_mem_cons.mpr ⟨lw_p15, fun _ h => absurd h List.not_mem_nil⟩⟩⟩⟩⟩⟩⟩⟩⟩⟩⟩⟩⟩⟩⟩⟩
theorem lw_p16 : lw_okq (⟨"NearFinderModel", "counted", "(II)I"⟩, 17) := ⟨⟨by decide +kernel, by decide +kernel⟩, List.mem_of_getElem? (i := 522) (by decide +kernel), List.mem_of_getElem? (i := 635) (by decide +kernel), List.mem_of_getElem? (i := 636) (by decide +kernel)⟩
theorem lw_p17 : lw_okq (⟨"NearFinderModel", "beyond", "(II)I"⟩, 17) := ⟨⟨by decide +kernel, by decide +kernel⟩, List.mem_of_getElem? (i := 522) (by decide +kernel), List.mem_of_getElem? (i := 642) (by decide +kernel), List.mem_of_getElem? (i := 643) (by decide +kernel)⟩
theorem lw_p18 : lw_okq (⟨"NearFinderModel", "change", "(II)I"⟩, 17) := ⟨⟨by decide +kernel, by decide +kernel⟩, List.mem_of_getElem? (i := 522) (by decide +kernel), List.mem_of_getElem? (i := 646) (by decide +kernel), List.mem_of_getElem? (i := 647) (by decide +kernel)⟩
theorem lw_p19 : lw_okq (⟨"NearFinderModel", "exchange", "(II)I"⟩, 17) := ⟨⟨by decide +kernel, by decide +kernel⟩, List.mem_of_getElem? (i := 522) (by decide +kernel), List.mem_of_getElem? (i := 651) (by decide +kernel), List.mem_of_getElem? (i := 652) (by decide +kernel)⟩
theorem lw_p20 : lw_okq (⟨"NearFinderModel", "may", "(III)Z"⟩, 17) := ⟨⟨by decide +kernel, by decide +kernel⟩, List.mem_of_getElem? (i := 522) (by decide +kernel), List.mem_of_getElem? (i := 658) (by decide +kernel), List.mem_of_getElem? (i := 659) (by decide +kernel)⟩
theorem lw_p21 : lw_okq (⟨"NearFinderModel", "cost", "(II)I"⟩, 17) := ⟨⟨by decide +kernel, by decide +kernel⟩, List.mem_of_getElem? (i := 522) (by decide +kernel), List.mem_of_getElem? (i := 662) (by decide +kernel), List.mem_of_getElem? (i := 663) (by decide +kernel)⟩
theorem lw_p22 : lw_okq (⟨"NearFinderModel", "come", "(III)V"⟩, 17) := ⟨⟨by decide +kernel, by decide +kernel⟩, List.mem_of_getElem? (i := 522) (by decide +kernel), List.mem_of_getElem? (i := 669) (by decide +kernel), List.mem_of_getElem? (i := 670) (by decide +kernel)⟩
theorem lw_p23 : lw_okq (⟨"NearFinderModel", "isBefore", "(III)Z"⟩, 17) := ⟨⟨by decide +kernel, by decide +kernel⟩, List.mem_of_getElem? (i := 522) (by decide +kernel), List.mem_of_getElem? (i := 673) (by decide +kernel), List.mem_of_getElem? (i := 674) (by decide +kernel)⟩
def lw_privs_2 : List (MethodName × Nat) := [(⟨"NearFinderModel", "counted", "(II)I"⟩, 17), (⟨"NearFinderModel", "beyond", "(II)I"⟩, 17), (⟨"NearFinderModel", "change", "(II)I"⟩, 17), (⟨"NearFinderModel", "exchange", "(II)I"⟩, 17), (⟨"NearFinderModel", "may", "(III)Z"⟩, 17), (⟨"NearFinderModel", "cost", "(II)I"⟩, 17), (⟨"NearFinderModel", "come", "(III)V"⟩, 17), (⟨"NearFinderModel", "isBefore", "(III)Z"⟩, 17)]
theorem lw_r2 : ∀ q ∈ lw_privs_2, lw_okq q := List.forall_mem_cons.mpr ⟨lw_p16, List.forall_mem_cons.mpr ⟨lw_p17, List.forall_mem_cons.mpr ⟨lw_p18, List.forall_mem_cons.mpr ⟨lw_p19, List.forall_mem_cons.mpr ⟨lw_p20, List.forall_mem_cons.mpr ⟨lw_p21, List.forall_mem_cons.mpr ⟨lw_p22, List.forall_mem_cons.mpr ⟨lw_p23, fun _ h => absurd h List.not_mem_nil⟩⟩⟩⟩⟩⟩⟩⟩
def lw_privs : List (MethodName × Nat) := lw_privs_1 ++ (lw_privs_2)
def lw_tbl : List Cond := k2_sels lw_privs ++ tables_1
theorem lw_privs_ok : ∀ q ∈ lw_privs, lw_okq q := by
  show ∀ q ∈ lw_privs_1 ++ (lw_privs_2), lw_okq q
  exact List.forall_mem_append.mpr ⟨lw_r1, lw_r2⟩
/-! names: classes, fields, methods; the words of the tables that a walk may use (BW) -/
theorem mw_of {tbl : List Cond} (i : Nat) {w : Cond} (h : tbl[i]? = some w) (hg : goodWord w = true) : w ∈ tbl.filter goodWord := List.mem_filter.mpr ⟨List.mem_of_getElem? h, hg⟩
def BW : List Cond := lw_tbl.filter goodWord
def R_Bk : String := "NearFinder$Book"
def R_Bc : String := "NearFinder$ByChanges"
def R_Bn : String := "NearFinder$ByCounts"
def R_Hi : String := "NearFinder$Hits"
def R_Pa : String := "NearFinder$Pairing"
def R_We : String := "NearFinder$Weights"
def R_Wo : String := "NearFinder$Words"
def R_Nf : String := "NearFinder"
def R_Mo : String := "NearFinderModel"
def R_La : String := "NearFinderLaw"
abbrev b_Nf_init : ByteArray := prog_1_method_1_code
def y_Nf_init : MethodName := ⟨R_Nf, "<init>", "()V"⟩
def w_Nf_init : List Cond := .code y_Nf_init b_Nf_init 1 none :: BW
abbrev b_Nf_entry : ByteArray := prog_1_method_2_code
def y_Nf_entry : MethodName := ⟨R_Nf, "entry", "(I)I"⟩
def w_Nf_entry : List Cond := .code y_Nf_entry b_Nf_entry 2 (some .int) :: BW
abbrev b_Nf_letter : ByteArray := prog_1_method_3_code
def y_Nf_letter : MethodName := ⟨R_Nf, "letter", "(III)Z"⟩
def w_Nf_letter : List Cond := .code y_Nf_letter b_Nf_letter 4 (some .boolean) :: BW
abbrev b_Nf_ask : ByteArray := prog_1_method_4_code
def y_Nf_ask : MethodName := ⟨R_Nf, "ask", "(II)Z"⟩
def w_Nf_ask : List Cond := .code y_Nf_ask b_Nf_ask 3 (some .boolean) :: BW
abbrev b_Nf_asked : ByteArray := prog_1_method_5_code
def y_Nf_asked : MethodName := ⟨R_Nf, "asked", "(I)Z"⟩
def w_Nf_asked : List Cond := .code y_Nf_asked b_Nf_asked 2 (some .boolean) :: BW
abbrev b_Nf_weight : ByteArray := prog_1_method_6_code
def y_Nf_weight : MethodName := ⟨R_Nf, "weight", "(II)I"⟩
def w_Nf_weight : List Cond := .code y_Nf_weight b_Nf_weight 3 (some .int) :: BW
abbrev b_Nf_find : ByteArray := prog_1_method_7_code
def y_Nf_find : MethodName := ⟨R_Nf, "find", "(II)I"⟩
def w_Nf_find : List Cond := .code y_Nf_find b_Nf_find 3 (some .int) :: BW
abbrev b_Nf_scan : ByteArray := prog_1_method_8_code
def y_Nf_scan : MethodName := ⟨R_Nf, "scan", "(II)I"⟩
def w_Nf_scan : List Cond := .code y_Nf_scan b_Nf_scan 3 (some .int) :: BW
abbrev b_Nf_worked : ByteArray := prog_1_method_9_code
def y_Nf_worked : MethodName := ⟨R_Nf, "worked", "()I"⟩
def w_Nf_worked : List Cond := .code y_Nf_worked b_Nf_worked 1 (some .int) :: BW
abbrev b_Nf_found : ByteArray := prog_1_method_10_code
def y_Nf_found : MethodName := ⟨R_Nf, "found", "(I)I"⟩
def w_Nf_found : List Cond := .code y_Nf_found b_Nf_found 2 (some .int) :: BW
abbrev b_Nf_sum : ByteArray := prog_1_method_11_code
def y_Nf_sum : MethodName := ⟨R_Nf, "sum", "(I)I"⟩
def w_Nf_sum : List Cond := .code y_Nf_sum b_Nf_sum 2 (some .int) :: BW
abbrev b_Nf_sumOf : ByteArray := prog_1_method_12_code
def y_Nf_sumOf : MethodName := ⟨R_Nf, "sumOf", "(I)I"⟩
def w_Nf_sumOf : List Cond := .code y_Nf_sumOf b_Nf_sumOf 2 (some .int) :: BW
abbrev b_Nf_pair : ByteArray := prog_1_method_13_code
def y_Nf_pair : MethodName := ⟨R_Nf, "pair", "(II)I"⟩
def w_Nf_pair : List Cond := .code y_Nf_pair b_Nf_pair 3 (some .int) :: BW
abbrev b_Nf_changes : ByteArray := prog_1_method_14_code
def y_Nf_changes : MethodName := ⟨R_Nf, "changes", "(III)I"⟩
def w_Nf_changes : List Cond := .code y_Nf_changes b_Nf_changes 5 (some .int) :: BW
abbrev b_Nf_learned : ByteArray := prog_1_method_15_code
def y_Nf_learned : MethodName := ⟨R_Nf, "learned", "(II)I"⟩
def w_Nf_learned : List Cond := .code y_Nf_learned b_Nf_learned 3 (some .int) :: BW
abbrev b_Nf_drop : ByteArray := prog_1_method_16_code
def y_Nf_drop : MethodName := ⟨R_Nf, "drop", "(IZ)I"⟩
def w_Nf_drop : List Cond := .code y_Nf_drop b_Nf_drop 4 (some .int) :: BW
abbrev b_Nf_share : ByteArray := prog_1_method_17_code
def y_Nf_share : MethodName := ⟨R_Nf, "share", "(II)J"⟩
def w_Nf_share : List Cond := .code y_Nf_share b_Nf_share 3 (some .long) :: BW
abbrev b_Nf_count : ByteArray := prog_1_method_18_code
def y_Nf_count : MethodName := ⟨R_Nf, "count", "(I)I"⟩
def w_Nf_count : List Cond := .code y_Nf_count b_Nf_count 2 (some .int) :: BW
abbrev b_Nf_isPlace : ByteArray := prog_1_method_19_code
def y_Nf_isPlace : MethodName := ⟨R_Nf, "isPlace", "(I)Z"⟩
def w_Nf_isPlace : List Cond := .code y_Nf_isPlace b_Nf_isPlace 1 (some .boolean) :: BW
abbrev b_Nf_isWord : ByteArray := prog_1_method_20_code
def y_Nf_isWord : MethodName := ⟨R_Nf, "isWord", "(I)Z"⟩
def w_Nf_isWord : List Cond := .code y_Nf_isWord b_Nf_isWord 1 (some .boolean) :: BW
abbrev b_Nf_isLetter : ByteArray := prog_1_method_21_code
def y_Nf_isLetter : MethodName := ⟨R_Nf, "isLetter", "(I)Z"⟩
def w_Nf_isLetter : List Cond := .code y_Nf_isLetter b_Nf_isLetter 1 (some .boolean) :: BW
abbrev b_Nf_look : ByteArray := prog_1_method_22_code
def y_Nf_look : MethodName := ⟨R_Nf, "look", "(IIZ)I"⟩
def w_Nf_look : List Cond := .code y_Nf_look b_Nf_look 5 (some .int) :: BW
abbrev b_Nf_isLookedFor : ByteArray := prog_1_method_23_code
def y_Nf_isLookedFor : MethodName := ⟨R_Nf, "isLookedFor", "(I)Z"⟩
def w_Nf_isLookedFor : List Cond := .code y_Nf_isLookedFor b_Nf_isLookedFor 2 (some .boolean) :: BW
abbrev b_Nf_leastOfWays : ByteArray := prog_1_method_24_code
def y_Nf_leastOfWays : MethodName := ⟨R_Nf, "leastOfWays", "(ILNearFinder$Measure;)I"⟩
def w_Nf_leastOfWays : List Cond := .code y_Nf_leastOfWays b_Nf_leastOfWays 5 (some .int) :: BW
abbrev b_Nf_costOfPair : ByteArray := prog_1_method_25_code
def y_Nf_costOfPair : MethodName := ⟨R_Nf, "costOfPair", "(IILNearFinder$Measure;)I"⟩
def w_Nf_costOfPair : List Cond := .code y_Nf_costOfPair b_Nf_costOfPair 4 (some .int) :: BW
abbrev b_Mo_init : ByteArray := prog_11_method_1_code
def y_Mo_init : MethodName := ⟨R_Mo, "<init>", "()V"⟩
def w_Mo_init : List Cond := .code y_Mo_init b_Mo_init 2 none :: BW
abbrev b_Mo_thrown : ByteArray := prog_11_method_2_code
def y_Mo_thrown : MethodName := ⟨R_Mo, "thrown", "()I"⟩
def w_Mo_thrown : List Cond := .code y_Mo_thrown b_Mo_thrown 1 (some .int) :: BW
abbrev b_Mo_isEntry : ByteArray := prog_11_method_3_code
def y_Mo_isEntry : MethodName := ⟨R_Mo, "isEntry", "(I)Z"⟩
def w_Mo_isEntry : List Cond := .code y_Mo_isEntry b_Mo_isEntry 2 (some .boolean) :: BW
abbrev b_Mo_isWord : ByteArray := prog_11_method_4_code
def y_Mo_isWord : MethodName := ⟨R_Mo, "isWord", "(I)Z"⟩
def w_Mo_isWord : List Cond := .code y_Mo_isWord b_Mo_isWord 1 (some .boolean) :: BW
abbrev b_Mo_entry : ByteArray := prog_11_method_5_code
def y_Mo_entry : MethodName := ⟨R_Mo, "entry", "(I)I"⟩
def w_Mo_entry : List Cond := .code y_Mo_entry b_Mo_entry 2 (some .int) :: BW
abbrev b_Mo_add : ByteArray := prog_11_method_6_code
def y_Mo_add : MethodName := ⟨R_Mo, "add", "(II)Z"⟩
def w_Mo_add : List Cond := .code y_Mo_add b_Mo_add 3 (some .boolean) :: BW
abbrev b_Mo_letter : ByteArray := prog_11_method_7_code
def y_Mo_letter : MethodName := ⟨R_Mo, "letter", "(III)Z"⟩
def w_Mo_letter : List Cond := .code y_Mo_letter b_Mo_letter 4 (some .boolean) :: BW
abbrev b_Mo_ask : ByteArray := prog_11_method_8_code
def y_Mo_ask : MethodName := ⟨R_Mo, "ask", "(II)Z"⟩
def w_Mo_ask : List Cond := .code y_Mo_ask b_Mo_ask 3 (some .boolean) :: BW
abbrev b_Mo_asked : ByteArray := prog_11_method_9_code
def y_Mo_asked : MethodName := ⟨R_Mo, "asked", "(I)Z"⟩
def w_Mo_asked : List Cond := .code y_Mo_asked b_Mo_asked 2 (some .boolean) :: BW
abbrev b_Mo_weight : ByteArray := prog_11_method_10_code
def y_Mo_weight : MethodName := ⟨R_Mo, "weight", "(II)I"⟩
def w_Mo_weight : List Cond := .code y_Mo_weight b_Mo_weight 4 (some .int) :: BW
abbrev b_Mo_lesser : ByteArray := prog_11_method_11_code
def y_Mo_lesser : MethodName := ⟨R_Mo, "lesser", "(II)I"⟩
def w_Mo_lesser : List Cond := .code y_Mo_lesser b_Mo_lesser 2 (some .int) :: BW
abbrev b_Mo_sound : ByteArray := prog_11_method_12_code
def y_Mo_sound : MethodName := ⟨R_Mo, "sound", "(I)I"⟩
def w_Mo_sound : List Cond := .code y_Mo_sound b_Mo_sound 1 (some .int) :: BW
abbrev b_Mo_exchange : ByteArray := prog_11_method_13_code
def y_Mo_exchange : MethodName := ⟨R_Mo, "exchange", "(II)I"⟩
def w_Mo_exchange : List Cond := .code y_Mo_exchange b_Mo_exchange 3 (some .int) :: BW
abbrev b_Mo_change : ByteArray := prog_11_method_14_code
def y_Mo_change : MethodName := ⟨R_Mo, "change", "(II)I"⟩
def w_Mo_change : List Cond := .code y_Mo_change b_Mo_change 6 (some .int) :: BW
abbrev b_Mo_beyond : ByteArray := prog_11_method_15_code
def y_Mo_beyond : MethodName := ⟨R_Mo, "beyond", "(II)I"⟩
def w_Mo_beyond : List Cond := .code y_Mo_beyond b_Mo_beyond 7 (some .int) :: BW
abbrev b_Mo_counted : ByteArray := prog_11_method_16_code
def y_Mo_counted : MethodName := ⟨R_Mo, "counted", "(II)I"⟩
def w_Mo_counted : List Cond := .code y_Mo_counted b_Mo_counted 6 (some .int) :: BW
abbrev b_Mo_may : ByteArray := prog_11_method_17_code
def y_Mo_may : MethodName := ⟨R_Mo, "may", "(III)Z"⟩
def w_Mo_may : List Cond := .code y_Mo_may b_Mo_may 4 (some .boolean) :: BW
abbrev b_Mo_words : ByteArray := prog_11_method_18_code
def y_Mo_words : MethodName := ⟨R_Mo, "words", "(I)I"⟩
def w_Mo_words : List Cond := .code y_Mo_words b_Mo_words 2 (some .int) :: BW
abbrev b_Mo_cost : ByteArray := prog_11_method_19_code
def y_Mo_cost : MethodName := ⟨R_Mo, "cost", "(II)I"⟩
def w_Mo_cost : List Cond := .code y_Mo_cost b_Mo_cost 3 (some .int) :: BW
abbrev b_Mo_turned : ByteArray := prog_11_method_20_code
def y_Mo_turned : MethodName := ⟨R_Mo, "turned", "(II)I"⟩
def w_Mo_turned : List Cond := .code y_Mo_turned b_Mo_turned 2 (some .int) :: BW
abbrev b_Mo_sumBy : ByteArray := prog_11_method_21_code
def y_Mo_sumBy : MethodName := ⟨R_Mo, "sumBy", "(IZ)I"⟩
def w_Mo_sumBy : List Cond := .code y_Mo_sumBy b_Mo_sumBy 12 (some .int) :: BW
abbrev b_Mo_isAsked : ByteArray := prog_11_method_22_code
def y_Mo_isAsked : MethodName := ⟨R_Mo, "isAsked", "(I)Z"⟩
def w_Mo_isAsked : List Cond := .code y_Mo_isAsked b_Mo_isAsked 2 (some .boolean) :: BW
abbrev b_Mo_isBefore : ByteArray := prog_11_method_23_code
def y_Mo_isBefore : MethodName := ⟨R_Mo, "isBefore", "(III)Z"⟩
def w_Mo_isBefore : List Cond := .code y_Mo_isBefore b_Mo_isBefore 5 (some .boolean) :: BW
abbrev b_Mo_come : ByteArray := prog_11_method_24_code
def y_Mo_come : MethodName := ⟨R_Mo, "come", "(III)V"⟩
def w_Mo_come : List Cond := .code y_Mo_come b_Mo_come 6 none :: BW
abbrev b_Mo_look : ByteArray := prog_11_method_25_code
def y_Mo_look : MethodName := ⟨R_Mo, "look", "(IIZ)I"⟩
def w_Mo_look : List Cond := .code y_Mo_look b_Mo_look 8 (some .int) :: BW
abbrev b_Mo_find : ByteArray := prog_11_method_26_code
def y_Mo_find : MethodName := ⟨R_Mo, "find", "(II)I"⟩
def w_Mo_find : List Cond := .code y_Mo_find b_Mo_find 3 (some .int) :: BW
abbrev b_Mo_scan : ByteArray := prog_11_method_27_code
def y_Mo_scan : MethodName := ⟨R_Mo, "scan", "(II)I"⟩
def w_Mo_scan : List Cond := .code y_Mo_scan b_Mo_scan 3 (some .int) :: BW
abbrev b_Mo_worked : ByteArray := prog_11_method_28_code
def y_Mo_worked : MethodName := ⟨R_Mo, "worked", "()I"⟩
def w_Mo_worked : List Cond := .code y_Mo_worked b_Mo_worked 1 (some .int) :: BW
abbrev b_Mo_found : ByteArray := prog_11_method_29_code
def y_Mo_found : MethodName := ⟨R_Mo, "found", "(I)I"⟩
def w_Mo_found : List Cond := .code y_Mo_found b_Mo_found 2 (some .int) :: BW
abbrev b_Mo_sum : ByteArray := prog_11_method_30_code
def y_Mo_sum : MethodName := ⟨R_Mo, "sum", "(I)I"⟩
def w_Mo_sum : List Cond := .code y_Mo_sum b_Mo_sum 2 (some .int) :: BW
abbrev b_Mo_sumOf : ByteArray := prog_11_method_31_code
def y_Mo_sumOf : MethodName := ⟨R_Mo, "sumOf", "(I)I"⟩
def w_Mo_sumOf : List Cond := .code y_Mo_sumOf b_Mo_sumOf 2 (some .int) :: BW
abbrev b_Mo_pair : ByteArray := prog_11_method_32_code
def y_Mo_pair : MethodName := ⟨R_Mo, "pair", "(II)I"⟩
def w_Mo_pair : List Cond := .code y_Mo_pair b_Mo_pair 4 (some .int) :: BW
abbrev b_Mo_changes : ByteArray := prog_11_method_33_code
def y_Mo_changes : MethodName := ⟨R_Mo, "changes", "(III)I"⟩
def w_Mo_changes : List Cond := .code y_Mo_changes b_Mo_changes 4 (some .int) :: BW
abbrev b_Mo_learned : ByteArray := prog_11_method_34_code
def y_Mo_learned : MethodName := ⟨R_Mo, "learned", "(II)I"⟩
def w_Mo_learned : List Cond := .code y_Mo_learned b_Mo_learned 3 (some .int) :: BW
abbrev b_Mo_drop : ByteArray := prog_11_method_35_code
def y_Mo_drop : MethodName := ⟨R_Mo, "drop", "(IZ)I"⟩
def w_Mo_drop : List Cond := .code y_Mo_drop b_Mo_drop 4 (some .int) :: BW
abbrev b_Mo_share : ByteArray := prog_11_method_36_code
def y_Mo_share : MethodName := ⟨R_Mo, "share", "(II)J"⟩
def w_Mo_share : List Cond := .code y_Mo_share b_Mo_share 3 (some .long) :: BW
abbrev b_Mo_count : ByteArray := prog_11_method_37_code
def y_Mo_count : MethodName := ⟨R_Mo, "count", "(I)I"⟩
def w_Mo_count : List Cond := .code y_Mo_count b_Mo_count 4 (some .int) :: BW
abbrev b_Bk_init : ByteArray := prog_2_method_1_code
def y_Bk_init : MethodName := ⟨R_Bk, "<init>", "()V"⟩
def w_Bk_init : List Cond := .code y_Bk_init b_Bk_init 1 none :: BW
abbrev b_Bk_wordAt : ByteArray := prog_2_method_2_code
def y_Bk_wordAt : MethodName := ⟨R_Bk, "wordAt", "(II)I"⟩
def w_Bk_wordAt : List Cond := .code y_Bk_wordAt b_Bk_wordAt 2 (some .int) :: BW
abbrev b_Bk_has : ByteArray := prog_2_method_3_code
def y_Bk_has : MethodName := ⟨R_Bk, "has", "(I)Z"⟩
def w_Bk_has : List Cond := .code y_Bk_has b_Bk_has 2 (some .boolean) :: BW
abbrev b_Bk_isFull : ByteArray := prog_2_method_4_code
def y_Bk_isFull : MethodName := ⟨R_Bk, "isFull", "()Z"⟩
def w_Bk_isFull : List Cond := .code y_Bk_isFull b_Bk_isFull 1 (some .boolean) :: BW
abbrev b_Bk_addEntry : ByteArray := prog_2_method_5_code
def y_Bk_addEntry : MethodName := ⟨R_Bk, "addEntry", "(I)I"⟩
def w_Bk_addEntry : List Cond := .code y_Bk_addEntry b_Bk_addEntry 3 (some .int) :: BW
abbrev b_Bk_learn : ByteArray := prog_2_method_6_code
def y_Bk_learn : MethodName := ⟨R_Bk, "learn", "(II)I"⟩
def w_Bk_learn : List Cond := .code y_Bk_learn b_Bk_learn 3 (some .int) :: BW
abbrev b_Bk_droppedOnes : ByteArray := prog_2_method_7_code
def y_Bk_droppedOnes : MethodName := ⟨R_Bk, "droppedOnes", "()I"⟩
def w_Bk_droppedOnes : List Cond := .code y_Bk_droppedOnes b_Bk_droppedOnes 3 (some .int) :: BW
abbrev b_Bc_init : ByteArray := prog_3_method_1_code
def y_Bc_init : MethodName := ⟨R_Bc, "<init>", "(LNearFinder$Weights;)V"⟩
def w_Bc_init : List Cond := .code y_Bc_init b_Bc_init 2 none :: BW
abbrev b_Bc_between : ByteArray := prog_3_method_2_code
def y_Bc_between : MethodName := ⟨R_Bc, "between", "(LNearFinder$Words;ILNearFinder$Words;I)I"⟩
def w_Bc_between : List Cond := .code y_Bc_between b_Bc_between 9 (some .int) :: BW
abbrev b_Bc_nextRow : ByteArray := prog_3_method_3_code
def y_Bc_nextRow : MethodName := ⟨R_Bc, "nextRow", "(I[III)V"⟩
def w_Bc_nextRow : List Cond := .code y_Bc_nextRow b_Bc_nextRow 14 none :: BW
abbrev b_Bn_init : ByteArray := prog_4_method_1_code
def y_Bn_init : MethodName := ⟨R_Bn, "<init>", "(LNearFinder$Weights;)V"⟩
def w_Bn_init : List Cond := .code y_Bn_init b_Bn_init 2 none :: BW
abbrev b_Bn_between : ByteArray := prog_4_method_2_code
def y_Bn_between : MethodName := ⟨R_Bn, "between", "(LNearFinder$Words;ILNearFinder$Words;I)I"⟩
def w_Bn_between : List Cond := .code y_Bn_between b_Bn_between 9 (some .int) :: BW
abbrev b_Bn_sharedLetters : ByteArray := prog_4_method_3_code
def y_Bn_sharedLetters : MethodName := ⟨R_Bn, "sharedLetters", "(LNearFinder$Words;ILNearFinder$Words;I)I"⟩
def w_Bn_sharedLetters : List Cond := .code y_Bn_sharedLetters b_Bn_sharedLetters 10 (some .int) :: BW
abbrev b_Hi_init : ByteArray := prog_5_method_1_code
def y_Hi_init : MethodName := ⟨R_Hi, "<init>", "()V"⟩
def w_Hi_init : List Cond := .code y_Hi_init b_Hi_init 1 none :: BW
abbrev b_Hi_start : ByteArray := prog_5_method_2_code
def y_Hi_start : MethodName := ⟨R_Hi, "start", "(II)V"⟩
def w_Hi_start : List Cond := .code y_Hi_start b_Hi_start 3 none :: BW
abbrev b_Hi_has : ByteArray := prog_5_method_3_code
def y_Hi_has : MethodName := ⟨R_Hi, "has", "(I)Z"⟩
def w_Hi_has : List Cond := .code y_Hi_has b_Hi_has 2 (some .boolean) :: BW
abbrev b_Hi_limit : ByteArray := prog_5_method_4_code
def y_Hi_limit : MethodName := ⟨R_Hi, "limit", "()I"⟩
def w_Hi_limit : List Cond := .code y_Hi_limit b_Hi_limit 1 (some .int) :: BW
abbrev b_Hi_offer : ByteArray := prog_5_method_5_code
def y_Hi_offer : MethodName := ⟨R_Hi, "offer", "(III)V"⟩
def w_Hi_offer : List Cond := .code y_Hi_offer b_Hi_offer 6 none :: BW
abbrev b_Hi_isNearer : ByteArray := prog_5_method_6_code
def y_Hi_isNearer : MethodName := ⟨R_Hi, "isNearer", "(III)Z"⟩
def w_Hi_isNearer : List Cond := .code y_Hi_isNearer b_Hi_isNearer 4 (some .boolean) :: BW
abbrev b_Hi_copy : ByteArray := prog_5_method_7_code
def y_Hi_copy : MethodName := ⟨R_Hi, "copy", "(II)V"⟩
def w_Hi_copy : List Cond := .code y_Hi_copy b_Hi_copy 3 none :: BW
abbrev b_Pa_init : ByteArray := prog_7_method_1_code
def y_Pa_init : MethodName := ⟨R_Pa, "<init>", "(LNearFinder$Weights;)V"⟩
def w_Pa_init : List Cond := .code y_Pa_init b_Pa_init 2 none :: BW
abbrev b_Pa_partner : ByteArray := prog_7_method_2_code
def y_Pa_partner : MethodName := ⟨R_Pa, "partner", "(II)I"⟩
def w_Pa_partner : List Cond := .code y_Pa_partner b_Pa_partner 2 (some .int) :: BW
abbrev b_Pa_start : ByteArray := prog_7_method_3_code
def y_Pa_start : MethodName := ⟨R_Pa, "start", "()V"⟩
def w_Pa_start : List Cond := .code y_Pa_start b_Pa_start 1 none :: BW
abbrev b_Pa_countWord : ByteArray := prog_7_method_4_code
def y_Pa_countWord : MethodName := ⟨R_Pa, "countWord", "(Z)V"⟩
def w_Pa_countWord : List Cond := .code y_Pa_countWord b_Pa_countWord 2 none :: BW
abbrev b_Pa_setCost : ByteArray := prog_7_method_5_code
def y_Pa_setCost : MethodName := ⟨R_Pa, "setCost", "(III)V"⟩
def w_Pa_setCost : List Cond := .code y_Pa_setCost b_Pa_setCost 4 none :: BW
abbrev b_Pa_choose : ByteArray := prog_7_method_6_code
def y_Pa_choose : MethodName := ⟨R_Pa, "choose", "()I"⟩
def w_Pa_choose : List Cond := .code y_Pa_choose b_Pa_choose 4 (some .int) :: BW
abbrev b_Pa_totalOf : ByteArray := prog_7_method_7_code
def y_Pa_totalOf : MethodName := ⟨R_Pa, "totalOf", "(I)I"⟩
def w_Pa_totalOf : List Cond := .code y_Pa_totalOf b_Pa_totalOf 7 (some .int) :: BW
abbrev b_Pa_isTaken : ByteArray := prog_7_method_8_code
def y_Pa_isTaken : MethodName := ⟨R_Pa, "isTaken", "(III)Z"⟩
def w_Pa_isTaken : List Cond := .code y_Pa_isTaken b_Pa_isTaken 4 (some .boolean) :: BW
abbrev b_Pa_turnedBefore : ByteArray := prog_7_method_9_code
def y_Pa_turnedBefore : MethodName := ⟨R_Pa, "turnedBefore", "(III)I"⟩
def w_Pa_turnedBefore : List Cond := .code y_Pa_turnedBefore b_Pa_turnedBefore 5 (some .int) :: BW
abbrev b_We_init : ByteArray := prog_8_method_1_code
def y_We_init : MethodName := ⟨R_We, "<init>", "()V"⟩
def w_We_init : List Cond := .code y_We_init b_We_init 1 none :: BW
abbrev b_We_isKind : ByteArray := prog_8_method_2_code
def y_We_isKind : MethodName := ⟨R_We, "isKind", "(I)Z"⟩
def w_We_isKind : List Cond := .code y_We_isKind b_We_isKind 1 (some .boolean) :: BW
abbrev b_We_isWeight : ByteArray := prog_8_method_3_code
def y_We_isWeight : MethodName := ⟨R_We, "isWeight", "(I)Z"⟩
def w_We_isWeight : List Cond := .code y_We_isWeight b_We_isWeight 1 (some .boolean) :: BW
abbrev b_We_replace : ByteArray := prog_8_method_4_code
def y_We_replace : MethodName := ⟨R_We, "replace", "(II)I"⟩
def w_We_replace : List Cond := .code y_We_replace b_We_replace 4 (some .int) :: BW
abbrev b_We_putIn : ByteArray := prog_8_method_5_code
def y_We_putIn : MethodName := ⟨R_We, "putIn", "()I"⟩
def w_We_putIn : List Cond := .code y_We_putIn b_We_putIn 1 (some .int) :: BW
abbrev b_We_leftOut : ByteArray := prog_8_method_6_code
def y_We_leftOut : MethodName := ⟨R_We, "leftOut", "()I"⟩
def w_We_leftOut : List Cond := .code y_We_leftOut b_We_leftOut 1 (some .int) :: BW
abbrev b_We_exchanged : ByteArray := prog_8_method_7_code
def y_We_exchanged : MethodName := ⟨R_We, "exchanged", "()I"⟩
def w_We_exchanged : List Cond := .code y_We_exchanged b_We_exchanged 1 (some .int) :: BW
abbrev b_We_exchangedAlike : ByteArray := prog_8_method_8_code
def y_We_exchangedAlike : MethodName := ⟨R_We, "exchangedAlike", "()I"⟩
def w_We_exchangedAlike : List Cond := .code y_We_exchangedAlike b_We_exchangedAlike 1 (some .int) :: BW
abbrev b_We_missing : ByteArray := prog_8_method_9_code
def y_We_missing : MethodName := ⟨R_We, "missing", "()I"⟩
def w_We_missing : List Cond := .code y_We_missing b_We_missing 1 (some .int) :: BW
abbrev b_We_turned : ByteArray := prog_8_method_10_code
def y_We_turned : MethodName := ⟨R_We, "turned", "()I"⟩
def w_We_turned : List Cond := .code y_We_turned b_We_turned 1 (some .int) :: BW
abbrev b_Wo_init : ByteArray := prog_9_method_1_code
def y_Wo_init : MethodName := ⟨R_Wo, "<init>", "(I)V"⟩
def w_Wo_init : List Cond := .code y_Wo_init b_Wo_init 2 none :: BW
abbrev b_Wo_append : ByteArray := prog_9_method_2_code
def y_Wo_append : MethodName := ⟨R_Wo, "append", "(II)Z"⟩
def w_Wo_append : List Cond := .code y_Wo_append b_Wo_append 3 (some .boolean) :: BW
abbrev b_Wo_isNone : ByteArray := prog_9_method_3_code
def y_Wo_isNone : MethodName := ⟨R_Wo, "isNone", "(I)Z"⟩
def w_Wo_isNone : List Cond := .code y_Wo_isNone b_Wo_isNone 2 (some .boolean) :: BW
abbrev b_Wo_clear : ByteArray := prog_9_method_4_code
def y_Wo_clear : MethodName := ⟨R_Wo, "clear", "()V"⟩
def w_Wo_clear : List Cond := .code y_Wo_clear b_Wo_clear 2 none :: BW
abbrev b_Wo_startOf : ByteArray := prog_9_method_5_code
def y_Wo_startOf : MethodName := ⟨R_Wo, "startOf", "(I)I"⟩
def w_Wo_startOf : List Cond := .code y_Wo_startOf b_Wo_startOf 1 (some .int) :: BW
abbrev b_La_share : ByteArray := method_3_code
def y_La_share : MethodName := ⟨R_La, "share", "(LNearFinder;II[J)I"⟩
def T_Bk : u_T := fun k => match k with
  | 0 => ("NearFinder$Book", "words", "LNearFinder$Words;", true)
  | 1 => ("NearFinder$Book", "places", "[I", true)
  | 2 => ("NearFinder$Book", "days", "[I", true)
  | 3 => ("NearFinder$Book", "times", "[I", true)
  | 4 => ("NearFinder$Book", "dropped", "[Z", true)
  | _ => ("NearFinder$Book", "size", "I", false)
def t_Bk : Nat → FieldType := fun k => match k with
  | 0 => .object "NearFinder$Words"
  | 1 => .array .int
  | 2 => .array .int
  | 3 => .array .int
  | 4 => .array .boolean
  | _ => .int
theorem n_Bk : ∀ a, a < 6 → ∀ b, b < 6 → a ≠ b → (T_Bk a).2.1 ≠ (T_Bk b).2.1 := by decide +kernel
theorem k_Bk : ∀ k, k < 6 → parseFieldDescriptor (T_Bk k).2.2.1 = some (t_Bk k) := by decide +kernel
def T_Bc : u_T := fun k => match k with
  | 0 => ("NearFinder$ByChanges", "weights", "LNearFinder$Weights;", true)
  | _ => ("NearFinder$ByChanges", "row", "[I", true)
def t_Bc : Nat → FieldType := fun k => match k with
  | 0 => .object "NearFinder$Weights"
  | _ => .array .int
theorem n_Bc : ∀ a, a < 2 → ∀ b, b < 2 → a ≠ b → (T_Bc a).2.1 ≠ (T_Bc b).2.1 := by decide +kernel
theorem k_Bc : ∀ k, k < 2 → parseFieldDescriptor (T_Bc k).2.2.1 = some (t_Bc k) := by decide +kernel
def T_Bn : u_T := fun k => match k with
  | 0 => ("NearFinder$ByCounts", "weights", "LNearFinder$Weights;", true)
  | _ => ("NearFinder$ByCounts", "spare", "[I", true)
def t_Bn : Nat → FieldType := fun k => match k with
  | 0 => .object "NearFinder$Weights"
  | _ => .array .int
theorem n_Bn : ∀ a, a < 2 → ∀ b, b < 2 → a ≠ b → (T_Bn a).2.1 ≠ (T_Bn b).2.1 := by decide +kernel
theorem k_Bn : ∀ k, k < 2 → parseFieldDescriptor (T_Bn k).2.2.1 = some (t_Bn k) := by decide +kernel
def T_Hi : u_T := fun k => match k with
  | 0 => ("NearFinder$Hits", "entries", "[I", true)
  | 1 => ("NearFinder$Hits", "sums", "[I", true)
  | 2 => ("NearFinder$Hits", "days", "[I", true)
  | 3 => ("NearFinder$Hits", "most", "I", false)
  | 4 => ("NearFinder$Hits", "bound", "I", false)
  | _ => ("NearFinder$Hits", "size", "I", false)
def t_Hi : Nat → FieldType := fun k => match k with
  | 0 => .array .int
  | 1 => .array .int
  | 2 => .array .int
  | 3 => .int
  | 4 => .int
  | _ => .int
theorem n_Hi : ∀ a, a < 6 → ∀ b, b < 6 → a ≠ b → (T_Hi a).2.1 ≠ (T_Hi b).2.1 := by decide +kernel
theorem k_Hi : ∀ k, k < 6 → parseFieldDescriptor (T_Hi k).2.2.1 = some (t_Hi k) := by decide +kernel
def T_Pa : u_T := fun k => match k with
  | 0 => ("NearFinder$Pairing", "weights", "LNearFinder$Weights;", true)
  | 1 => ("NearFinder$Pairing", "costs", "[I", true)
  | 2 => ("NearFinder$Pairing", "wordCount", "I", false)
  | _ => ("NearFinder$Pairing", "bestWay", "I", false)
def t_Pa : Nat → FieldType := fun k => match k with
  | 0 => .object "NearFinder$Weights"
  | 1 => .array .int
  | 2 => .int
  | _ => .int
theorem n_Pa : ∀ a, a < 4 → ∀ b, b < 4 → a ≠ b → (T_Pa a).2.1 ≠ (T_Pa b).2.1 := by decide +kernel
theorem k_Pa : ∀ k, k < 4 → parseFieldDescriptor (T_Pa k).2.2.1 = some (t_Pa k) := by decide +kernel
def T_We : u_T := fun k => match k with
  | _ => ("NearFinder$Weights", "ofKind", "[I", true)
def t_We : Nat → FieldType := fun k => match k with
  | _ => .array .int
theorem n_We : ∀ a, a < 1 → ∀ b, b < 1 → a ≠ b → (T_We a).2.1 ≠ (T_We b).2.1 := by decide +kernel
theorem k_We : ∀ k, k < 1 → parseFieldDescriptor (T_We k).2.2.1 = some (t_We k) := by decide +kernel
def T_Wo : u_T := fun k => match k with
  | 0 => ("NearFinder$Words", "letters", "[I", true)
  | 1 => ("NearFinder$Words", "lengths", "[I", true)
  | _ => ("NearFinder$Words", "letterCount", "I", false)
def t_Wo : Nat → FieldType := fun k => match k with
  | 0 => .array .int
  | 1 => .array .int
  | _ => .int
theorem n_Wo : ∀ a, a < 3 → ∀ b, b < 3 → a ≠ b → (T_Wo a).2.1 ≠ (T_Wo b).2.1 := by decide +kernel
theorem k_Wo : ∀ k, k < 3 → parseFieldDescriptor (T_Wo k).2.2.1 = some (t_Wo k) := by decide +kernel
def T_Nf : u_T := fun k => match k with
  | 0 => ("NearFinder", "book", "LNearFinder$Book;", true)
  | 1 => ("NearFinder", "askedWords", "LNearFinder$Words;", true)
  | 2 => ("NearFinder", "weights", "LNearFinder$Weights;", true)
  | 3 => ("NearFinder", "byChanges", "LNearFinder$Measure;", true)
  | 4 => ("NearFinder", "byCounts", "LNearFinder$Measure;", true)
  | 5 => ("NearFinder", "pairing", "LNearFinder$Pairing;", true)
  | 6 => ("NearFinder", "hits", "LNearFinder$Hits;", true)
  | 7 => ("NearFinder", "askedPlace", "I", false)
  | _ => ("NearFinder", "sumsWorked", "I", false)
def t_Nf : Nat → FieldType := fun k => match k with
  | 0 => .object "NearFinder$Book"
  | 1 => .object "NearFinder$Words"
  | 2 => .object "NearFinder$Weights"
  | 3 => .object "NearFinder$Measure"
  | 4 => .object "NearFinder$Measure"
  | 5 => .object "NearFinder$Pairing"
  | 6 => .object "NearFinder$Hits"
  | 7 => .int
  | _ => .int
theorem n_Nf : ∀ a, a < 9 → ∀ b, b < 9 → a ≠ b → (T_Nf a).2.1 ≠ (T_Nf b).2.1 := by decide +kernel
theorem k_Nf : ∀ k, k < 9 → parseFieldDescriptor (T_Nf k).2.2.1 = some (t_Nf k) := by decide +kernel
def T_Mo : u_T := fun k => match k with
  | 0 => ("NearFinderModel", "thrown", "I", false)
  | 1 => ("NearFinderModel", "entries", "I", false)
  | 2 => ("NearFinderModel", "places", "[I", true)
  | 3 => ("NearFinderModel", "days", "[I", true)
  | 4 => ("NearFinderModel", "times", "[I", true)
  | 5 => ("NearFinderModel", "dropped", "[Z", true)
  | 6 => ("NearFinderModel", "lengths", "[I", true)
  | 7 => ("NearFinderModel", "letters", "[I", true)
  | 8 => ("NearFinderModel", "place", "I", false)
  | 9 => ("NearFinderModel", "weights", "[I", true)
  | 10 => ("NearFinderModel", "found", "I", false)
  | 11 => ("NearFinderModel", "foundEntries", "[I", true)
  | 12 => ("NearFinderModel", "foundSums", "[I", true)
  | 13 => ("NearFinderModel", "worked", "I", false)
  | 14 => ("NearFinderModel", "steps", "[I", true)
  | 15 => ("NearFinderModel", "costs", "[I", true)
  | _ => ("NearFinderModel", "way", "[I", true)
def t_Mo : Nat → FieldType := fun k => match k with
  | 0 => .int
  | 1 => .int
  | 2 => .array .int
  | 3 => .array .int
  | 4 => .array .int
  | 5 => .array .boolean
  | 6 => .array .int
  | 7 => .array .int
  | 8 => .int
  | 9 => .array .int
  | 10 => .int
  | 11 => .array .int
  | 12 => .array .int
  | 13 => .int
  | 14 => .array .int
  | 15 => .array .int
  | _ => .array .int
theorem n_Mo : ∀ a, a < 17 → ∀ b, b < 17 → a ≠ b → (T_Mo a).2.1 ≠ (T_Mo b).2.1 := by decide +kernel
theorem k_Mo : ∀ k, k < 17 → parseFieldDescriptor (T_Mo k).2.2.1 = some (t_Mo k) := by decide +kernel
abbrev classes : List vw_C := [(R_Bk, T_Bk, 6), (R_Bc, T_Bc, 2), (R_Bn, T_Bn, 2), (R_Hi, T_Hi, 6), (R_Pa, T_Pa, 4), (R_We, T_We, 1), (R_Wo, T_Wo, 3), (R_Nf, T_Nf, 9), (R_Mo, T_Mo, 17)]
end
section
/-! each word of the tables that a walk may use is in BW -/
theorem mw_0 : (.selects "NearFinder" y_Nf_look y_Nf_look : Cond) ∈ BW := mw_of 0 (by decide +kernel) rfl
theorem mw_1 : (.selects "NearFinder" y_Nf_isLookedFor y_Nf_isLookedFor : Cond) ∈ BW := mw_of 1 (by decide +kernel) rfl
theorem mw_2 : (.selects "NearFinder" y_Nf_leastOfWays y_Nf_leastOfWays : Cond) ∈ BW := mw_of 2 (by decide +kernel) rfl
theorem mw_3 : (.selects "NearFinder" y_Nf_costOfPair y_Nf_costOfPair : Cond) ∈ BW := mw_of 3 (by decide +kernel) rfl
theorem mw_4 : (.selects "NearFinder$ByChanges" y_Bc_nextRow y_Bc_nextRow : Cond) ∈ BW := mw_of 4 (by decide +kernel) rfl
theorem mw_5 : (.selects "NearFinder$ByCounts" y_Bn_sharedLetters y_Bn_sharedLetters : Cond) ∈ BW := mw_of 5 (by decide +kernel) rfl
theorem mw_6 : (.selects "NearFinder$Pairing" y_Pa_totalOf y_Pa_totalOf : Cond) ∈ BW := mw_of 6 (by decide +kernel) rfl
theorem mw_7 : (.selects "NearFinder$Hits" y_Hi_isNearer y_Hi_isNearer : Cond) ∈ BW := mw_of 7 (by decide +kernel) rfl
theorem mw_8 : (.selects "NearFinder$Hits" y_Hi_copy y_Hi_copy : Cond) ∈ BW := mw_of 8 (by decide +kernel) rfl
theorem mw_9 : (.selects "java/lang/Throwable" ⟨"java/lang/Throwable", "fillInStackTrace", "(I)Ljava/lang/Throwable;"⟩ ⟨"java/lang/Throwable", "fillInStackTrace", "(I)Ljava/lang/Throwable;"⟩ : Cond) ∈ BW := mw_of 9 (by decide +kernel) rfl
theorem mw_10 : (.selects "NearFinderModel" y_Mo_isEntry y_Mo_isEntry : Cond) ∈ BW := mw_of 10 (by decide +kernel) rfl
theorem mw_11 : (.selects "NearFinderModel" y_Mo_add y_Mo_add : Cond) ∈ BW := mw_of 11 (by decide +kernel) rfl
theorem mw_12 : (.selects "NearFinderModel" y_Mo_look y_Mo_look : Cond) ∈ BW := mw_of 12 (by decide +kernel) rfl
theorem mw_13 : (.selects "NearFinderModel" y_Mo_words y_Mo_words : Cond) ∈ BW := mw_of 13 (by decide +kernel) rfl
theorem mw_14 : (.selects "NearFinderModel" y_Mo_isAsked y_Mo_isAsked : Cond) ∈ BW := mw_of 14 (by decide +kernel) rfl
theorem mw_15 : (.selects "NearFinderModel" y_Mo_sumBy y_Mo_sumBy : Cond) ∈ BW := mw_of 15 (by decide +kernel) rfl
theorem mw_16 : (.selects "NearFinderModel" y_Mo_counted y_Mo_counted : Cond) ∈ BW := mw_of 16 (by decide +kernel) rfl
theorem mw_17 : (.selects "NearFinderModel" y_Mo_beyond y_Mo_beyond : Cond) ∈ BW := mw_of 17 (by decide +kernel) rfl
theorem mw_18 : (.selects "NearFinderModel" y_Mo_change y_Mo_change : Cond) ∈ BW := mw_of 18 (by decide +kernel) rfl
theorem mw_19 : (.selects "NearFinderModel" y_Mo_exchange y_Mo_exchange : Cond) ∈ BW := mw_of 19 (by decide +kernel) rfl
theorem mw_20 : (.selects "NearFinderModel" y_Mo_may y_Mo_may : Cond) ∈ BW := mw_of 20 (by decide +kernel) rfl
theorem mw_21 : (.selects "NearFinderModel" y_Mo_cost y_Mo_cost : Cond) ∈ BW := mw_of 21 (by decide +kernel) rfl
theorem mw_22 : (.selects "NearFinderModel" y_Mo_come y_Mo_come : Cond) ∈ BW := mw_of 22 (by decide +kernel) rfl
theorem mw_23 : (.selects "NearFinderModel" y_Mo_isBefore y_Mo_isBefore : Cond) ∈ BW := mw_of 23 (by decide +kernel) rfl
theorem mw_24 : (.initialized "NearFinderLaw" : Cond) ∈ BW := mw_of 24 (by decide +kernel) rfl
theorem mw_25 : (.initialized "NearFinder" : Cond) ∈ BW := mw_of 25 (by decide +kernel) rfl
theorem mw_26 : (.initialized "NearFinder$Book" : Cond) ∈ BW := mw_of 26 (by decide +kernel) rfl
theorem mw_27 : (.initialized "NearFinder$Words" : Cond) ∈ BW := mw_of 27 (by decide +kernel) rfl
theorem mw_28 : (.initialized "NearFinder$Weights" : Cond) ∈ BW := mw_of 28 (by decide +kernel) rfl
theorem mw_29 : (.initialized "NearFinder$ByChanges" : Cond) ∈ BW := mw_of 29 (by decide +kernel) rfl
theorem mw_30 : (.initialized "NearFinder$ByCounts" : Cond) ∈ BW := mw_of 30 (by decide +kernel) rfl
theorem mw_31 : (.initialized "NearFinder$Pairing" : Cond) ∈ BW := mw_of 31 (by decide +kernel) rfl
theorem mw_32 : (.initialized "NearFinder$Hits" : Cond) ∈ BW := mw_of 32 (by decide +kernel) rfl
theorem mw_33 : (.initialized "NearFinderModel" : Cond) ∈ BW := mw_of 33 (by decide +kernel) rfl
theorem mw_34 : (.initialized "java/lang/Math" : Cond) ∈ BW := mw_of 34 (by decide +kernel) rfl
theorem mw_35 : (.initialized "java/lang/Throwable" : Cond) ∈ BW := mw_of 35 (by decide +kernel) rfl
theorem mw_36 : (.initialized "java/lang/Exception" : Cond) ∈ BW := mw_of 36 (by decide +kernel) rfl
theorem mw_37 : (.initialized "java/lang/RuntimeException" : Cond) ∈ BW := mw_of 37 (by decide +kernel) rfl
theorem mw_38 : (.initialized "java/lang/ArithmeticException" : Cond) ∈ BW := mw_of 38 (by decide +kernel) rfl
theorem mw_39 : (.classLink "NearFinderLaw" 8 "NearFinder" : Cond) ∈ BW := mw_of 39 (by decide +kernel) rfl
theorem mw_40 : (.instantiable "NearFinder" 9 : Cond) ∈ BW := mw_of 40 (by decide +kernel) rfl
theorem mw_41 : (.methodLink "NearFinderLaw" 15 y_Nf_init : Cond) ∈ BW := mw_of 41 (by decide +kernel) rfl
theorem mw_42 : (.instanceMethod y_Nf_init : Cond) ∈ BW := mw_of 42 (by decide +kernel) rfl
theorem mw_43 : (.code y_Nf_init prog_1_method_1_code 1 none : Cond) ∈ BW := mw_of 43 (by decide +kernel) rfl
theorem mw_44 : (.methodLink "NearFinder" 1 objectInit : Cond) ∈ BW := mw_of 44 (by decide +kernel) rfl
theorem mw_45 : (.instanceMethod objectInit : Cond) ∈ BW := mw_of 45 (by decide +kernel) rfl
theorem mw_46 : (.code objectInit object_method_1_code 1 none : Cond) ∈ BW := mw_of 46 (by decide +kernel) rfl
theorem mw_47 : (.classLink "NearFinder" 7 "NearFinder$Book" : Cond) ∈ BW := mw_of 47 (by decide +kernel) rfl
theorem mw_48 : (.instantiable "NearFinder$Book" 6 : Cond) ∈ BW := mw_of 48 (by decide +kernel) rfl
theorem mw_49 : (.methodLink "NearFinder" 9 y_Bk_init : Cond) ∈ BW := mw_of 49 (by decide +kernel) rfl
theorem mw_50 : (.instanceMethod y_Bk_init : Cond) ∈ BW := mw_of 50 (by decide +kernel) rfl
theorem mw_51 : (.code y_Bk_init prog_2_method_1_code 1 none : Cond) ∈ BW := mw_of 51 (by decide +kernel) rfl
theorem mw_52 : (.methodLink "NearFinder$Book" 3 objectInit : Cond) ∈ BW := mw_of 52 (by decide +kernel) rfl
theorem mw_53 : (.classLink "NearFinder$Book" 9 "NearFinder$Words" : Cond) ∈ BW := mw_of 53 (by decide +kernel) rfl
theorem mw_54 : (.instantiable "NearFinder$Words" 3 : Cond) ∈ BW := mw_of 54 (by decide +kernel) rfl
theorem mw_55 : (.methodLink "NearFinder$Book" 11 y_Wo_init : Cond) ∈ BW := mw_of 55 (by decide +kernel) rfl
theorem mw_56 : (.instanceMethod y_Wo_init : Cond) ∈ BW := mw_of 56 (by decide +kernel) rfl
theorem mw_57 : (.code y_Wo_init prog_9_method_1_code 2 none : Cond) ∈ BW := mw_of 57 (by decide +kernel) rfl
theorem mw_58 : (.methodLink "NearFinder$Words" 3 objectInit : Cond) ∈ BW := mw_of 58 (by decide +kernel) rfl
theorem mw_59 : (.fieldLink "NearFinder$Words" 9 "NearFinder$Words" "letters" "[I" : Cond) ∈ BW := mw_of 59 (by decide +kernel) rfl
theorem mw_60 : (.fieldLink "NearFinder$ByChanges" 34 "NearFinder$Words" "letters" "[I" : Cond) ∈ BW := mw_of 60 (by decide +kernel) rfl
theorem mw_61 : (.fieldLink "NearFinder$ByCounts" 53 "NearFinder$Words" "letters" "[I" : Cond) ∈ BW := mw_of 61 (by decide +kernel) rfl
theorem mw_62 : (.fieldLink "NearFinder$Words" 15 "NearFinder$Words" "lengths" "[I" : Cond) ∈ BW := mw_of 62 (by decide +kernel) rfl
theorem mw_63 : (.fieldLink "NearFinder$ByChanges" 19 "NearFinder$Words" "lengths" "[I" : Cond) ∈ BW := mw_of 63 (by decide +kernel) rfl
theorem mw_64 : (.fieldLink "NearFinder$ByCounts" 29 "NearFinder$Words" "lengths" "[I" : Cond) ∈ BW := mw_of 64 (by decide +kernel) rfl
theorem mw_65 : (.fieldLink "NearFinder$Words" 18 "NearFinder$Words" "letterCount" "I" : Cond) ∈ BW := mw_of 65 (by decide +kernel) rfl
theorem mw_66 : (.fieldLink "NearFinder" 163 "NearFinder$Words" "letterCount" "I" : Cond) ∈ BW := mw_of 66 (by decide +kernel) rfl
theorem mw_67 : (.laysFinal "NearFinder$Words" "NearFinder$Words" "letters" "[I" : Cond) ∈ BW := mw_of 67 (by decide +kernel) rfl
theorem mw_69 : (.laysFinal "NearFinder$Words" "NearFinder$Words" "lengths" "[I" : Cond) ∈ BW := mw_of 69 (by decide +kernel) rfl
theorem mw_71 : (.lays "NearFinder$Words" "NearFinder$Words" "letterCount" "I" : Cond) ∈ BW := mw_of 71 (by decide +kernel) rfl
theorem mw_74 : (.arrayClass .int : Cond) ∈ BW := mw_of 74 (by decide +kernel) rfl
theorem mw_75 : (.fieldLink "NearFinder$Book" 14 "NearFinder$Book" "words" "LNearFinder$Words;" : Cond) ∈ BW := mw_of 75 (by decide +kernel) rfl
theorem mw_76 : (.fieldLink "NearFinder" 89 "NearFinder$Book" "words" "LNearFinder$Words;" : Cond) ∈ BW := mw_of 76 (by decide +kernel) rfl
theorem mw_77 : (.fieldLink "NearFinder$Book" 20 "NearFinder$Book" "places" "[I" : Cond) ∈ BW := mw_of 77 (by decide +kernel) rfl
theorem mw_78 : (.fieldLink "NearFinder" 188 "NearFinder$Book" "places" "[I" : Cond) ∈ BW := mw_of 78 (by decide +kernel) rfl
theorem mw_79 : (.fieldLink "NearFinder$Book" 24 "NearFinder$Book" "days" "[I" : Cond) ∈ BW := mw_of 79 (by decide +kernel) rfl
theorem mw_80 : (.fieldLink "NearFinder" 181 "NearFinder$Book" "days" "[I" : Cond) ∈ BW := mw_of 80 (by decide +kernel) rfl
theorem mw_81 : (.fieldLink "NearFinder$Book" 27 "NearFinder$Book" "times" "[I" : Cond) ∈ BW := mw_of 81 (by decide +kernel) rfl
theorem mw_82 : (.fieldLink "NearFinder$Book" 30 "NearFinder$Book" "dropped" "[Z" : Cond) ∈ BW := mw_of 82 (by decide +kernel) rfl
theorem mw_83 : (.fieldLink "NearFinder" 147 "NearFinder$Book" "dropped" "[Z" : Cond) ∈ BW := mw_of 83 (by decide +kernel) rfl
theorem mw_84 : (.fieldLink "NearFinder$Book" 34 "NearFinder$Book" "size" "I" : Cond) ∈ BW := mw_of 84 (by decide +kernel) rfl
theorem mw_85 : (.fieldLink "NearFinder" 160 "NearFinder$Book" "size" "I" : Cond) ∈ BW := mw_of 85 (by decide +kernel) rfl
theorem mw_86 : (.laysFinal "NearFinder$Book" "NearFinder$Book" "words" "LNearFinder$Words;" : Cond) ∈ BW := mw_of 86 (by decide +kernel) rfl
theorem mw_88 : (.laysFinal "NearFinder$Book" "NearFinder$Book" "places" "[I" : Cond) ∈ BW := mw_of 88 (by decide +kernel) rfl
theorem mw_90 : (.laysFinal "NearFinder$Book" "NearFinder$Book" "days" "[I" : Cond) ∈ BW := mw_of 90 (by decide +kernel) rfl
theorem mw_92 : (.laysFinal "NearFinder$Book" "NearFinder$Book" "times" "[I" : Cond) ∈ BW := mw_of 92 (by decide +kernel) rfl
theorem mw_94 : (.laysFinal "NearFinder$Book" "NearFinder$Book" "dropped" "[Z" : Cond) ∈ BW := mw_of 94 (by decide +kernel) rfl
theorem mw_96 : (.lays "NearFinder$Book" "NearFinder$Book" "size" "I" : Cond) ∈ BW := mw_of 96 (by decide +kernel) rfl
theorem mw_99 : (.arrayClass .boolean : Cond) ∈ BW := mw_of 99 (by decide +kernel) rfl
theorem mw_100 : (.classLink "NearFinder" 16 "NearFinder$Words" : Cond) ∈ BW := mw_of 100 (by decide +kernel) rfl
theorem mw_101 : (.methodLink "NearFinder" 18 y_Wo_init : Cond) ∈ BW := mw_of 101 (by decide +kernel) rfl
theorem mw_102 : (.classLink "NearFinder" 25 "NearFinder$Weights" : Cond) ∈ BW := mw_of 102 (by decide +kernel) rfl
theorem mw_103 : (.instantiable "NearFinder$Weights" 1 : Cond) ∈ BW := mw_of 103 (by decide +kernel) rfl
theorem mw_104 : (.methodLink "NearFinder" 27 y_We_init : Cond) ∈ BW := mw_of 104 (by decide +kernel) rfl
theorem mw_105 : (.instanceMethod y_We_init : Cond) ∈ BW := mw_of 105 (by decide +kernel) rfl
theorem mw_106 : (.code y_We_init prog_8_method_1_code 1 none : Cond) ∈ BW := mw_of 106 (by decide +kernel) rfl
theorem mw_107 : (.methodLink "NearFinder$Weights" 1 objectInit : Cond) ∈ BW := mw_of 107 (by decide +kernel) rfl
theorem mw_108 : (.fieldLink "NearFinder$Weights" 7 "NearFinder$Weights" "ofKind" "[I" : Cond) ∈ BW := mw_of 108 (by decide +kernel) rfl
theorem mw_109 : (.laysFinal "NearFinder$Weights" "NearFinder$Weights" "ofKind" "[I" : Cond) ∈ BW := mw_of 109 (by decide +kernel) rfl
theorem mw_112 : (.classLink "NearFinder" 32 "NearFinder$ByChanges" : Cond) ∈ BW := mw_of 112 (by decide +kernel) rfl
theorem mw_113 : (.instantiable "NearFinder$ByChanges" 2 : Cond) ∈ BW := mw_of 113 (by decide +kernel) rfl
theorem mw_114 : (.methodLink "NearFinder" 34 y_Bc_init : Cond) ∈ BW := mw_of 114 (by decide +kernel) rfl
theorem mw_115 : (.instanceMethod y_Bc_init : Cond) ∈ BW := mw_of 115 (by decide +kernel) rfl
theorem mw_116 : (.code y_Bc_init prog_3_method_1_code 2 none : Cond) ∈ BW := mw_of 116 (by decide +kernel) rfl
theorem mw_117 : (.methodLink "NearFinder$ByChanges" 3 objectInit : Cond) ∈ BW := mw_of 117 (by decide +kernel) rfl
theorem mw_118 : (.fieldLink "NearFinder$ByChanges" 9 "NearFinder$ByChanges" "weights" "LNearFinder$Weights;" : Cond) ∈ BW := mw_of 118 (by decide +kernel) rfl
theorem mw_119 : (.fieldLink "NearFinder$ByChanges" 15 "NearFinder$ByChanges" "row" "[I" : Cond) ∈ BW := mw_of 119 (by decide +kernel) rfl
theorem mw_120 : (.laysFinal "NearFinder$ByChanges" "NearFinder$ByChanges" "weights" "LNearFinder$Weights;" : Cond) ∈ BW := mw_of 120 (by decide +kernel) rfl
theorem mw_122 : (.laysFinal "NearFinder$ByChanges" "NearFinder$ByChanges" "row" "[I" : Cond) ∈ BW := mw_of 122 (by decide +kernel) rfl
theorem mw_125 : (.classLink "NearFinder" 41 "NearFinder$ByCounts" : Cond) ∈ BW := mw_of 125 (by decide +kernel) rfl
theorem mw_126 : (.instantiable "NearFinder$ByCounts" 2 : Cond) ∈ BW := mw_of 126 (by decide +kernel) rfl
theorem mw_127 : (.methodLink "NearFinder" 43 y_Bn_init : Cond) ∈ BW := mw_of 127 (by decide +kernel) rfl
theorem mw_128 : (.instanceMethod y_Bn_init : Cond) ∈ BW := mw_of 128 (by decide +kernel) rfl
theorem mw_129 : (.code y_Bn_init prog_4_method_1_code 2 none : Cond) ∈ BW := mw_of 129 (by decide +kernel) rfl
theorem mw_130 : (.methodLink "NearFinder$ByCounts" 3 objectInit : Cond) ∈ BW := mw_of 130 (by decide +kernel) rfl
theorem mw_131 : (.fieldLink "NearFinder$ByCounts" 9 "NearFinder$ByCounts" "weights" "LNearFinder$Weights;" : Cond) ∈ BW := mw_of 131 (by decide +kernel) rfl
theorem mw_132 : (.fieldLink "NearFinder$ByCounts" 15 "NearFinder$ByCounts" "spare" "[I" : Cond) ∈ BW := mw_of 132 (by decide +kernel) rfl
theorem mw_133 : (.laysFinal "NearFinder$ByCounts" "NearFinder$ByCounts" "weights" "LNearFinder$Weights;" : Cond) ∈ BW := mw_of 133 (by decide +kernel) rfl
theorem mw_135 : (.laysFinal "NearFinder$ByCounts" "NearFinder$ByCounts" "spare" "[I" : Cond) ∈ BW := mw_of 135 (by decide +kernel) rfl
theorem mw_138 : (.classLink "NearFinder" 47 "NearFinder$Pairing" : Cond) ∈ BW := mw_of 138 (by decide +kernel) rfl
theorem mw_139 : (.instantiable "NearFinder$Pairing" 4 : Cond) ∈ BW := mw_of 139 (by decide +kernel) rfl
theorem mw_140 : (.methodLink "NearFinder" 49 y_Pa_init : Cond) ∈ BW := mw_of 140 (by decide +kernel) rfl
theorem mw_141 : (.instanceMethod y_Pa_init : Cond) ∈ BW := mw_of 141 (by decide +kernel) rfl
theorem mw_142 : (.code y_Pa_init prog_7_method_1_code 2 none : Cond) ∈ BW := mw_of 142 (by decide +kernel) rfl
theorem mw_143 : (.methodLink "NearFinder$Pairing" 3 objectInit : Cond) ∈ BW := mw_of 143 (by decide +kernel) rfl
theorem mw_144 : (.fieldLink "NearFinder$Pairing" 9 "NearFinder$Pairing" "weights" "LNearFinder$Weights;" : Cond) ∈ BW := mw_of 144 (by decide +kernel) rfl
theorem mw_145 : (.fieldLink "NearFinder$Pairing" 15 "NearFinder$Pairing" "costs" "[I" : Cond) ∈ BW := mw_of 145 (by decide +kernel) rfl
theorem mw_146 : (.fieldLink "NearFinder$Pairing" 19 "NearFinder$Pairing" "wordCount" "I" : Cond) ∈ BW := mw_of 146 (by decide +kernel) rfl
theorem mw_147 : (.fieldLink "NearFinder$Pairing" 23 "NearFinder$Pairing" "bestWay" "I" : Cond) ∈ BW := mw_of 147 (by decide +kernel) rfl
theorem mw_148 : (.fieldLink "NearFinder" 128 "NearFinder$Pairing" "bestWay" "I" : Cond) ∈ BW := mw_of 148 (by decide +kernel) rfl
theorem mw_149 : (.laysFinal "NearFinder$Pairing" "NearFinder$Pairing" "weights" "LNearFinder$Weights;" : Cond) ∈ BW := mw_of 149 (by decide +kernel) rfl
theorem mw_151 : (.laysFinal "NearFinder$Pairing" "NearFinder$Pairing" "costs" "[I" : Cond) ∈ BW := mw_of 151 (by decide +kernel) rfl
theorem mw_153 : (.lays "NearFinder$Pairing" "NearFinder$Pairing" "wordCount" "I" : Cond) ∈ BW := mw_of 153 (by decide +kernel) rfl
theorem mw_155 : (.lays "NearFinder$Pairing" "NearFinder$Pairing" "bestWay" "I" : Cond) ∈ BW := mw_of 155 (by decide +kernel) rfl
theorem mw_158 : (.classLink "NearFinder" 54 "NearFinder$Hits" : Cond) ∈ BW := mw_of 158 (by decide +kernel) rfl
theorem mw_159 : (.instantiable "NearFinder$Hits" 6 : Cond) ∈ BW := mw_of 159 (by decide +kernel) rfl
theorem mw_160 : (.methodLink "NearFinder" 56 y_Hi_init : Cond) ∈ BW := mw_of 160 (by decide +kernel) rfl
theorem mw_161 : (.instanceMethod y_Hi_init : Cond) ∈ BW := mw_of 161 (by decide +kernel) rfl
theorem mw_162 : (.code y_Hi_init prog_5_method_1_code 1 none : Cond) ∈ BW := mw_of 162 (by decide +kernel) rfl
theorem mw_163 : (.methodLink "NearFinder$Hits" 3 objectInit : Cond) ∈ BW := mw_of 163 (by decide +kernel) rfl
theorem mw_164 : (.fieldLink "NearFinder$Hits" 9 "NearFinder$Hits" "entries" "[I" : Cond) ∈ BW := mw_of 164 (by decide +kernel) rfl
theorem mw_165 : (.fieldLink "NearFinder" 117 "NearFinder$Hits" "entries" "[I" : Cond) ∈ BW := mw_of 165 (by decide +kernel) rfl
theorem mw_166 : (.fieldLink "NearFinder$Hits" 15 "NearFinder$Hits" "sums" "[I" : Cond) ∈ BW := mw_of 166 (by decide +kernel) rfl
theorem mw_167 : (.fieldLink "NearFinder" 121 "NearFinder$Hits" "sums" "[I" : Cond) ∈ BW := mw_of 167 (by decide +kernel) rfl
theorem mw_168 : (.fieldLink "NearFinder$Hits" 18 "NearFinder$Hits" "days" "[I" : Cond) ∈ BW := mw_of 168 (by decide +kernel) rfl
theorem mw_169 : (.fieldLink "NearFinder$Hits" 21 "NearFinder$Hits" "most" "I" : Cond) ∈ BW := mw_of 169 (by decide +kernel) rfl
theorem mw_170 : (.fieldLink "NearFinder$Hits" 25 "NearFinder$Hits" "bound" "I" : Cond) ∈ BW := mw_of 170 (by decide +kernel) rfl
theorem mw_171 : (.fieldLink "NearFinder$Hits" 28 "NearFinder$Hits" "size" "I" : Cond) ∈ BW := mw_of 171 (by decide +kernel) rfl
theorem mw_172 : (.fieldLink "NearFinder" 166 "NearFinder$Hits" "size" "I" : Cond) ∈ BW := mw_of 172 (by decide +kernel) rfl
theorem mw_173 : (.laysFinal "NearFinder$Hits" "NearFinder$Hits" "entries" "[I" : Cond) ∈ BW := mw_of 173 (by decide +kernel) rfl
theorem mw_175 : (.laysFinal "NearFinder$Hits" "NearFinder$Hits" "sums" "[I" : Cond) ∈ BW := mw_of 175 (by decide +kernel) rfl
theorem mw_177 : (.laysFinal "NearFinder$Hits" "NearFinder$Hits" "days" "[I" : Cond) ∈ BW := mw_of 177 (by decide +kernel) rfl
theorem mw_179 : (.lays "NearFinder$Hits" "NearFinder$Hits" "most" "I" : Cond) ∈ BW := mw_of 179 (by decide +kernel) rfl
theorem mw_181 : (.lays "NearFinder$Hits" "NearFinder$Hits" "bound" "I" : Cond) ∈ BW := mw_of 181 (by decide +kernel) rfl
theorem mw_183 : (.lays "NearFinder$Hits" "NearFinder$Hits" "size" "I" : Cond) ∈ BW := mw_of 183 (by decide +kernel) rfl
theorem mw_186 : (.fieldLink "NearFinder" 10 "NearFinder" "book" "LNearFinder$Book;" : Cond) ∈ BW := mw_of 186 (by decide +kernel) rfl
theorem mw_187 : (.fieldLink "NearFinder" 21 "NearFinder" "askedWords" "LNearFinder$Words;" : Cond) ∈ BW := mw_of 187 (by decide +kernel) rfl
theorem mw_188 : (.fieldLink "NearFinder" 28 "NearFinder" "weights" "LNearFinder$Weights;" : Cond) ∈ BW := mw_of 188 (by decide +kernel) rfl
theorem mw_189 : (.fieldLink "NearFinder" 37 "NearFinder" "byChanges" "LNearFinder$Measure;" : Cond) ∈ BW := mw_of 189 (by decide +kernel) rfl
theorem mw_190 : (.fieldLink "NearFinder" 44 "NearFinder" "byCounts" "LNearFinder$Measure;" : Cond) ∈ BW := mw_of 190 (by decide +kernel) rfl
theorem mw_191 : (.fieldLink "NearFinder" 50 "NearFinder" "pairing" "LNearFinder$Pairing;" : Cond) ∈ BW := mw_of 191 (by decide +kernel) rfl
theorem mw_192 : (.fieldLink "NearFinder" 57 "NearFinder" "hits" "LNearFinder$Hits;" : Cond) ∈ BW := mw_of 192 (by decide +kernel) rfl
theorem mw_193 : (.fieldLink "NearFinder" 61 "NearFinder" "askedPlace" "I" : Cond) ∈ BW := mw_of 193 (by decide +kernel) rfl
theorem mw_194 : (.fieldLink "NearFinder" 65 "NearFinder" "sumsWorked" "I" : Cond) ∈ BW := mw_of 194 (by decide +kernel) rfl
theorem mw_195 : (.laysFinal "NearFinder" "NearFinder" "book" "LNearFinder$Book;" : Cond) ∈ BW := mw_of 195 (by decide +kernel) rfl
theorem mw_197 : (.laysFinal "NearFinder" "NearFinder" "askedWords" "LNearFinder$Words;" : Cond) ∈ BW := mw_of 197 (by decide +kernel) rfl
theorem mw_199 : (.laysFinal "NearFinder" "NearFinder" "weights" "LNearFinder$Weights;" : Cond) ∈ BW := mw_of 199 (by decide +kernel) rfl
theorem mw_201 : (.laysFinal "NearFinder" "NearFinder" "byChanges" "LNearFinder$Measure;" : Cond) ∈ BW := mw_of 201 (by decide +kernel) rfl
theorem mw_203 : (.laysFinal "NearFinder" "NearFinder" "byCounts" "LNearFinder$Measure;" : Cond) ∈ BW := mw_of 203 (by decide +kernel) rfl
theorem mw_205 : (.laysFinal "NearFinder" "NearFinder" "pairing" "LNearFinder$Pairing;" : Cond) ∈ BW := mw_of 205 (by decide +kernel) rfl
theorem mw_207 : (.laysFinal "NearFinder" "NearFinder" "hits" "LNearFinder$Hits;" : Cond) ∈ BW := mw_of 207 (by decide +kernel) rfl
theorem mw_209 : (.lays "NearFinder" "NearFinder" "askedPlace" "I" : Cond) ∈ BW := mw_of 209 (by decide +kernel) rfl
theorem mw_211 : (.lays "NearFinder" "NearFinder" "sumsWorked" "I" : Cond) ∈ BW := mw_of 211 (by decide +kernel) rfl
theorem mw_214 : (.methodLink "NearFinderLaw" 19 y_Nf_entry : Cond) ∈ BW := mw_of 214 (by decide +kernel) rfl
theorem mw_215 : (.instanceMethod y_Nf_entry : Cond) ∈ BW := mw_of 215 (by decide +kernel) rfl
theorem mw_216 : (.selects "NearFinder" y_Nf_entry y_Nf_entry : Cond) ∈ BW := mw_of 216 (by decide +kernel) rfl
theorem mw_217 : (.code y_Nf_entry prog_1_method_2_code 2 (some .int) : Cond) ∈ BW := mw_of 217 (by decide +kernel) rfl
theorem mw_218 : (.methodLink "NearFinder" 68 y_Nf_isPlace : Cond) ∈ BW := mw_of 218 (by decide +kernel) rfl
theorem mw_219 : (.static y_Nf_isPlace : Cond) ∈ BW := mw_of 219 (by decide +kernel) rfl
theorem mw_220 : (.code y_Nf_isPlace prog_1_method_19_code 1 (some .boolean) : Cond) ∈ BW := mw_of 220 (by decide +kernel) rfl
theorem mw_221 : (.methodLink "NearFinder" 72 y_Bk_isFull : Cond) ∈ BW := mw_of 221 (by decide +kernel) rfl
theorem mw_222 : (.instanceMethod y_Bk_isFull : Cond) ∈ BW := mw_of 222 (by decide +kernel) rfl
theorem mw_223 : (.selects "NearFinder$Book" y_Bk_isFull y_Bk_isFull : Cond) ∈ BW := mw_of 223 (by decide +kernel) rfl
theorem mw_224 : (.code y_Bk_isFull prog_2_method_4_code 1 (some .boolean) : Cond) ∈ BW := mw_of 224 (by decide +kernel) rfl
theorem mw_225 : (.methodLink "NearFinder" 76 y_Bk_addEntry : Cond) ∈ BW := mw_of 225 (by decide +kernel) rfl
theorem mw_226 : (.instanceMethod y_Bk_addEntry : Cond) ∈ BW := mw_of 226 (by decide +kernel) rfl
theorem mw_227 : (.selects "NearFinder$Book" y_Bk_addEntry y_Bk_addEntry : Cond) ∈ BW := mw_of 227 (by decide +kernel) rfl
theorem mw_228 : (.code y_Bk_addEntry prog_2_method_5_code 3 (some .int) : Cond) ∈ BW := mw_of 228 (by decide +kernel) rfl
theorem mw_229 : (.methodLink "NearFinderLaw" 24 y_Nf_letter : Cond) ∈ BW := mw_of 229 (by decide +kernel) rfl
theorem mw_230 : (.instanceMethod y_Nf_letter : Cond) ∈ BW := mw_of 230 (by decide +kernel) rfl
theorem mw_231 : (.selects "NearFinder" y_Nf_letter y_Nf_letter : Cond) ∈ BW := mw_of 231 (by decide +kernel) rfl
theorem mw_232 : (.code y_Nf_letter prog_1_method_3_code 4 (some .boolean) : Cond) ∈ BW := mw_of 232 (by decide +kernel) rfl
theorem mw_233 : (.methodLink "NearFinder" 80 y_Bk_has : Cond) ∈ BW := mw_of 233 (by decide +kernel) rfl
theorem mw_234 : (.instanceMethod y_Bk_has : Cond) ∈ BW := mw_of 234 (by decide +kernel) rfl
theorem mw_235 : (.selects "NearFinder$Book" y_Bk_has y_Bk_has : Cond) ∈ BW := mw_of 235 (by decide +kernel) rfl
theorem mw_236 : (.code y_Bk_has prog_2_method_3_code 2 (some .boolean) : Cond) ∈ BW := mw_of 236 (by decide +kernel) rfl
theorem mw_237 : (.methodLink "NearFinder" 83 y_Nf_isWord : Cond) ∈ BW := mw_of 237 (by decide +kernel) rfl
theorem mw_238 : (.static y_Nf_isWord : Cond) ∈ BW := mw_of 238 (by decide +kernel) rfl
theorem mw_239 : (.code y_Nf_isWord prog_1_method_20_code 1 (some .boolean) : Cond) ∈ BW := mw_of 239 (by decide +kernel) rfl
theorem mw_240 : (.methodLink "NearFinder" 86 y_Nf_isLetter : Cond) ∈ BW := mw_of 240 (by decide +kernel) rfl
theorem mw_241 : (.static y_Nf_isLetter : Cond) ∈ BW := mw_of 241 (by decide +kernel) rfl
theorem mw_242 : (.code y_Nf_isLetter prog_1_method_21_code 1 (some .boolean) : Cond) ∈ BW := mw_of 242 (by decide +kernel) rfl
theorem mw_243 : (.methodLink "NearFinder" 92 y_Bk_wordAt : Cond) ∈ BW := mw_of 243 (by decide +kernel) rfl
theorem mw_244 : (.static y_Bk_wordAt : Cond) ∈ BW := mw_of 244 (by decide +kernel) rfl
theorem mw_245 : (.code y_Bk_wordAt prog_2_method_2_code 2 (some .int) : Cond) ∈ BW := mw_of 245 (by decide +kernel) rfl
theorem mw_246 : (.methodLink "NearFinder" 96 y_Wo_append : Cond) ∈ BW := mw_of 246 (by decide +kernel) rfl
theorem mw_247 : (.instanceMethod y_Wo_append : Cond) ∈ BW := mw_of 247 (by decide +kernel) rfl
theorem mw_248 : (.selects "NearFinder$Words" y_Wo_append y_Wo_append : Cond) ∈ BW := mw_of 248 (by decide +kernel) rfl
theorem mw_249 : (.code y_Wo_append prog_9_method_2_code 3 (some .boolean) : Cond) ∈ BW := mw_of 249 (by decide +kernel) rfl
theorem mw_250 : (.methodLink "NearFinder$Words" 22 y_Wo_startOf : Cond) ∈ BW := mw_of 250 (by decide +kernel) rfl
theorem mw_251 : (.static y_Wo_startOf : Cond) ∈ BW := mw_of 251 (by decide +kernel) rfl
theorem mw_252 : (.code y_Wo_startOf prog_9_method_5_code 1 (some .int) : Cond) ∈ BW := mw_of 252 (by decide +kernel) rfl
theorem mw_253 : (.methodLink "NearFinderLaw" 29 y_Nf_ask : Cond) ∈ BW := mw_of 253 (by decide +kernel) rfl
theorem mw_254 : (.instanceMethod y_Nf_ask : Cond) ∈ BW := mw_of 254 (by decide +kernel) rfl
theorem mw_255 : (.selects "NearFinder" y_Nf_ask y_Nf_ask : Cond) ∈ BW := mw_of 255 (by decide +kernel) rfl
theorem mw_256 : (.code y_Nf_ask prog_1_method_4_code 3 (some .boolean) : Cond) ∈ BW := mw_of 256 (by decide +kernel) rfl
theorem mw_257 : (.methodLink "NearFinderLaw" 34 y_Nf_asked : Cond) ∈ BW := mw_of 257 (by decide +kernel) rfl
theorem mw_258 : (.instanceMethod y_Nf_asked : Cond) ∈ BW := mw_of 258 (by decide +kernel) rfl
theorem mw_259 : (.selects "NearFinder" y_Nf_asked y_Nf_asked : Cond) ∈ BW := mw_of 259 (by decide +kernel) rfl
theorem mw_260 : (.code y_Nf_asked prog_1_method_5_code 2 (some .boolean) : Cond) ∈ BW := mw_of 260 (by decide +kernel) rfl
theorem mw_261 : (.methodLink "NearFinder" 100 y_Wo_clear : Cond) ∈ BW := mw_of 261 (by decide +kernel) rfl
theorem mw_262 : (.instanceMethod y_Wo_clear : Cond) ∈ BW := mw_of 262 (by decide +kernel) rfl
theorem mw_263 : (.selects "NearFinder$Words" y_Wo_clear y_Wo_clear : Cond) ∈ BW := mw_of 263 (by decide +kernel) rfl
theorem mw_264 : (.code y_Wo_clear prog_9_method_4_code 2 none : Cond) ∈ BW := mw_of 264 (by decide +kernel) rfl
theorem mw_265 : (.methodLink "NearFinderLaw" 39 y_Nf_weight : Cond) ∈ BW := mw_of 265 (by decide +kernel) rfl
theorem mw_266 : (.instanceMethod y_Nf_weight : Cond) ∈ BW := mw_of 266 (by decide +kernel) rfl
theorem mw_267 : (.selects "NearFinder" y_Nf_weight y_Nf_weight : Cond) ∈ BW := mw_of 267 (by decide +kernel) rfl
theorem mw_268 : (.code y_Nf_weight prog_1_method_6_code 3 (some .int) : Cond) ∈ BW := mw_of 268 (by decide +kernel) rfl
theorem mw_269 : (.methodLink "NearFinder" 103 y_We_isKind : Cond) ∈ BW := mw_of 269 (by decide +kernel) rfl
theorem mw_270 : (.static y_We_isKind : Cond) ∈ BW := mw_of 270 (by decide +kernel) rfl
theorem mw_271 : (.code y_We_isKind prog_8_method_2_code 1 (some .boolean) : Cond) ∈ BW := mw_of 271 (by decide +kernel) rfl
theorem mw_272 : (.methodLink "NearFinder" 106 y_We_isWeight : Cond) ∈ BW := mw_of 272 (by decide +kernel) rfl
theorem mw_273 : (.static y_We_isWeight : Cond) ∈ BW := mw_of 273 (by decide +kernel) rfl
theorem mw_274 : (.code y_We_isWeight prog_8_method_3_code 1 (some .boolean) : Cond) ∈ BW := mw_of 274 (by decide +kernel) rfl
theorem mw_275 : (.methodLink "NearFinder" 109 y_We_replace : Cond) ∈ BW := mw_of 275 (by decide +kernel) rfl
theorem mw_276 : (.instanceMethod y_We_replace : Cond) ∈ BW := mw_of 276 (by decide +kernel) rfl
theorem mw_277 : (.selects "NearFinder$Weights" y_We_replace y_We_replace : Cond) ∈ BW := mw_of 277 (by decide +kernel) rfl
theorem mw_278 : (.code y_We_replace prog_8_method_4_code 4 (some .int) : Cond) ∈ BW := mw_of 278 (by decide +kernel) rfl
theorem mw_279 : (.methodLink "NearFinderLaw" 44 y_Nf_find : Cond) ∈ BW := mw_of 279 (by decide +kernel) rfl
theorem mw_280 : (.instanceMethod y_Nf_find : Cond) ∈ BW := mw_of 280 (by decide +kernel) rfl
theorem mw_281 : (.selects "NearFinder" y_Nf_find y_Nf_find : Cond) ∈ BW := mw_of 281 (by decide +kernel) rfl
theorem mw_282 : (.code y_Nf_find prog_1_method_7_code 3 (some .int) : Cond) ∈ BW := mw_of 282 (by decide +kernel) rfl
theorem mw_283 : (.methodLink "NearFinder" 112 y_Nf_look : Cond) ∈ BW := mw_of 283 (by decide +kernel) rfl
theorem mw_285 : (.instanceMethod y_Nf_look : Cond) ∈ BW := mw_of 285 (by decide +kernel) rfl
theorem mw_286 : (.code y_Nf_look prog_1_method_22_code 5 (some .int) : Cond) ∈ BW := mw_of 286 (by decide +kernel) rfl
theorem mw_287 : (.methodLink "NearFinder" 171 y_Hi_start : Cond) ∈ BW := mw_of 287 (by decide +kernel) rfl
theorem mw_288 : (.instanceMethod y_Hi_start : Cond) ∈ BW := mw_of 288 (by decide +kernel) rfl
theorem mw_289 : (.selects "NearFinder$Hits" y_Hi_start y_Hi_start : Cond) ∈ BW := mw_of 289 (by decide +kernel) rfl
theorem mw_290 : (.code y_Hi_start prog_5_method_2_code 3 none : Cond) ∈ BW := mw_of 290 (by decide +kernel) rfl
theorem mw_291 : (.methodLink "NearFinder" 175 y_Nf_isLookedFor : Cond) ∈ BW := mw_of 291 (by decide +kernel) rfl
theorem mw_293 : (.instanceMethod y_Nf_isLookedFor : Cond) ∈ BW := mw_of 293 (by decide +kernel) rfl
theorem mw_294 : (.code y_Nf_isLookedFor prog_1_method_23_code 2 (some .boolean) : Cond) ∈ BW := mw_of 294 (by decide +kernel) rfl
theorem mw_295 : (.methodLink "NearFinder" 124 y_Nf_leastOfWays : Cond) ∈ BW := mw_of 295 (by decide +kernel) rfl
theorem mw_297 : (.instanceMethod y_Nf_leastOfWays : Cond) ∈ BW := mw_of 297 (by decide +kernel) rfl
theorem mw_298 : (.code y_Nf_leastOfWays prog_1_method_24_code 5 (some .int) : Cond) ∈ BW := mw_of 298 (by decide +kernel) rfl
theorem mw_299 : (.methodLink "NearFinder" 191 y_Pa_start : Cond) ∈ BW := mw_of 299 (by decide +kernel) rfl
theorem mw_300 : (.instanceMethod y_Pa_start : Cond) ∈ BW := mw_of 300 (by decide +kernel) rfl
theorem mw_301 : (.selects "NearFinder$Pairing" y_Pa_start y_Pa_start : Cond) ∈ BW := mw_of 301 (by decide +kernel) rfl
theorem mw_302 : (.code y_Pa_start prog_7_method_3_code 1 none : Cond) ∈ BW := mw_of 302 (by decide +kernel) rfl
theorem mw_303 : (.methodLink "NearFinder" 134 y_Wo_isNone : Cond) ∈ BW := mw_of 303 (by decide +kernel) rfl
theorem mw_304 : (.instanceMethod y_Wo_isNone : Cond) ∈ BW := mw_of 304 (by decide +kernel) rfl
theorem mw_305 : (.selects "NearFinder$Words" y_Wo_isNone y_Wo_isNone : Cond) ∈ BW := mw_of 305 (by decide +kernel) rfl
theorem mw_306 : (.code y_Wo_isNone prog_9_method_3_code 2 (some .boolean) : Cond) ∈ BW := mw_of 306 (by decide +kernel) rfl
theorem mw_307 : (.methodLink "NearFinder" 193 y_Pa_countWord : Cond) ∈ BW := mw_of 307 (by decide +kernel) rfl
theorem mw_308 : (.instanceMethod y_Pa_countWord : Cond) ∈ BW := mw_of 308 (by decide +kernel) rfl
theorem mw_309 : (.selects "NearFinder$Pairing" y_Pa_countWord y_Pa_countWord : Cond) ∈ BW := mw_of 309 (by decide +kernel) rfl
theorem mw_310 : (.code y_Pa_countWord prog_7_method_4_code 2 none : Cond) ∈ BW := mw_of 310 (by decide +kernel) rfl
theorem mw_311 : (.methodLink "NearFinder" 197 y_Nf_costOfPair : Cond) ∈ BW := mw_of 311 (by decide +kernel) rfl
theorem mw_313 : (.instanceMethod y_Nf_costOfPair : Cond) ∈ BW := mw_of 313 (by decide +kernel) rfl
theorem mw_314 : (.code y_Nf_costOfPair prog_1_method_25_code 4 (some .int) : Cond) ∈ BW := mw_of 314 (by decide +kernel) rfl
theorem mw_316 : (.methodLink "NearFinder" 137 ⟨"NearFinder$Measure", "between", "(LNearFinder$Words;ILNearFinder$Words;I)I"⟩ : Cond) ∈ BW := mw_of 316 (by decide +kernel) rfl
theorem mw_320 : (.selects "NearFinder$ByChanges" ⟨"NearFinder$Measure", "between", "(LNearFinder$Words;ILNearFinder$Words;I)I"⟩ y_Bc_between : Cond) ∈ BW := mw_of 320 (by decide +kernel) rfl
theorem mw_322 : (.instanceMethod y_Bc_between : Cond) ∈ BW := mw_of 322 (by decide +kernel) rfl
theorem mw_324 : (.code y_Bc_between prog_3_method_2_code 9 (some .int) : Cond) ∈ BW := mw_of 324 (by decide +kernel) rfl
theorem mw_325 : (.methodLink "NearFinder$ByChanges" 24 y_We_putIn : Cond) ∈ BW := mw_of 325 (by decide +kernel) rfl
theorem mw_326 : (.instanceMethod y_We_putIn : Cond) ∈ BW := mw_of 326 (by decide +kernel) rfl
theorem mw_327 : (.selects "NearFinder$Weights" y_We_putIn y_We_putIn : Cond) ∈ BW := mw_of 327 (by decide +kernel) rfl
theorem mw_328 : (.code y_We_putIn prog_8_method_5_code 1 (some .int) : Cond) ∈ BW := mw_of 328 (by decide +kernel) rfl
theorem mw_329 : (.methodLink "NearFinder$ByChanges" 30 y_Wo_startOf : Cond) ∈ BW := mw_of 329 (by decide +kernel) rfl
theorem mw_330 : (.methodLink "NearFinder$ByChanges" 37 y_Bc_nextRow : Cond) ∈ BW := mw_of 330 (by decide +kernel) rfl
theorem mw_332 : (.instanceMethod y_Bc_nextRow : Cond) ∈ BW := mw_of 332 (by decide +kernel) rfl
theorem mw_333 : (.code y_Bc_nextRow prog_3_method_3_code 14 none : Cond) ∈ BW := mw_of 333 (by decide +kernel) rfl
theorem mw_334 : (.methodLink "NearFinder$ByChanges" 41 y_We_leftOut : Cond) ∈ BW := mw_of 334 (by decide +kernel) rfl
theorem mw_335 : (.instanceMethod y_We_leftOut : Cond) ∈ BW := mw_of 335 (by decide +kernel) rfl
theorem mw_336 : (.selects "NearFinder$Weights" y_We_leftOut y_We_leftOut : Cond) ∈ BW := mw_of 336 (by decide +kernel) rfl
theorem mw_337 : (.code y_We_leftOut prog_8_method_6_code 1 (some .int) : Cond) ∈ BW := mw_of 337 (by decide +kernel) rfl
theorem mw_338 : (.methodLink "NearFinder$ByChanges" 44 y_We_exchanged : Cond) ∈ BW := mw_of 338 (by decide +kernel) rfl
theorem mw_339 : (.instanceMethod y_We_exchanged : Cond) ∈ BW := mw_of 339 (by decide +kernel) rfl
theorem mw_340 : (.selects "NearFinder$Weights" y_We_exchanged y_We_exchanged : Cond) ∈ BW := mw_of 340 (by decide +kernel) rfl
theorem mw_341 : (.code y_We_exchanged prog_8_method_7_code 1 (some .int) : Cond) ∈ BW := mw_of 341 (by decide +kernel) rfl
theorem mw_342 : (.methodLink "NearFinder$ByChanges" 47 y_We_exchangedAlike : Cond) ∈ BW := mw_of 342 (by decide +kernel) rfl
theorem mw_343 : (.instanceMethod y_We_exchangedAlike : Cond) ∈ BW := mw_of 343 (by decide +kernel) rfl
theorem mw_344 : (.selects "NearFinder$Weights" y_We_exchangedAlike y_We_exchangedAlike : Cond) ∈ BW := mw_of 344 (by decide +kernel) rfl
theorem mw_345 : (.code y_We_exchangedAlike prog_8_method_8_code 1 (some .int) : Cond) ∈ BW := mw_of 345 (by decide +kernel) rfl
theorem mw_346 : (.methodLink "NearFinder$Weights" 13 Lib.Math.min.name : Cond) ∈ BW := mw_of 346 (by decide +kernel) rfl
theorem mw_347 : (.static Lib.Math.min.name : Cond) ∈ BW := mw_of 347 (by decide +kernel) rfl
theorem mw_348 : (.code Lib.Math.min.name prog_14_method_69_code 2 (some .int) : Cond) ∈ BW := mw_of 348 (by decide +kernel) rfl
theorem mw_349 : (.fieldLink "NearFinder$ByChanges" 50 "NearFinder$ByChanges" "SOUNDS" "[I" : Cond) ∈ BW := mw_of 349 (by decide +kernel) rfl
theorem mw_351 : (.methodLink "NearFinder$ByChanges" 53 Lib.Math.min.name : Cond) ∈ BW := mw_of 351 (by decide +kernel) rfl
theorem mw_353 : (.selects "NearFinder$ByCounts" ⟨"NearFinder$Measure", "between", "(LNearFinder$Words;ILNearFinder$Words;I)I"⟩ y_Bn_between : Cond) ∈ BW := mw_of 353 (by decide +kernel) rfl
theorem mw_355 : (.instanceMethod y_Bn_between : Cond) ∈ BW := mw_of 355 (by decide +kernel) rfl
theorem mw_357 : (.code y_Bn_between prog_4_method_2_code 9 (some .int) : Cond) ∈ BW := mw_of 357 (by decide +kernel) rfl
theorem mw_358 : (.methodLink "NearFinder$ByCounts" 19 y_Bn_sharedLetters : Cond) ∈ BW := mw_of 358 (by decide +kernel) rfl
theorem mw_360 : (.instanceMethod y_Bn_sharedLetters : Cond) ∈ BW := mw_of 360 (by decide +kernel) rfl
theorem mw_361 : (.code y_Bn_sharedLetters prog_4_method_3_code 10 (some .int) : Cond) ∈ BW := mw_of 361 (by decide +kernel) rfl
theorem mw_362 : (.methodLink "NearFinder$ByCounts" 49 y_Wo_startOf : Cond) ∈ BW := mw_of 362 (by decide +kernel) rfl
theorem mw_363 : (.methodLink "NearFinder$ByCounts" 23 y_We_exchangedAlike : Cond) ∈ BW := mw_of 363 (by decide +kernel) rfl
theorem mw_364 : (.methodLink "NearFinder$ByCounts" 34 y_We_leftOut : Cond) ∈ BW := mw_of 364 (by decide +kernel) rfl
theorem mw_365 : (.methodLink "NearFinder$ByCounts" 37 Lib.Math.min.name : Cond) ∈ BW := mw_of 365 (by decide +kernel) rfl
theorem mw_366 : (.methodLink "NearFinder$ByCounts" 43 y_We_putIn : Cond) ∈ BW := mw_of 366 (by decide +kernel) rfl
theorem mw_367 : (.methodLink "NearFinder$ByCounts" 46 Lib.Math.max.name : Cond) ∈ BW := mw_of 367 (by decide +kernel) rfl
theorem mw_368 : (.static Lib.Math.max.name : Cond) ∈ BW := mw_of 368 (by decide +kernel) rfl
theorem mw_369 : (.code Lib.Math.max.name prog_14_method_65_code 2 (some .int) : Cond) ∈ BW := mw_of 369 (by decide +kernel) rfl
theorem mw_370 : (.methodLink "NearFinder" 201 y_Pa_setCost : Cond) ∈ BW := mw_of 370 (by decide +kernel) rfl
theorem mw_371 : (.instanceMethod y_Pa_setCost : Cond) ∈ BW := mw_of 371 (by decide +kernel) rfl
theorem mw_372 : (.selects "NearFinder$Pairing" y_Pa_setCost y_Pa_setCost : Cond) ∈ BW := mw_of 372 (by decide +kernel) rfl
theorem mw_373 : (.code y_Pa_setCost prog_7_method_5_code 4 none : Cond) ∈ BW := mw_of 373 (by decide +kernel) rfl
theorem mw_374 : (.methodLink "NearFinder" 204 y_Pa_choose : Cond) ∈ BW := mw_of 374 (by decide +kernel) rfl
theorem mw_375 : (.instanceMethod y_Pa_choose : Cond) ∈ BW := mw_of 375 (by decide +kernel) rfl
theorem mw_376 : (.selects "NearFinder$Pairing" y_Pa_choose y_Pa_choose : Cond) ∈ BW := mw_of 376 (by decide +kernel) rfl
theorem mw_377 : (.code y_Pa_choose prog_7_method_6_code 4 (some .int) : Cond) ∈ BW := mw_of 377 (by decide +kernel) rfl
theorem mw_378 : (.constant "NearFinder$Pairing" 26 (1000000 : Int32) : Cond) ∈ BW := mw_of 378 (by decide +kernel) rfl
theorem mw_379 : (.methodLink "NearFinder$Pairing" 27 y_Pa_totalOf : Cond) ∈ BW := mw_of 379 (by decide +kernel) rfl
theorem mw_381 : (.instanceMethod y_Pa_totalOf : Cond) ∈ BW := mw_of 381 (by decide +kernel) rfl
theorem mw_382 : (.code y_Pa_totalOf prog_7_method_7_code 7 (some .int) : Cond) ∈ BW := mw_of 382 (by decide +kernel) rfl
theorem mw_383 : (.methodLink "NearFinder$Pairing" 31 y_Pa_partner : Cond) ∈ BW := mw_of 383 (by decide +kernel) rfl
theorem mw_384 : (.static y_Pa_partner : Cond) ∈ BW := mw_of 384 (by decide +kernel) rfl
theorem mw_385 : (.code y_Pa_partner prog_7_method_2_code 2 (some .int) : Cond) ∈ BW := mw_of 385 (by decide +kernel) rfl
theorem mw_386 : (.methodLink "NearFinder$Pairing" 35 y_Pa_isTaken : Cond) ∈ BW := mw_of 386 (by decide +kernel) rfl
theorem mw_387 : (.static y_Pa_isTaken : Cond) ∈ BW := mw_of 387 (by decide +kernel) rfl
theorem mw_388 : (.code y_Pa_isTaken prog_7_method_8_code 4 (some .boolean) : Cond) ∈ BW := mw_of 388 (by decide +kernel) rfl
theorem mw_389 : (.methodLink "NearFinder$Pairing" 39 y_Pa_turnedBefore : Cond) ∈ BW := mw_of 389 (by decide +kernel) rfl
theorem mw_390 : (.static y_Pa_turnedBefore : Cond) ∈ BW := mw_of 390 (by decide +kernel) rfl
theorem mw_391 : (.code y_Pa_turnedBefore prog_7_method_9_code 5 (some .int) : Cond) ∈ BW := mw_of 391 (by decide +kernel) rfl
theorem mw_392 : (.methodLink "NearFinder$Pairing" 43 y_We_turned : Cond) ∈ BW := mw_of 392 (by decide +kernel) rfl
theorem mw_393 : (.instanceMethod y_We_turned : Cond) ∈ BW := mw_of 393 (by decide +kernel) rfl
theorem mw_394 : (.selects "NearFinder$Weights" y_We_turned y_We_turned : Cond) ∈ BW := mw_of 394 (by decide +kernel) rfl
theorem mw_395 : (.code y_We_turned prog_8_method_10_code 1 (some .int) : Cond) ∈ BW := mw_of 395 (by decide +kernel) rfl
theorem mw_396 : (.methodLink "NearFinder$Pairing" 49 y_We_missing : Cond) ∈ BW := mw_of 396 (by decide +kernel) rfl
theorem mw_397 : (.instanceMethod y_We_missing : Cond) ∈ BW := mw_of 397 (by decide +kernel) rfl
theorem mw_398 : (.selects "NearFinder$Weights" y_We_missing y_We_missing : Cond) ∈ BW := mw_of 398 (by decide +kernel) rfl
theorem mw_399 : (.code y_We_missing prog_8_method_9_code 1 (some .int) : Cond) ∈ BW := mw_of 399 (by decide +kernel) rfl
theorem mw_400 : (.methodLink "NearFinder" 178 y_Hi_limit : Cond) ∈ BW := mw_of 400 (by decide +kernel) rfl
theorem mw_401 : (.instanceMethod y_Hi_limit : Cond) ∈ BW := mw_of 401 (by decide +kernel) rfl
theorem mw_402 : (.selects "NearFinder$Hits" y_Hi_limit y_Hi_limit : Cond) ∈ BW := mw_of 402 (by decide +kernel) rfl
theorem mw_403 : (.code y_Hi_limit prog_5_method_4_code 1 (some .int) : Cond) ∈ BW := mw_of 403 (by decide +kernel) rfl
theorem mw_404 : (.methodLink "NearFinder" 184 y_Hi_offer : Cond) ∈ BW := mw_of 404 (by decide +kernel) rfl
theorem mw_405 : (.instanceMethod y_Hi_offer : Cond) ∈ BW := mw_of 405 (by decide +kernel) rfl
theorem mw_406 : (.selects "NearFinder$Hits" y_Hi_offer y_Hi_offer : Cond) ∈ BW := mw_of 406 (by decide +kernel) rfl
theorem mw_407 : (.code y_Hi_offer prog_5_method_5_code 6 none : Cond) ∈ BW := mw_of 407 (by decide +kernel) rfl
theorem mw_408 : (.methodLink "NearFinder$Hits" 31 y_Hi_isNearer : Cond) ∈ BW := mw_of 408 (by decide +kernel) rfl
theorem mw_410 : (.instanceMethod y_Hi_isNearer : Cond) ∈ BW := mw_of 410 (by decide +kernel) rfl
theorem mw_411 : (.code y_Hi_isNearer prog_5_method_6_code 4 (some .boolean) : Cond) ∈ BW := mw_of 411 (by decide +kernel) rfl
theorem mw_412 : (.methodLink "NearFinder$Hits" 35 y_Hi_copy : Cond) ∈ BW := mw_of 412 (by decide +kernel) rfl
theorem mw_414 : (.instanceMethod y_Hi_copy : Cond) ∈ BW := mw_of 414 (by decide +kernel) rfl
theorem mw_415 : (.code y_Hi_copy prog_5_method_7_code 3 none : Cond) ∈ BW := mw_of 415 (by decide +kernel) rfl
theorem mw_416 : (.methodLink "NearFinderLaw" 48 y_Nf_scan : Cond) ∈ BW := mw_of 416 (by decide +kernel) rfl
theorem mw_417 : (.instanceMethod y_Nf_scan : Cond) ∈ BW := mw_of 417 (by decide +kernel) rfl
theorem mw_418 : (.selects "NearFinder" y_Nf_scan y_Nf_scan : Cond) ∈ BW := mw_of 418 (by decide +kernel) rfl
theorem mw_419 : (.code y_Nf_scan prog_1_method_8_code 3 (some .int) : Cond) ∈ BW := mw_of 419 (by decide +kernel) rfl
theorem mw_420 : (.methodLink "NearFinderLaw" 52 y_Nf_worked : Cond) ∈ BW := mw_of 420 (by decide +kernel) rfl
theorem mw_421 : (.instanceMethod y_Nf_worked : Cond) ∈ BW := mw_of 421 (by decide +kernel) rfl
theorem mw_422 : (.selects "NearFinder" y_Nf_worked y_Nf_worked : Cond) ∈ BW := mw_of 422 (by decide +kernel) rfl
theorem mw_423 : (.code y_Nf_worked prog_1_method_9_code 1 (some .int) : Cond) ∈ BW := mw_of 423 (by decide +kernel) rfl
theorem mw_424 : (.methodLink "NearFinderLaw" 57 y_Nf_found : Cond) ∈ BW := mw_of 424 (by decide +kernel) rfl
theorem mw_425 : (.instanceMethod y_Nf_found : Cond) ∈ BW := mw_of 425 (by decide +kernel) rfl
theorem mw_426 : (.selects "NearFinder" y_Nf_found y_Nf_found : Cond) ∈ BW := mw_of 426 (by decide +kernel) rfl
theorem mw_427 : (.code y_Nf_found prog_1_method_10_code 2 (some .int) : Cond) ∈ BW := mw_of 427 (by decide +kernel) rfl
theorem mw_428 : (.methodLink "NearFinder" 116 y_Hi_has : Cond) ∈ BW := mw_of 428 (by decide +kernel) rfl
theorem mw_429 : (.instanceMethod y_Hi_has : Cond) ∈ BW := mw_of 429 (by decide +kernel) rfl
theorem mw_430 : (.selects "NearFinder$Hits" y_Hi_has y_Hi_has : Cond) ∈ BW := mw_of 430 (by decide +kernel) rfl
theorem mw_431 : (.code y_Hi_has prog_5_method_3_code 2 (some .boolean) : Cond) ∈ BW := mw_of 431 (by decide +kernel) rfl
theorem mw_432 : (.methodLink "NearFinderLaw" 61 y_Nf_sum : Cond) ∈ BW := mw_of 432 (by decide +kernel) rfl
theorem mw_433 : (.instanceMethod y_Nf_sum : Cond) ∈ BW := mw_of 433 (by decide +kernel) rfl
theorem mw_434 : (.selects "NearFinder" y_Nf_sum y_Nf_sum : Cond) ∈ BW := mw_of 434 (by decide +kernel) rfl
theorem mw_435 : (.code y_Nf_sum prog_1_method_11_code 2 (some .int) : Cond) ∈ BW := mw_of 435 (by decide +kernel) rfl
theorem mw_436 : (.methodLink "NearFinderLaw" 65 y_Nf_sumOf : Cond) ∈ BW := mw_of 436 (by decide +kernel) rfl
theorem mw_437 : (.instanceMethod y_Nf_sumOf : Cond) ∈ BW := mw_of 437 (by decide +kernel) rfl
theorem mw_438 : (.selects "NearFinder" y_Nf_sumOf y_Nf_sumOf : Cond) ∈ BW := mw_of 438 (by decide +kernel) rfl
theorem mw_439 : (.code y_Nf_sumOf prog_1_method_12_code 2 (some .int) : Cond) ∈ BW := mw_of 439 (by decide +kernel) rfl
theorem mw_440 : (.methodLink "NearFinderLaw" 69 y_Nf_pair : Cond) ∈ BW := mw_of 440 (by decide +kernel) rfl
theorem mw_441 : (.instanceMethod y_Nf_pair : Cond) ∈ BW := mw_of 441 (by decide +kernel) rfl
theorem mw_442 : (.selects "NearFinder" y_Nf_pair y_Nf_pair : Cond) ∈ BW := mw_of 442 (by decide +kernel) rfl
theorem mw_443 : (.code y_Nf_pair prog_1_method_13_code 3 (some .int) : Cond) ∈ BW := mw_of 443 (by decide +kernel) rfl
theorem mw_444 : (.methodLink "NearFinder" 131 y_Pa_partner : Cond) ∈ BW := mw_of 444 (by decide +kernel) rfl
theorem mw_445 : (.methodLink "NearFinderLaw" 73 y_Nf_changes : Cond) ∈ BW := mw_of 445 (by decide +kernel) rfl
theorem mw_446 : (.instanceMethod y_Nf_changes : Cond) ∈ BW := mw_of 446 (by decide +kernel) rfl
theorem mw_447 : (.selects "NearFinder" y_Nf_changes y_Nf_changes : Cond) ∈ BW := mw_of 447 (by decide +kernel) rfl
theorem mw_448 : (.code y_Nf_changes prog_1_method_14_code 5 (some .int) : Cond) ∈ BW := mw_of 448 (by decide +kernel) rfl
theorem mw_449 : (.methodLink "NearFinderLaw" 78 y_Nf_learned : Cond) ∈ BW := mw_of 449 (by decide +kernel) rfl
theorem mw_450 : (.instanceMethod y_Nf_learned : Cond) ∈ BW := mw_of 450 (by decide +kernel) rfl
theorem mw_451 : (.selects "NearFinder" y_Nf_learned y_Nf_learned : Cond) ∈ BW := mw_of 451 (by decide +kernel) rfl
theorem mw_452 : (.code y_Nf_learned prog_1_method_15_code 3 (some .int) : Cond) ∈ BW := mw_of 452 (by decide +kernel) rfl
theorem mw_453 : (.constant "NearFinder" 143 (100000 : Int32) : Cond) ∈ BW := mw_of 453 (by decide +kernel) rfl
theorem mw_454 : (.methodLink "NearFinder" 144 y_Bk_learn : Cond) ∈ BW := mw_of 454 (by decide +kernel) rfl
theorem mw_455 : (.instanceMethod y_Bk_learn : Cond) ∈ BW := mw_of 455 (by decide +kernel) rfl
theorem mw_456 : (.selects "NearFinder$Book" y_Bk_learn y_Bk_learn : Cond) ∈ BW := mw_of 456 (by decide +kernel) rfl
theorem mw_457 : (.code y_Bk_learn prog_2_method_6_code 3 (some .int) : Cond) ∈ BW := mw_of 457 (by decide +kernel) rfl
theorem mw_458 : (.methodLink "NearFinderLaw" 82 y_Nf_drop : Cond) ∈ BW := mw_of 458 (by decide +kernel) rfl
theorem mw_459 : (.instanceMethod y_Nf_drop : Cond) ∈ BW := mw_of 459 (by decide +kernel) rfl
theorem mw_460 : (.selects "NearFinder" y_Nf_drop y_Nf_drop : Cond) ∈ BW := mw_of 460 (by decide +kernel) rfl
theorem mw_461 : (.code y_Nf_drop prog_1_method_16_code 4 (some .int) : Cond) ∈ BW := mw_of 461 (by decide +kernel) rfl
theorem mw_462 : (.methodLink "NearFinderLaw" 96 y_Nf_count : Cond) ∈ BW := mw_of 462 (by decide +kernel) rfl
theorem mw_463 : (.instanceMethod y_Nf_count : Cond) ∈ BW := mw_of 463 (by decide +kernel) rfl
theorem mw_464 : (.selects "NearFinder" y_Nf_count y_Nf_count : Cond) ∈ BW := mw_of 464 (by decide +kernel) rfl
theorem mw_465 : (.code y_Nf_count prog_1_method_18_code 2 (some .int) : Cond) ∈ BW := mw_of 465 (by decide +kernel) rfl
theorem mw_466 : (.methodLink "NearFinder" 167 y_Bk_droppedOnes : Cond) ∈ BW := mw_of 466 (by decide +kernel) rfl
theorem mw_467 : (.instanceMethod y_Bk_droppedOnes : Cond) ∈ BW := mw_of 467 (by decide +kernel) rfl
theorem mw_468 : (.selects "NearFinder$Book" y_Bk_droppedOnes y_Bk_droppedOnes : Cond) ∈ BW := mw_of 468 (by decide +kernel) rfl
theorem mw_469 : (.code y_Bk_droppedOnes prog_2_method_7_code 3 (some .int) : Cond) ∈ BW := mw_of 469 (by decide +kernel) rfl
theorem mw_470 : (.methodLink "NearFinderLaw" 87 y_La_share : Cond) ∈ BW := mw_of 470 (by decide +kernel) rfl
theorem mw_471 : (.static y_La_share : Cond) ∈ BW := mw_of 471 (by decide +kernel) rfl
theorem mw_473 : (.classLink "NearFinderLaw" 13 "java/lang/ArithmeticException" : Cond) ∈ BW := mw_of 473 (by decide +kernel) rfl
theorem mw_474 : (.methodLink "NearFinderLaw" 7 y_Nf_share : Cond) ∈ BW := mw_of 474 (by decide +kernel) rfl
theorem mw_475 : (.instanceMethod y_Nf_share : Cond) ∈ BW := mw_of 475 (by decide +kernel) rfl
theorem mw_476 : (.selects "NearFinder" y_Nf_share y_Nf_share : Cond) ∈ BW := mw_of 476 (by decide +kernel) rfl
theorem mw_477 : (.code y_Nf_share prog_1_method_17_code 3 (some .long) : Cond) ∈ BW := mw_of 477 (by decide +kernel) rfl
theorem mw_478 : (.classLink "NearFinder" 151 "java/lang/ArithmeticException" : Cond) ∈ BW := mw_of 478 (by decide +kernel) rfl
theorem mw_479 : (.instantiable "java/lang/ArithmeticException" 6 : Cond) ∈ BW := mw_of 479 (by decide +kernel) rfl
theorem mw_487 : (.selects "java/lang/ArithmeticException" ⟨"java/lang/Throwable", "fillInStackTrace", "(I)Ljava/lang/Throwable;"⟩ ⟨"java/lang/Throwable", "fillInStackTrace", "(I)Ljava/lang/Throwable;"⟩ : Cond) ∈ BW := mw_of 487 (by decide +kernel) rfl
theorem mw_488 : (.selects "java/lang/ArithmeticException" ⟨"java/lang/Throwable", "fillInStackTrace", "()Ljava/lang/Throwable;"⟩ ⟨"java/lang/Throwable", "fillInStackTrace", "()Ljava/lang/Throwable;"⟩ : Cond) ∈ BW := mw_of 488 (by decide +kernel) rfl
theorem mw_489 : (.lays "java/lang/ArithmeticException" "java/lang/Throwable" "cause" "Ljava/lang/Throwable;" : Cond) ∈ BW := mw_of 489 (by decide +kernel) rfl
theorem mw_490 : (.lays "java/lang/Throwable" "java/lang/Throwable" "cause" "Ljava/lang/Throwable;" : Cond) ∈ BW := mw_of 490 (by decide +kernel) rfl
theorem mw_491 : (.lays "java/lang/ArithmeticException" "java/lang/Throwable" "stackTrace" "[Ljava/lang/StackTraceElement;" : Cond) ∈ BW := mw_of 491 (by decide +kernel) rfl
theorem mw_492 : (.lays "java/lang/Throwable" "java/lang/Throwable" "stackTrace" "[Ljava/lang/StackTraceElement;" : Cond) ∈ BW := mw_of 492 (by decide +kernel) rfl
theorem mw_493 : (.lays "java/lang/ArithmeticException" "java/lang/Throwable" "suppressedExceptions" "Ljava/util/List;" : Cond) ∈ BW := mw_of 493 (by decide +kernel) rfl
theorem mw_494 : (.lays "java/lang/Throwable" "java/lang/Throwable" "suppressedExceptions" "Ljava/util/List;" : Cond) ∈ BW := mw_of 494 (by decide +kernel) rfl
theorem mw_495 : (.lays "java/lang/ArithmeticException" "java/lang/Throwable" "detailMessage" "Ljava/lang/String;" : Cond) ∈ BW := mw_of 495 (by decide +kernel) rfl
theorem mw_496 : (.lays "java/lang/Throwable" "java/lang/Throwable" "detailMessage" "Ljava/lang/String;" : Cond) ∈ BW := mw_of 496 (by decide +kernel) rfl
theorem mw_497 : (.lays "java/lang/ArithmeticException" "java/lang/Throwable" "backtrace" "Ljava/lang/Object;" : Cond) ∈ BW := mw_of 497 (by decide +kernel) rfl
theorem mw_498 : (.lays "java/lang/Throwable" "java/lang/Throwable" "backtrace" "Ljava/lang/Object;" : Cond) ∈ BW := mw_of 498 (by decide +kernel) rfl
theorem mw_499 : (.fieldLink "java/lang/Throwable" 198 "java/lang/Throwable" "backtrace" "Ljava/lang/Object;" : Cond) ∈ BW := mw_of 499 (by decide +kernel) rfl
theorem mw_501 : (.instanceMethod ⟨"java/lang/Throwable", "<init>", "()V"⟩ : Cond) ∈ BW := mw_of 501 (by decide +kernel) rfl
theorem mw_502 : (.code ⟨"java/lang/Throwable", "<init>", "()V"⟩ prog_17_method_1_code 1 none : Cond) ∈ BW := mw_of 502 (by decide +kernel) rfl
theorem mw_503 : (.methodLink "java/lang/Throwable" 1 objectInit : Cond) ∈ BW := mw_of 503 (by decide +kernel) rfl
theorem mw_504 : (.fieldLink "java/lang/Throwable" 13 "java/lang/Throwable" "UNASSIGNED_STACK" "[Ljava/lang/StackTraceElement;" : Cond) ∈ BW := mw_of 504 (by decide +kernel) rfl
theorem mw_506 : (.fieldLink "java/lang/Throwable" 20 "java/lang/Throwable" "SUPPRESSED_SENTINEL" "Ljava/util/List;" : Cond) ∈ BW := mw_of 506 (by decide +kernel) rfl
theorem mw_508 : (.methodLink "java/lang/Throwable" 27 ⟨"java/lang/Throwable", "fillInStackTrace", "()Ljava/lang/Throwable;"⟩ : Cond) ∈ BW := mw_of 508 (by decide +kernel) rfl
theorem mw_509 : (.instanceMethod ⟨"java/lang/Throwable", "fillInStackTrace", "()Ljava/lang/Throwable;"⟩ : Cond) ∈ BW := mw_of 509 (by decide +kernel) rfl
theorem mw_512 : (.methodLink "java/lang/Throwable" 202 ⟨"java/lang/Throwable", "fillInStackTrace", "(I)Ljava/lang/Throwable;"⟩ : Cond) ∈ BW := mw_of 512 (by decide +kernel) rfl
theorem mw_514 : (.instanceMethod ⟨"java/lang/Throwable", "fillInStackTrace", "(I)Ljava/lang/Throwable;"⟩ : Cond) ∈ BW := mw_of 514 (by decide +kernel) rfl
theorem mw_515 : (.instantiable "java/lang/Throwable" 6 : Cond) ∈ BW := mw_of 515 (by decide +kernel) rfl
theorem mw_518 : (.methodLink "NearFinder" 155 ⟨"java/lang/ArithmeticException", "<init>", "(Ljava/lang/String;)V"⟩ : Cond) ∈ BW := mw_of 518 (by decide +kernel) rfl
theorem mw_519 : (.instanceMethod ⟨"java/lang/ArithmeticException", "<init>", "(Ljava/lang/String;)V"⟩ : Cond) ∈ BW := mw_of 519 (by decide +kernel) rfl
theorem mw_520 : (.code ⟨"java/lang/ArithmeticException", "<init>", "(Ljava/lang/String;)V"⟩ prog_12_method_2_code 2 none : Cond) ∈ BW := mw_of 520 (by decide +kernel) rfl
theorem mw_521 : (.methodLink "java/lang/ArithmeticException" 7 ⟨"java/lang/RuntimeException", "<init>", "(Ljava/lang/String;)V"⟩ : Cond) ∈ BW := mw_of 521 (by decide +kernel) rfl
theorem mw_522 : (.instanceMethod ⟨"java/lang/RuntimeException", "<init>", "(Ljava/lang/String;)V"⟩ : Cond) ∈ BW := mw_of 522 (by decide +kernel) rfl
theorem mw_523 : (.code ⟨"java/lang/RuntimeException", "<init>", "(Ljava/lang/String;)V"⟩ prog_15_method_2_code 2 none : Cond) ∈ BW := mw_of 523 (by decide +kernel) rfl
theorem mw_524 : (.methodLink "java/lang/RuntimeException" 7 ⟨"java/lang/Exception", "<init>", "(Ljava/lang/String;)V"⟩ : Cond) ∈ BW := mw_of 524 (by decide +kernel) rfl
theorem mw_525 : (.instanceMethod ⟨"java/lang/Exception", "<init>", "(Ljava/lang/String;)V"⟩ : Cond) ∈ BW := mw_of 525 (by decide +kernel) rfl
theorem mw_526 : (.code ⟨"java/lang/Exception", "<init>", "(Ljava/lang/String;)V"⟩ prog_13_method_2_code 2 none : Cond) ∈ BW := mw_of 526 (by decide +kernel) rfl
theorem mw_527 : (.methodLink "java/lang/Exception" 7 ⟨"java/lang/Throwable", "<init>", "(Ljava/lang/String;)V"⟩ : Cond) ∈ BW := mw_of 527 (by decide +kernel) rfl
theorem mw_528 : (.instanceMethod ⟨"java/lang/Throwable", "<init>", "(Ljava/lang/String;)V"⟩ : Cond) ∈ BW := mw_of 528 (by decide +kernel) rfl
theorem mw_529 : (.code ⟨"java/lang/Throwable", "<init>", "(Ljava/lang/String;)V"⟩ prog_17_method_2_code 2 none : Cond) ∈ BW := mw_of 529 (by decide +kernel) rfl
theorem mw_531 : (.fieldLink "java/lang/Throwable" 31 "java/lang/Throwable" "detailMessage" "Ljava/lang/String;" : Cond) ∈ BW := mw_of 531 (by decide +kernel) rfl
theorem mw_532 : (.fieldLink "java/lang/Throwable" 7 "java/lang/Throwable" "cause" "Ljava/lang/Throwable;" : Cond) ∈ BW := mw_of 532 (by decide +kernel) rfl
theorem mw_533 : (.fieldLink "java/lang/Throwable" 17 "java/lang/Throwable" "stackTrace" "[Ljava/lang/StackTraceElement;" : Cond) ∈ BW := mw_of 533 (by decide +kernel) rfl
theorem mw_534 : (.fieldLink "java/lang/Throwable" 24 "java/lang/Throwable" "suppressedExceptions" "Ljava/util/List;" : Cond) ∈ BW := mw_of 534 (by decide +kernel) rfl
theorem mw_539 : (.lays "java/lang/ArithmeticException" "java/lang/Throwable" "depth" "I" : Cond) ∈ BW := mw_of 539 (by decide +kernel) rfl
theorem mw_543 : (.arrayClass .byte : Cond) ∈ BW := mw_of 543 (by decide +kernel) rfl
theorem mw_544 : (.constantLong "NearFinder" 158 (1000 : Int64) : Cond) ∈ BW := mw_of 544 (by decide +kernel) rfl
theorem mw_545 : (.classLink "NearFinderLaw" 16 "NearFinderModel" : Cond) ∈ BW := mw_of 545 (by decide +kernel) rfl
theorem mw_546 : (.instantiable "NearFinderModel" 17 : Cond) ∈ BW := mw_of 546 (by decide +kernel) rfl
theorem mw_547 : (.methodLink "NearFinderLaw" 18 y_Mo_init : Cond) ∈ BW := mw_of 547 (by decide +kernel) rfl
theorem mw_548 : (.instanceMethod y_Mo_init : Cond) ∈ BW := mw_of 548 (by decide +kernel) rfl
theorem mw_549 : (.code y_Mo_init prog_11_method_1_code 2 none : Cond) ∈ BW := mw_of 549 (by decide +kernel) rfl
theorem mw_550 : (.methodLink "NearFinderModel" 1 objectInit : Cond) ∈ BW := mw_of 550 (by decide +kernel) rfl
theorem mw_551 : (.fieldLink "NearFinderModel" 51 "NearFinderModel" "thrown" "I" : Cond) ∈ BW := mw_of 551 (by decide +kernel) rfl
theorem mw_552 : (.fieldLink "NearFinderModel" 54 "NearFinderModel" "entries" "I" : Cond) ∈ BW := mw_of 552 (by decide +kernel) rfl
theorem mw_553 : (.fieldLink "NearFinderModel" 7 "NearFinderModel" "places" "[I" : Cond) ∈ BW := mw_of 553 (by decide +kernel) rfl
theorem mw_554 : (.fieldLink "NearFinderModel" 13 "NearFinderModel" "days" "[I" : Cond) ∈ BW := mw_of 554 (by decide +kernel) rfl
theorem mw_555 : (.fieldLink "NearFinderModel" 16 "NearFinderModel" "times" "[I" : Cond) ∈ BW := mw_of 555 (by decide +kernel) rfl
theorem mw_556 : (.fieldLink "NearFinderModel" 19 "NearFinderModel" "dropped" "[Z" : Cond) ∈ BW := mw_of 556 (by decide +kernel) rfl
theorem mw_557 : (.fieldLink "NearFinderModel" 23 "NearFinderModel" "lengths" "[I" : Cond) ∈ BW := mw_of 557 (by decide +kernel) rfl
theorem mw_558 : (.fieldLink "NearFinderModel" 26 "NearFinderModel" "letters" "[I" : Cond) ∈ BW := mw_of 558 (by decide +kernel) rfl
theorem mw_559 : (.fieldLink "NearFinderModel" 29 "NearFinderModel" "place" "I" : Cond) ∈ BW := mw_of 559 (by decide +kernel) rfl
theorem mw_560 : (.fieldLink "NearFinderModel" 33 "NearFinderModel" "weights" "[I" : Cond) ∈ BW := mw_of 560 (by decide +kernel) rfl
theorem mw_561 : (.fieldLink "NearFinderModel" 102 "NearFinderModel" "found" "I" : Cond) ∈ BW := mw_of 561 (by decide +kernel) rfl
theorem mw_562 : (.fieldLink "NearFinderModel" 36 "NearFinderModel" "foundEntries" "[I" : Cond) ∈ BW := mw_of 562 (by decide +kernel) rfl
theorem mw_563 : (.fieldLink "NearFinderModel" 39 "NearFinderModel" "foundSums" "[I" : Cond) ∈ BW := mw_of 563 (by decide +kernel) rfl
theorem mw_564 : (.fieldLink "NearFinderModel" 108 "NearFinderModel" "worked" "I" : Cond) ∈ BW := mw_of 564 (by decide +kernel) rfl
theorem mw_565 : (.fieldLink "NearFinderModel" 42 "NearFinderModel" "steps" "[I" : Cond) ∈ BW := mw_of 565 (by decide +kernel) rfl
theorem mw_566 : (.fieldLink "NearFinderModel" 45 "NearFinderModel" "costs" "[I" : Cond) ∈ BW := mw_of 566 (by decide +kernel) rfl
theorem mw_567 : (.fieldLink "NearFinderModel" 48 "NearFinderModel" "way" "[I" : Cond) ∈ BW := mw_of 567 (by decide +kernel) rfl
theorem mw_568 : (.lays "NearFinderModel" "NearFinderModel" "thrown" "I" : Cond) ∈ BW := mw_of 568 (by decide +kernel) rfl
theorem mw_570 : (.lays "NearFinderModel" "NearFinderModel" "entries" "I" : Cond) ∈ BW := mw_of 570 (by decide +kernel) rfl
theorem mw_572 : (.laysFinal "NearFinderModel" "NearFinderModel" "places" "[I" : Cond) ∈ BW := mw_of 572 (by decide +kernel) rfl
theorem mw_574 : (.laysFinal "NearFinderModel" "NearFinderModel" "days" "[I" : Cond) ∈ BW := mw_of 574 (by decide +kernel) rfl
theorem mw_576 : (.laysFinal "NearFinderModel" "NearFinderModel" "times" "[I" : Cond) ∈ BW := mw_of 576 (by decide +kernel) rfl
theorem mw_578 : (.laysFinal "NearFinderModel" "NearFinderModel" "dropped" "[Z" : Cond) ∈ BW := mw_of 578 (by decide +kernel) rfl
theorem mw_580 : (.laysFinal "NearFinderModel" "NearFinderModel" "lengths" "[I" : Cond) ∈ BW := mw_of 580 (by decide +kernel) rfl
theorem mw_582 : (.laysFinal "NearFinderModel" "NearFinderModel" "letters" "[I" : Cond) ∈ BW := mw_of 582 (by decide +kernel) rfl
theorem mw_584 : (.lays "NearFinderModel" "NearFinderModel" "place" "I" : Cond) ∈ BW := mw_of 584 (by decide +kernel) rfl
theorem mw_586 : (.laysFinal "NearFinderModel" "NearFinderModel" "weights" "[I" : Cond) ∈ BW := mw_of 586 (by decide +kernel) rfl
theorem mw_588 : (.lays "NearFinderModel" "NearFinderModel" "found" "I" : Cond) ∈ BW := mw_of 588 (by decide +kernel) rfl
theorem mw_590 : (.laysFinal "NearFinderModel" "NearFinderModel" "foundEntries" "[I" : Cond) ∈ BW := mw_of 590 (by decide +kernel) rfl
theorem mw_592 : (.laysFinal "NearFinderModel" "NearFinderModel" "foundSums" "[I" : Cond) ∈ BW := mw_of 592 (by decide +kernel) rfl
theorem mw_594 : (.lays "NearFinderModel" "NearFinderModel" "worked" "I" : Cond) ∈ BW := mw_of 594 (by decide +kernel) rfl
theorem mw_596 : (.laysFinal "NearFinderModel" "NearFinderModel" "steps" "[I" : Cond) ∈ BW := mw_of 596 (by decide +kernel) rfl
theorem mw_598 : (.laysFinal "NearFinderModel" "NearFinderModel" "costs" "[I" : Cond) ∈ BW := mw_of 598 (by decide +kernel) rfl
theorem mw_600 : (.laysFinal "NearFinderModel" "NearFinderModel" "way" "[I" : Cond) ∈ BW := mw_of 600 (by decide +kernel) rfl
theorem mw_603 : (.methodLink "NearFinderLaw" 93 y_Mo_thrown : Cond) ∈ BW := mw_of 603 (by decide +kernel) rfl
theorem mw_604 : (.instanceMethod y_Mo_thrown : Cond) ∈ BW := mw_of 604 (by decide +kernel) rfl
theorem mw_605 : (.selects "NearFinderModel" y_Mo_thrown y_Mo_thrown : Cond) ∈ BW := mw_of 605 (by decide +kernel) rfl
theorem mw_606 : (.code y_Mo_thrown prog_11_method_2_code 1 (some .int) : Cond) ∈ BW := mw_of 606 (by decide +kernel) rfl
theorem mw_607 : (.methodLink "NearFinderLaw" 23 y_Mo_entry : Cond) ∈ BW := mw_of 607 (by decide +kernel) rfl
theorem mw_608 : (.instanceMethod y_Mo_entry : Cond) ∈ BW := mw_of 608 (by decide +kernel) rfl
theorem mw_609 : (.selects "NearFinderModel" y_Mo_entry y_Mo_entry : Cond) ∈ BW := mw_of 609 (by decide +kernel) rfl
theorem mw_610 : (.code y_Mo_entry prog_11_method_5_code 2 (some .int) : Cond) ∈ BW := mw_of 610 (by decide +kernel) rfl
theorem mw_611 : (.methodLink "NearFinderLaw" 28 y_Mo_letter : Cond) ∈ BW := mw_of 611 (by decide +kernel) rfl
theorem mw_612 : (.instanceMethod y_Mo_letter : Cond) ∈ BW := mw_of 612 (by decide +kernel) rfl
theorem mw_613 : (.selects "NearFinderModel" y_Mo_letter y_Mo_letter : Cond) ∈ BW := mw_of 613 (by decide +kernel) rfl
theorem mw_614 : (.code y_Mo_letter prog_11_method_7_code 4 (some .boolean) : Cond) ∈ BW := mw_of 614 (by decide +kernel) rfl
theorem mw_615 : (.methodLink "NearFinderModel" 57 y_Mo_isEntry : Cond) ∈ BW := mw_of 615 (by decide +kernel) rfl
theorem mw_617 : (.instanceMethod y_Mo_isEntry : Cond) ∈ BW := mw_of 617 (by decide +kernel) rfl
theorem mw_618 : (.code y_Mo_isEntry prog_11_method_3_code 2 (some .boolean) : Cond) ∈ BW := mw_of 618 (by decide +kernel) rfl
theorem mw_619 : (.methodLink "NearFinderModel" 61 y_Mo_isWord : Cond) ∈ BW := mw_of 619 (by decide +kernel) rfl
theorem mw_620 : (.static y_Mo_isWord : Cond) ∈ BW := mw_of 620 (by decide +kernel) rfl
theorem mw_621 : (.code y_Mo_isWord prog_11_method_4_code 1 (some .boolean) : Cond) ∈ BW := mw_of 621 (by decide +kernel) rfl
theorem mw_622 : (.methodLink "NearFinderModel" 64 y_Mo_add : Cond) ∈ BW := mw_of 622 (by decide +kernel) rfl
theorem mw_624 : (.instanceMethod y_Mo_add : Cond) ∈ BW := mw_of 624 (by decide +kernel) rfl
theorem mw_625 : (.code y_Mo_add prog_11_method_6_code 3 (some .boolean) : Cond) ∈ BW := mw_of 625 (by decide +kernel) rfl
theorem mw_626 : (.methodLink "NearFinderLaw" 33 y_Mo_ask : Cond) ∈ BW := mw_of 626 (by decide +kernel) rfl
theorem mw_627 : (.instanceMethod y_Mo_ask : Cond) ∈ BW := mw_of 627 (by decide +kernel) rfl
theorem mw_628 : (.selects "NearFinderModel" y_Mo_ask y_Mo_ask : Cond) ∈ BW := mw_of 628 (by decide +kernel) rfl
theorem mw_629 : (.code y_Mo_ask prog_11_method_8_code 3 (some .boolean) : Cond) ∈ BW := mw_of 629 (by decide +kernel) rfl
theorem mw_630 : (.methodLink "NearFinderLaw" 38 y_Mo_asked : Cond) ∈ BW := mw_of 630 (by decide +kernel) rfl
theorem mw_631 : (.instanceMethod y_Mo_asked : Cond) ∈ BW := mw_of 631 (by decide +kernel) rfl
theorem mw_632 : (.selects "NearFinderModel" y_Mo_asked y_Mo_asked : Cond) ∈ BW := mw_of 632 (by decide +kernel) rfl
theorem mw_633 : (.code y_Mo_asked prog_11_method_9_code 2 (some .boolean) : Cond) ∈ BW := mw_of 633 (by decide +kernel) rfl
theorem mw_634 : (.methodLink "NearFinderLaw" 43 y_Mo_weight : Cond) ∈ BW := mw_of 634 (by decide +kernel) rfl
theorem mw_635 : (.instanceMethod y_Mo_weight : Cond) ∈ BW := mw_of 635 (by decide +kernel) rfl
theorem mw_636 : (.selects "NearFinderModel" y_Mo_weight y_Mo_weight : Cond) ∈ BW := mw_of 636 (by decide +kernel) rfl
theorem mw_637 : (.code y_Mo_weight prog_11_method_10_code 4 (some .int) : Cond) ∈ BW := mw_of 637 (by decide +kernel) rfl
theorem mw_638 : (.methodLink "NearFinderLaw" 47 y_Mo_find : Cond) ∈ BW := mw_of 638 (by decide +kernel) rfl
theorem mw_639 : (.instanceMethod y_Mo_find : Cond) ∈ BW := mw_of 639 (by decide +kernel) rfl
theorem mw_640 : (.selects "NearFinderModel" y_Mo_find y_Mo_find : Cond) ∈ BW := mw_of 640 (by decide +kernel) rfl
theorem mw_641 : (.code y_Mo_find prog_11_method_26_code 3 (some .int) : Cond) ∈ BW := mw_of 641 (by decide +kernel) rfl
theorem mw_642 : (.methodLink "NearFinderModel" 122 y_Mo_look : Cond) ∈ BW := mw_of 642 (by decide +kernel) rfl
theorem mw_644 : (.instanceMethod y_Mo_look : Cond) ∈ BW := mw_of 644 (by decide +kernel) rfl
theorem mw_645 : (.code y_Mo_look prog_11_method_25_code 8 (some .int) : Cond) ∈ BW := mw_of 645 (by decide +kernel) rfl
theorem mw_646 : (.methodLink "NearFinderModel" 89 y_Mo_words : Cond) ∈ BW := mw_of 646 (by decide +kernel) rfl
theorem mw_648 : (.instanceMethod y_Mo_words : Cond) ∈ BW := mw_of 648 (by decide +kernel) rfl
theorem mw_649 : (.code y_Mo_words prog_11_method_18_code 2 (some .int) : Cond) ∈ BW := mw_of 649 (by decide +kernel) rfl
theorem mw_650 : (.methodLink "NearFinderModel" 111 y_Mo_isAsked : Cond) ∈ BW := mw_of 650 (by decide +kernel) rfl
theorem mw_652 : (.instanceMethod y_Mo_isAsked : Cond) ∈ BW := mw_of 652 (by decide +kernel) rfl
theorem mw_653 : (.code y_Mo_isAsked prog_11_method_22_code 2 (some .boolean) : Cond) ∈ BW := mw_of 653 (by decide +kernel) rfl
theorem mw_654 : (.methodLink "NearFinderModel" 114 y_Mo_sumBy : Cond) ∈ BW := mw_of 654 (by decide +kernel) rfl
theorem mw_656 : (.instanceMethod y_Mo_sumBy : Cond) ∈ BW := mw_of 656 (by decide +kernel) rfl
theorem mw_657 : (.code y_Mo_sumBy prog_11_method_21_code 12 (some .int) : Cond) ∈ BW := mw_of 657 (by decide +kernel) rfl
theorem mw_658 : (.methodLink "NearFinderModel" 83 y_Mo_counted : Cond) ∈ BW := mw_of 658 (by decide +kernel) rfl
theorem mw_660 : (.instanceMethod y_Mo_counted : Cond) ∈ BW := mw_of 660 (by decide +kernel) rfl
theorem mw_661 : (.code y_Mo_counted prog_11_method_16_code 6 (some .int) : Cond) ∈ BW := mw_of 661 (by decide +kernel) rfl
theorem mw_662 : (.methodLink "NearFinderModel" 72 y_Mo_lesser : Cond) ∈ BW := mw_of 662 (by decide +kernel) rfl
theorem mw_663 : (.static y_Mo_lesser : Cond) ∈ BW := mw_of 663 (by decide +kernel) rfl
theorem mw_664 : (.code y_Mo_lesser prog_11_method_11_code 2 (some .int) : Cond) ∈ BW := mw_of 664 (by decide +kernel) rfl
theorem mw_665 : (.methodLink "NearFinderModel" 80 y_Mo_beyond : Cond) ∈ BW := mw_of 665 (by decide +kernel) rfl
theorem mw_667 : (.instanceMethod y_Mo_beyond : Cond) ∈ BW := mw_of 667 (by decide +kernel) rfl
theorem mw_668 : (.code y_Mo_beyond prog_11_method_15_code 7 (some .int) : Cond) ∈ BW := mw_of 668 (by decide +kernel) rfl
theorem mw_669 : (.methodLink "NearFinderModel" 86 y_Mo_change : Cond) ∈ BW := mw_of 669 (by decide +kernel) rfl
theorem mw_671 : (.instanceMethod y_Mo_change : Cond) ∈ BW := mw_of 671 (by decide +kernel) rfl
theorem mw_672 : (.code y_Mo_change prog_11_method_14_code 6 (some .int) : Cond) ∈ BW := mw_of 672 (by decide +kernel) rfl
theorem mw_673 : (.constant "NearFinderModel" 76 (1000000 : Int32) : Cond) ∈ BW := mw_of 673 (by decide +kernel) rfl
theorem mw_674 : (.methodLink "NearFinderModel" 77 y_Mo_exchange : Cond) ∈ BW := mw_of 674 (by decide +kernel) rfl
theorem mw_676 : (.instanceMethod y_Mo_exchange : Cond) ∈ BW := mw_of 676 (by decide +kernel) rfl
theorem mw_677 : (.code y_Mo_exchange prog_11_method_13_code 3 (some .int) : Cond) ∈ BW := mw_of 677 (by decide +kernel) rfl
theorem mw_678 : (.methodLink "NearFinderModel" 68 y_Mo_sound : Cond) ∈ BW := mw_of 678 (by decide +kernel) rfl
theorem mw_679 : (.static y_Mo_sound : Cond) ∈ BW := mw_of 679 (by decide +kernel) rfl
theorem mw_680 : (.code y_Mo_sound prog_11_method_12_code 1 (some .int) : Cond) ∈ BW := mw_of 680 (by decide +kernel) rfl
theorem mw_681 : (.methodLink "NearFinderModel" 92 y_Mo_may : Cond) ∈ BW := mw_of 681 (by decide +kernel) rfl
theorem mw_683 : (.instanceMethod y_Mo_may : Cond) ∈ BW := mw_of 683 (by decide +kernel) rfl
theorem mw_684 : (.code y_Mo_may prog_11_method_17_code 4 (some .boolean) : Cond) ∈ BW := mw_of 684 (by decide +kernel) rfl
theorem mw_685 : (.methodLink "NearFinderModel" 96 y_Mo_cost : Cond) ∈ BW := mw_of 685 (by decide +kernel) rfl
theorem mw_687 : (.instanceMethod y_Mo_cost : Cond) ∈ BW := mw_of 687 (by decide +kernel) rfl
theorem mw_688 : (.code y_Mo_cost prog_11_method_19_code 3 (some .int) : Cond) ∈ BW := mw_of 688 (by decide +kernel) rfl
theorem mw_689 : (.methodLink "NearFinderModel" 99 y_Mo_turned : Cond) ∈ BW := mw_of 689 (by decide +kernel) rfl
theorem mw_690 : (.static y_Mo_turned : Cond) ∈ BW := mw_of 690 (by decide +kernel) rfl
theorem mw_691 : (.code y_Mo_turned prog_11_method_20_code 2 (some .int) : Cond) ∈ BW := mw_of 691 (by decide +kernel) rfl
theorem mw_692 : (.methodLink "NearFinderModel" 118 y_Mo_come : Cond) ∈ BW := mw_of 692 (by decide +kernel) rfl
theorem mw_694 : (.instanceMethod y_Mo_come : Cond) ∈ BW := mw_of 694 (by decide +kernel) rfl
theorem mw_695 : (.code y_Mo_come prog_11_method_24_code 6 none : Cond) ∈ BW := mw_of 695 (by decide +kernel) rfl
theorem mw_696 : (.methodLink "NearFinderModel" 105 y_Mo_isBefore : Cond) ∈ BW := mw_of 696 (by decide +kernel) rfl
theorem mw_698 : (.instanceMethod y_Mo_isBefore : Cond) ∈ BW := mw_of 698 (by decide +kernel) rfl
theorem mw_699 : (.code y_Mo_isBefore prog_11_method_23_code 5 (some .boolean) : Cond) ∈ BW := mw_of 699 (by decide +kernel) rfl
theorem mw_700 : (.methodLink "NearFinderLaw" 51 y_Mo_scan : Cond) ∈ BW := mw_of 700 (by decide +kernel) rfl
theorem mw_701 : (.instanceMethod y_Mo_scan : Cond) ∈ BW := mw_of 701 (by decide +kernel) rfl
theorem mw_702 : (.selects "NearFinderModel" y_Mo_scan y_Mo_scan : Cond) ∈ BW := mw_of 702 (by decide +kernel) rfl
theorem mw_703 : (.code y_Mo_scan prog_11_method_27_code 3 (some .int) : Cond) ∈ BW := mw_of 703 (by decide +kernel) rfl
theorem mw_704 : (.methodLink "NearFinderLaw" 56 y_Mo_worked : Cond) ∈ BW := mw_of 704 (by decide +kernel) rfl
theorem mw_705 : (.instanceMethod y_Mo_worked : Cond) ∈ BW := mw_of 705 (by decide +kernel) rfl
theorem mw_706 : (.selects "NearFinderModel" y_Mo_worked y_Mo_worked : Cond) ∈ BW := mw_of 706 (by decide +kernel) rfl
theorem mw_707 : (.code y_Mo_worked prog_11_method_28_code 1 (some .int) : Cond) ∈ BW := mw_of 707 (by decide +kernel) rfl
theorem mw_708 : (.methodLink "NearFinderLaw" 60 y_Mo_found : Cond) ∈ BW := mw_of 708 (by decide +kernel) rfl
theorem mw_709 : (.instanceMethod y_Mo_found : Cond) ∈ BW := mw_of 709 (by decide +kernel) rfl
theorem mw_710 : (.selects "NearFinderModel" y_Mo_found y_Mo_found : Cond) ∈ BW := mw_of 710 (by decide +kernel) rfl
theorem mw_711 : (.code y_Mo_found prog_11_method_29_code 2 (some .int) : Cond) ∈ BW := mw_of 711 (by decide +kernel) rfl
theorem mw_712 : (.methodLink "NearFinderLaw" 64 y_Mo_sum : Cond) ∈ BW := mw_of 712 (by decide +kernel) rfl
theorem mw_713 : (.instanceMethod y_Mo_sum : Cond) ∈ BW := mw_of 713 (by decide +kernel) rfl
theorem mw_714 : (.selects "NearFinderModel" y_Mo_sum y_Mo_sum : Cond) ∈ BW := mw_of 714 (by decide +kernel) rfl
theorem mw_715 : (.code y_Mo_sum prog_11_method_30_code 2 (some .int) : Cond) ∈ BW := mw_of 715 (by decide +kernel) rfl
theorem mw_716 : (.methodLink "NearFinderLaw" 68 y_Mo_sumOf : Cond) ∈ BW := mw_of 716 (by decide +kernel) rfl
theorem mw_717 : (.instanceMethod y_Mo_sumOf : Cond) ∈ BW := mw_of 717 (by decide +kernel) rfl
theorem mw_718 : (.selects "NearFinderModel" y_Mo_sumOf y_Mo_sumOf : Cond) ∈ BW := mw_of 718 (by decide +kernel) rfl
theorem mw_719 : (.code y_Mo_sumOf prog_11_method_31_code 2 (some .int) : Cond) ∈ BW := mw_of 719 (by decide +kernel) rfl
theorem mw_720 : (.methodLink "NearFinderLaw" 72 y_Mo_pair : Cond) ∈ BW := mw_of 720 (by decide +kernel) rfl
theorem mw_721 : (.instanceMethod y_Mo_pair : Cond) ∈ BW := mw_of 721 (by decide +kernel) rfl
theorem mw_722 : (.selects "NearFinderModel" y_Mo_pair y_Mo_pair : Cond) ∈ BW := mw_of 722 (by decide +kernel) rfl
theorem mw_723 : (.code y_Mo_pair prog_11_method_32_code 4 (some .int) : Cond) ∈ BW := mw_of 723 (by decide +kernel) rfl
theorem mw_724 : (.methodLink "NearFinderLaw" 77 y_Mo_changes : Cond) ∈ BW := mw_of 724 (by decide +kernel) rfl
theorem mw_725 : (.instanceMethod y_Mo_changes : Cond) ∈ BW := mw_of 725 (by decide +kernel) rfl
theorem mw_726 : (.selects "NearFinderModel" y_Mo_changes y_Mo_changes : Cond) ∈ BW := mw_of 726 (by decide +kernel) rfl
theorem mw_727 : (.code y_Mo_changes prog_11_method_33_code 4 (some .int) : Cond) ∈ BW := mw_of 727 (by decide +kernel) rfl
theorem mw_728 : (.methodLink "NearFinderLaw" 81 y_Mo_learned : Cond) ∈ BW := mw_of 728 (by decide +kernel) rfl
theorem mw_729 : (.instanceMethod y_Mo_learned : Cond) ∈ BW := mw_of 729 (by decide +kernel) rfl
theorem mw_730 : (.selects "NearFinderModel" y_Mo_learned y_Mo_learned : Cond) ∈ BW := mw_of 730 (by decide +kernel) rfl
theorem mw_731 : (.code y_Mo_learned prog_11_method_34_code 3 (some .int) : Cond) ∈ BW := mw_of 731 (by decide +kernel) rfl
theorem mw_732 : (.constant "NearFinderModel" 126 (100000 : Int32) : Cond) ∈ BW := mw_of 732 (by decide +kernel) rfl
theorem mw_733 : (.methodLink "NearFinderLaw" 86 y_Mo_drop : Cond) ∈ BW := mw_of 733 (by decide +kernel) rfl
theorem mw_734 : (.instanceMethod y_Mo_drop : Cond) ∈ BW := mw_of 734 (by decide +kernel) rfl
theorem mw_735 : (.selects "NearFinderModel" y_Mo_drop y_Mo_drop : Cond) ∈ BW := mw_of 735 (by decide +kernel) rfl
theorem mw_736 : (.code y_Mo_drop prog_11_method_35_code 4 (some .int) : Cond) ∈ BW := mw_of 736 (by decide +kernel) rfl
theorem mw_737 : (.methodLink "NearFinderLaw" 92 y_Mo_share : Cond) ∈ BW := mw_of 737 (by decide +kernel) rfl
theorem mw_738 : (.instanceMethod y_Mo_share : Cond) ∈ BW := mw_of 738 (by decide +kernel) rfl
theorem mw_739 : (.selects "NearFinderModel" y_Mo_share y_Mo_share : Cond) ∈ BW := mw_of 739 (by decide +kernel) rfl
theorem mw_740 : (.code y_Mo_share prog_11_method_36_code 3 (some .long) : Cond) ∈ BW := mw_of 740 (by decide +kernel) rfl
theorem mw_741 : (.constantLong "NearFinderModel" 127 (1000 : Int64) : Cond) ∈ BW := mw_of 741 (by decide +kernel) rfl
theorem mw_742 : (.methodLink "NearFinderLaw" 99 y_Mo_count : Cond) ∈ BW := mw_of 742 (by decide +kernel) rfl
theorem mw_743 : (.instanceMethod y_Mo_count : Cond) ∈ BW := mw_of 743 (by decide +kernel) rfl
theorem mw_744 : (.selects "NearFinderModel" y_Mo_count y_Mo_count : Cond) ∈ BW := mw_of 744 (by decide +kernel) rfl
theorem mw_745 : (.code y_Mo_count prog_11_method_37_code 4 (some .int) : Cond) ∈ BW := mw_of 745 (by decide +kernel) rfl
theorem mw_746 : (.arrayClass .long : Cond) ∈ BW := mw_of 746 (by decide +kernel) rfl
theorem i_Bk : ∀ w ∈ u_ws R_Bk T_Bk 6, w ∈ BW := by
  intro w hw
  obtain ⟨k, hk, rfl⟩ := List.mem_map.mp hw
  have hk := List.mem_range.mp hk
  match k, hk with
  | 0, _ => exact mw_86
  | 1, _ => exact mw_88
  | 2, _ => exact mw_90
  | 3, _ => exact mw_92
  | 4, _ => exact mw_94
  | 5, _ => exact mw_96
  | k + 6, h => exact absurd h (by omega)
theorem i_Bc : ∀ w ∈ u_ws R_Bc T_Bc 2, w ∈ BW := by
  intro w hw
  obtain ⟨k, hk, rfl⟩ := List.mem_map.mp hw
  have hk := List.mem_range.mp hk
  match k, hk with
  | 0, _ => exact mw_120
  | 1, _ => exact mw_122
  | k + 2, h => exact absurd h (by omega)
theorem i_Bn : ∀ w ∈ u_ws R_Bn T_Bn 2, w ∈ BW := by
  intro w hw
  obtain ⟨k, hk, rfl⟩ := List.mem_map.mp hw
  have hk := List.mem_range.mp hk
  match k, hk with
  | 0, _ => exact mw_133
  | 1, _ => exact mw_135
  | k + 2, h => exact absurd h (by omega)
theorem i_Hi : ∀ w ∈ u_ws R_Hi T_Hi 6, w ∈ BW := by
  intro w hw
  obtain ⟨k, hk, rfl⟩ := List.mem_map.mp hw
  have hk := List.mem_range.mp hk
  match k, hk with
  | 0, _ => exact mw_173
  | 1, _ => exact mw_175
  | 2, _ => exact mw_177
  | 3, _ => exact mw_179
  | 4, _ => exact mw_181
  | 5, _ => exact mw_183
  | k + 6, h => exact absurd h (by omega)
theorem i_Pa : ∀ w ∈ u_ws R_Pa T_Pa 4, w ∈ BW := by
  intro w hw
  obtain ⟨k, hk, rfl⟩ := List.mem_map.mp hw
  have hk := List.mem_range.mp hk
  match k, hk with
  | 0, _ => exact mw_149
  | 1, _ => exact mw_151
  | 2, _ => exact mw_153
  | 3, _ => exact mw_155
  | k + 4, h => exact absurd h (by omega)
theorem i_We : ∀ w ∈ u_ws R_We T_We 1, w ∈ BW := by
  intro w hw
  obtain ⟨k, hk, rfl⟩ := List.mem_map.mp hw
  have hk := List.mem_range.mp hk
  match k, hk with
  | 0, _ => exact mw_109
  | k + 1, h => exact absurd h (by omega)
theorem i_Wo : ∀ w ∈ u_ws R_Wo T_Wo 3, w ∈ BW := by
  intro w hw
  obtain ⟨k, hk, rfl⟩ := List.mem_map.mp hw
  have hk := List.mem_range.mp hk
  match k, hk with
  | 0, _ => exact mw_67
  | 1, _ => exact mw_69
  | 2, _ => exact mw_71
  | k + 3, h => exact absurd h (by omega)
theorem i_Nf : ∀ w ∈ u_ws R_Nf T_Nf 9, w ∈ BW := by
  intro w hw
  obtain ⟨k, hk, rfl⟩ := List.mem_map.mp hw
  have hk := List.mem_range.mp hk
  match k, hk with
  | 0, _ => exact mw_195
  | 1, _ => exact mw_197
  | 2, _ => exact mw_199
  | 3, _ => exact mw_201
  | 4, _ => exact mw_203
  | 5, _ => exact mw_205
  | 6, _ => exact mw_207
  | 7, _ => exact mw_209
  | 8, _ => exact mw_211
  | k + 9, h => exact absurd h (by omega)
theorem i_Mo : ∀ w ∈ u_ws R_Mo T_Mo 17, w ∈ BW := by
  intro w hw
  obtain ⟨k, hk, rfl⟩ := List.mem_map.mp hw
  have hk := List.mem_range.mp hk
  match k, hk with
  | 0, _ => exact mw_568
  | 1, _ => exact mw_570
  | 2, _ => exact mw_572
  | 3, _ => exact mw_574
  | 4, _ => exact mw_576
  | 5, _ => exact mw_578
  | 6, _ => exact mw_580
  | 7, _ => exact mw_582
  | 8, _ => exact mw_584
  | 9, _ => exact mw_586
  | 10, _ => exact mw_588
  | 11, _ => exact mw_590
  | 12, _ => exact mw_592
  | 13, _ => exact mw_594
  | 14, _ => exact mw_596
  | 15, _ => exact mw_598
  | 16, _ => exact mw_600
  | k + 17, h => exact absurd h (by omega)
theorem BW_good {ws : List Cond} (h : ∀ w ∈ ws, w ∈ BW) : GoodIn BW ws := fun w hw => ⟨h w hw, good_of_word (List.mem_filter.mp (h w hw)).2⟩
theorem BW_cons {c : Cond} (h : c ∈ BW) : GoodIn BW (c :: BW) := BW_good (fun w hw => by rcases List.mem_cons.mp hw with rfl | hw <;> assumption)
theorem g_V {own C : String} {idx : Nat} {y : MethodName} {c : Cond} (h1 : Cond.methodLink own idx y ∈ BW) (h2 : Cond.instanceMethod y ∈ BW) (h3 : Cond.selects C y y ∈ BW) (h4 : Cond.initialized C ∈ BW) (h5 : c ∈ BW) : GoodIn BW (wsV own idx C y (c :: BW)) := BW_good (fun w hw => by
  simp only [wsV, List.cons_append, List.nil_append, List.mem_cons] at hw
  rcases hw with rfl | rfl | rfl | rfl | rfl | hw <;> assumption)
theorem g_S {own : String} {idx : Nat} {y : MethodName} {c : Cond} (h1 : Cond.methodLink own idx y ∈ BW) (h2 : Cond.static y ∈ BW) (h4 : Cond.initialized y.cls ∈ BW) (h5 : c ∈ BW) : GoodIn BW (va_wsS own idx y (c :: BW)) := BW_good (fun w hw => by
  simp only [va_wsS, List.cons_append, List.nil_append, List.mem_cons] at hw
  rcases hw with rfl | rfl | rfl | rfl | hw <;> assumption)
theorem g_F {own C : String} {idx : Nat} {x y : MethodName} {c : Cond} (h1 : Cond.methodLink own idx x ∈ BW) (h2 : Cond.selects C x y ∈ BW) (h3 : Cond.instanceMethod y ∈ BW) (h4 : Cond.initialized y.cls ∈ BW) (h5 : c ∈ BW) : GoodIn BW (va_wsF own idx C x y (c :: BW)) := BW_good (fun w hw => by
  simp only [va_wsF, List.cons_append, List.nil_append, List.mem_cons] at hw
  rcases hw with rfl | rfl | rfl | rfl | rfl | hw <;> assumption)
end
section
theorem d_Nf_init_0 : decode b_Nf_init 0 = .ok (.aload_n 0, 1) := by decide +kernel
theorem d_Nf_init_1 : decode b_Nf_init 1 = .ok (.invokespecial 1, 3) := by decide +kernel
theorem d_Nf_init_4 : decode b_Nf_init 4 = .ok (.aload_n 0, 1) := by decide +kernel
theorem d_Nf_init_5 : decode b_Nf_init 5 = .ok (.new 7, 3) := by decide +kernel
theorem d_Nf_init_8 : decode b_Nf_init 8 = .ok (.dup, 1) := by decide +kernel
theorem d_Nf_init_9 : decode b_Nf_init 9 = .ok (.invokespecial 9, 3) := by decide +kernel
theorem d_Nf_init_12 : decode b_Nf_init 12 = .ok (.putfield 10, 3) := by decide +kernel
theorem d_Nf_init_15 : decode b_Nf_init 15 = .ok (.aload_n 0, 1) := by decide +kernel
theorem d_Nf_init_16 : decode b_Nf_init 16 = .ok (.new 16, 3) := by decide +kernel
theorem d_Nf_init_19 : decode b_Nf_init 19 = .ok (.dup, 1) := by decide +kernel
theorem d_Nf_init_20 : decode b_Nf_init 20 = .ok (.iconst 3, 1) := by decide +kernel
theorem d_Nf_init_21 : decode b_Nf_init 21 = .ok (.invokespecial 18, 3) := by decide +kernel
theorem d_Nf_init_24 : decode b_Nf_init 24 = .ok (.putfield 21, 3) := by decide +kernel
theorem d_Nf_init_27 : decode b_Nf_init 27 = .ok (.aload_n 0, 1) := by decide +kernel
theorem d_Nf_init_28 : decode b_Nf_init 28 = .ok (.new 25, 3) := by decide +kernel
theorem d_Nf_init_31 : decode b_Nf_init 31 = .ok (.dup, 1) := by decide +kernel
theorem d_Nf_init_32 : decode b_Nf_init 32 = .ok (.invokespecial 27, 3) := by decide +kernel
theorem d_Nf_init_35 : decode b_Nf_init 35 = .ok (.putfield 28, 3) := by decide +kernel
theorem d_Nf_init_38 : decode b_Nf_init 38 = .ok (.aload_n 0, 1) := by decide +kernel
theorem d_Nf_init_39 : decode b_Nf_init 39 = .ok (.new 32, 3) := by decide +kernel
theorem d_Nf_init_42 : decode b_Nf_init 42 = .ok (.dup, 1) := by decide +kernel
theorem d_Nf_init_43 : decode b_Nf_init 43 = .ok (.aload_n 0, 1) := by decide +kernel
theorem d_Nf_init_44 : decode b_Nf_init 44 = .ok (.getfield 28, 3) := by decide +kernel
theorem d_Nf_init_47 : decode b_Nf_init 47 = .ok (.invokespecial 34, 3) := by decide +kernel
theorem d_Nf_init_50 : decode b_Nf_init 50 = .ok (.putfield 37, 3) := by decide +kernel
theorem d_Nf_init_53 : decode b_Nf_init 53 = .ok (.aload_n 0, 1) := by decide +kernel
theorem d_Nf_init_54 : decode b_Nf_init 54 = .ok (.new 41, 3) := by decide +kernel
theorem d_Nf_init_57 : decode b_Nf_init 57 = .ok (.dup, 1) := by decide +kernel
theorem d_Nf_init_58 : decode b_Nf_init 58 = .ok (.aload_n 0, 1) := by decide +kernel
theorem d_Nf_init_59 : decode b_Nf_init 59 = .ok (.getfield 28, 3) := by decide +kernel
theorem d_Nf_init_62 : decode b_Nf_init 62 = .ok (.invokespecial 43, 3) := by decide +kernel
theorem d_Nf_init_65 : decode b_Nf_init 65 = .ok (.putfield 44, 3) := by decide +kernel
theorem d_Nf_init_68 : decode b_Nf_init 68 = .ok (.aload_n 0, 1) := by decide +kernel
theorem d_Nf_init_69 : decode b_Nf_init 69 = .ok (.new 47, 3) := by decide +kernel
theorem d_Nf_init_72 : decode b_Nf_init 72 = .ok (.dup, 1) := by decide +kernel
theorem d_Nf_init_73 : decode b_Nf_init 73 = .ok (.aload_n 0, 1) := by decide +kernel
theorem d_Nf_init_74 : decode b_Nf_init 74 = .ok (.getfield 28, 3) := by decide +kernel
theorem d_Nf_init_77 : decode b_Nf_init 77 = .ok (.invokespecial 49, 3) := by decide +kernel
theorem d_Nf_init_80 : decode b_Nf_init 80 = .ok (.putfield 50, 3) := by decide +kernel
theorem d_Nf_init_83 : decode b_Nf_init 83 = .ok (.aload_n 0, 1) := by decide +kernel
theorem d_Nf_init_84 : decode b_Nf_init 84 = .ok (.new 54, 3) := by decide +kernel
theorem d_Nf_init_87 : decode b_Nf_init 87 = .ok (.dup, 1) := by decide +kernel
theorem d_Nf_init_88 : decode b_Nf_init 88 = .ok (.invokespecial 56, 3) := by decide +kernel
theorem d_Nf_init_91 : decode b_Nf_init 91 = .ok (.putfield 57, 3) := by decide +kernel
theorem d_Nf_init_94 : decode b_Nf_init 94 = .ok (.aload_n 0, 1) := by decide +kernel
theorem d_Nf_init_95 : decode b_Nf_init 95 = .ok (.iconst (-1), 1) := by decide +kernel
theorem d_Nf_init_96 : decode b_Nf_init 96 = .ok (.putfield 61, 3) := by decide +kernel
theorem d_Nf_init_99 : decode b_Nf_init 99 = .ok (.aload_n 0, 1) := by decide +kernel
theorem d_Nf_init_100 : decode b_Nf_init 100 = .ok (.iconst 0, 1) := by decide +kernel
theorem d_Nf_init_101 : decode b_Nf_init 101 = .ok (.putfield 65, 3) := by decide +kernel
theorem d_Nf_init_104 : decode b_Nf_init 104 = .ok (.return_, 1) := by decide +kernel
theorem d_Nf_entry_0 : decode b_Nf_entry 0 = .ok (.iload_n 1, 1) := by decide +kernel
theorem d_Nf_entry_1 : decode b_Nf_entry 1 = .ok (.invokestatic 68, 3) := by decide +kernel
theorem d_Nf_entry_4 : decode b_Nf_entry 4 = .ok (.ifCond .eq 13, 3) := by decide +kernel
theorem d_Nf_entry_7 : decode b_Nf_entry 7 = .ok (.aload_n 0, 1) := by decide +kernel
theorem d_Nf_entry_8 : decode b_Nf_entry 8 = .ok (.getfield 10, 3) := by decide +kernel
theorem d_Nf_entry_11 : decode b_Nf_entry 11 = .ok (.invokevirtual 72, 3) := by decide +kernel
theorem d_Nf_entry_14 : decode b_Nf_entry 14 = .ok (.ifCond .eq 5, 3) := by decide +kernel
theorem d_Nf_entry_17 : decode b_Nf_entry 17 = .ok (.iconst (-1), 1) := by decide +kernel
theorem d_Nf_entry_18 : decode b_Nf_entry 18 = .ok (.ireturn, 1) := by decide +kernel
theorem d_Nf_entry_19 : decode b_Nf_entry 19 = .ok (.aload_n 0, 1) := by decide +kernel
theorem d_Nf_entry_20 : decode b_Nf_entry 20 = .ok (.getfield 10, 3) := by decide +kernel
theorem d_Nf_entry_23 : decode b_Nf_entry 23 = .ok (.iload_n 1, 1) := by decide +kernel
theorem d_Nf_entry_24 : decode b_Nf_entry 24 = .ok (.invokevirtual 76, 3) := by decide +kernel
theorem d_Nf_entry_27 : decode b_Nf_entry 27 = .ok (.ireturn, 1) := by decide +kernel
theorem d_Nf_letter_0 : decode b_Nf_letter 0 = .ok (.aload_n 0, 1) := by decide +kernel
theorem d_Nf_letter_1 : decode b_Nf_letter 1 = .ok (.getfield 10, 3) := by decide +kernel
theorem d_Nf_letter_4 : decode b_Nf_letter 4 = .ok (.iload_n 1, 1) := by decide +kernel
theorem d_Nf_letter_5 : decode b_Nf_letter 5 = .ok (.invokevirtual 80, 3) := by decide +kernel
theorem d_Nf_letter_8 : decode b_Nf_letter 8 = .ok (.ifCond .eq 17, 3) := by decide +kernel
theorem d_Nf_letter_11 : decode b_Nf_letter 11 = .ok (.iload_n 2, 1) := by decide +kernel
theorem d_Nf_letter_12 : decode b_Nf_letter 12 = .ok (.invokestatic 83, 3) := by decide +kernel
theorem d_Nf_letter_15 : decode b_Nf_letter 15 = .ok (.ifCond .eq 10, 3) := by decide +kernel
theorem d_Nf_letter_18 : decode b_Nf_letter 18 = .ok (.iload_n 3, 1) := by decide +kernel
theorem d_Nf_letter_19 : decode b_Nf_letter 19 = .ok (.invokestatic 86, 3) := by decide +kernel
theorem d_Nf_letter_22 : decode b_Nf_letter 22 = .ok (.ifCond .ne 5, 3) := by decide +kernel
theorem d_Nf_letter_25 : decode b_Nf_letter 25 = .ok (.iconst 0, 1) := by decide +kernel
theorem d_Nf_letter_26 : decode b_Nf_letter 26 = .ok (.ireturn, 1) := by decide +kernel
theorem d_Nf_letter_27 : decode b_Nf_letter 27 = .ok (.aload_n 0, 1) := by decide +kernel
theorem d_Nf_letter_28 : decode b_Nf_letter 28 = .ok (.getfield 10, 3) := by decide +kernel
theorem d_Nf_letter_31 : decode b_Nf_letter 31 = .ok (.getfield 89, 3) := by decide +kernel
theorem d_Nf_letter_34 : decode b_Nf_letter 34 = .ok (.iload_n 1, 1) := by decide +kernel
theorem d_Nf_letter_35 : decode b_Nf_letter 35 = .ok (.iload_n 2, 1) := by decide +kernel
theorem d_Nf_letter_36 : decode b_Nf_letter 36 = .ok (.invokestatic 92, 3) := by decide +kernel
theorem d_Nf_letter_39 : decode b_Nf_letter 39 = .ok (.iload_n 3, 1) := by decide +kernel
theorem d_Nf_letter_40 : decode b_Nf_letter 40 = .ok (.invokevirtual 96, 3) := by decide +kernel
theorem d_Nf_letter_43 : decode b_Nf_letter 43 = .ok (.ireturn, 1) := by decide +kernel
theorem d_Nf_ask_0 : decode b_Nf_ask 0 = .ok (.iload_n 1, 1) := by decide +kernel
theorem d_Nf_ask_1 : decode b_Nf_ask 1 = .ok (.invokestatic 83, 3) := by decide +kernel
theorem d_Nf_ask_4 : decode b_Nf_ask 4 = .ok (.ifCond .eq 10, 3) := by decide +kernel
theorem d_Nf_ask_7 : decode b_Nf_ask 7 = .ok (.iload_n 2, 1) := by decide +kernel
theorem d_Nf_ask_8 : decode b_Nf_ask 8 = .ok (.invokestatic 86, 3) := by decide +kernel
theorem d_Nf_ask_11 : decode b_Nf_ask 11 = .ok (.ifCond .ne 5, 3) := by decide +kernel
theorem d_Nf_ask_14 : decode b_Nf_ask 14 = .ok (.iconst 0, 1) := by decide +kernel
theorem d_Nf_ask_15 : decode b_Nf_ask 15 = .ok (.ireturn, 1) := by decide +kernel
theorem d_Nf_ask_16 : decode b_Nf_ask 16 = .ok (.aload_n 0, 1) := by decide +kernel
theorem d_Nf_ask_17 : decode b_Nf_ask 17 = .ok (.getfield 21, 3) := by decide +kernel
theorem d_Nf_ask_20 : decode b_Nf_ask 20 = .ok (.iload_n 1, 1) := by decide +kernel
theorem d_Nf_ask_21 : decode b_Nf_ask 21 = .ok (.iload_n 2, 1) := by decide +kernel
theorem d_Nf_ask_22 : decode b_Nf_ask 22 = .ok (.invokevirtual 96, 3) := by decide +kernel
theorem d_Nf_ask_25 : decode b_Nf_ask 25 = .ok (.ireturn, 1) := by decide +kernel
theorem d_Nf_asked_0 : decode b_Nf_asked 0 = .ok (.iload_n 1, 1) := by decide +kernel
theorem d_Nf_asked_1 : decode b_Nf_asked 1 = .ok (.iconst (-1), 1) := by decide +kernel
theorem d_Nf_asked_2 : decode b_Nf_asked 2 = .ok (.if_icmp .eq 12, 3) := by decide +kernel
theorem d_Nf_asked_5 : decode b_Nf_asked 5 = .ok (.iload_n 1, 1) := by decide +kernel
theorem d_Nf_asked_6 : decode b_Nf_asked 6 = .ok (.invokestatic 68, 3) := by decide +kernel
theorem d_Nf_asked_9 : decode b_Nf_asked 9 = .ok (.ifCond .ne 5, 3) := by decide +kernel
theorem d_Nf_asked_12 : decode b_Nf_asked 12 = .ok (.iconst 0, 1) := by decide +kernel
theorem d_Nf_asked_13 : decode b_Nf_asked 13 = .ok (.ireturn, 1) := by decide +kernel
theorem d_Nf_asked_14 : decode b_Nf_asked 14 = .ok (.aload_n 0, 1) := by decide +kernel
theorem d_Nf_asked_15 : decode b_Nf_asked 15 = .ok (.getfield 21, 3) := by decide +kernel
theorem d_Nf_asked_18 : decode b_Nf_asked 18 = .ok (.invokevirtual 100, 3) := by decide +kernel
theorem d_Nf_asked_21 : decode b_Nf_asked 21 = .ok (.aload_n 0, 1) := by decide +kernel
theorem d_Nf_asked_22 : decode b_Nf_asked 22 = .ok (.iload_n 1, 1) := by decide +kernel
theorem d_Nf_asked_23 : decode b_Nf_asked 23 = .ok (.putfield 61, 3) := by decide +kernel
theorem d_Nf_asked_26 : decode b_Nf_asked 26 = .ok (.iconst 1, 1) := by decide +kernel
theorem d_Nf_asked_27 : decode b_Nf_asked 27 = .ok (.ireturn, 1) := by decide +kernel
theorem d_Nf_weight_0 : decode b_Nf_weight 0 = .ok (.iload_n 1, 1) := by decide +kernel
theorem d_Nf_weight_1 : decode b_Nf_weight 1 = .ok (.invokestatic 103, 3) := by decide +kernel
theorem d_Nf_weight_4 : decode b_Nf_weight 4 = .ok (.ifCond .eq 10, 3) := by decide +kernel
theorem d_Nf_weight_7 : decode b_Nf_weight 7 = .ok (.iload_n 2, 1) := by decide +kernel
theorem d_Nf_weight_8 : decode b_Nf_weight 8 = .ok (.invokestatic 106, 3) := by decide +kernel
theorem d_Nf_weight_11 : decode b_Nf_weight 11 = .ok (.ifCond .ne 5, 3) := by decide +kernel
theorem d_Nf_weight_14 : decode b_Nf_weight 14 = .ok (.iconst (-1), 1) := by decide +kernel
theorem d_Nf_weight_15 : decode b_Nf_weight 15 = .ok (.ireturn, 1) := by decide +kernel
theorem d_Nf_weight_16 : decode b_Nf_weight 16 = .ok (.aload_n 0, 1) := by decide +kernel
theorem d_Nf_weight_17 : decode b_Nf_weight 17 = .ok (.getfield 28, 3) := by decide +kernel
theorem d_Nf_weight_20 : decode b_Nf_weight 20 = .ok (.iload_n 1, 1) := by decide +kernel
theorem d_Nf_weight_21 : decode b_Nf_weight 21 = .ok (.iload_n 2, 1) := by decide +kernel
theorem d_Nf_weight_22 : decode b_Nf_weight 22 = .ok (.invokevirtual 109, 3) := by decide +kernel
theorem d_Nf_weight_25 : decode b_Nf_weight 25 = .ok (.ireturn, 1) := by decide +kernel
theorem d_Nf_find_0 : decode b_Nf_find 0 = .ok (.aload_n 0, 1) := by decide +kernel
theorem d_Nf_find_1 : decode b_Nf_find 1 = .ok (.iload_n 1, 1) := by decide +kernel
theorem d_Nf_find_2 : decode b_Nf_find 2 = .ok (.iload_n 2, 1) := by decide +kernel
theorem d_Nf_find_3 : decode b_Nf_find 3 = .ok (.iconst 1, 1) := by decide +kernel
theorem d_Nf_find_4 : decode b_Nf_find 4 = .ok (.invokevirtual 112, 3) := by decide +kernel
theorem d_Nf_find_7 : decode b_Nf_find 7 = .ok (.ireturn, 1) := by decide +kernel
theorem d_Nf_scan_0 : decode b_Nf_scan 0 = .ok (.aload_n 0, 1) := by decide +kernel
theorem d_Nf_scan_1 : decode b_Nf_scan 1 = .ok (.iload_n 1, 1) := by decide +kernel
theorem d_Nf_scan_2 : decode b_Nf_scan 2 = .ok (.iload_n 2, 1) := by decide +kernel
theorem d_Nf_scan_3 : decode b_Nf_scan 3 = .ok (.iconst 0, 1) := by decide +kernel
theorem d_Nf_scan_4 : decode b_Nf_scan 4 = .ok (.invokevirtual 112, 3) := by decide +kernel
theorem d_Nf_scan_7 : decode b_Nf_scan 7 = .ok (.ireturn, 1) := by decide +kernel
theorem d_Nf_worked_0 : decode b_Nf_worked 0 = .ok (.aload_n 0, 1) := by decide +kernel
theorem d_Nf_worked_1 : decode b_Nf_worked 1 = .ok (.getfield 65, 3) := by decide +kernel
theorem d_Nf_worked_4 : decode b_Nf_worked 4 = .ok (.ireturn, 1) := by decide +kernel
theorem d_Nf_found_0 : decode b_Nf_found 0 = .ok (.aload_n 0, 1) := by decide +kernel
theorem d_Nf_found_1 : decode b_Nf_found 1 = .ok (.getfield 57, 3) := by decide +kernel
theorem d_Nf_found_4 : decode b_Nf_found 4 = .ok (.iload_n 1, 1) := by decide +kernel
theorem d_Nf_found_5 : decode b_Nf_found 5 = .ok (.invokevirtual 116, 3) := by decide +kernel
theorem d_Nf_found_8 : decode b_Nf_found 8 = .ok (.ifCond .eq 15, 3) := by decide +kernel
theorem d_Nf_found_11 : decode b_Nf_found 11 = .ok (.aload_n 0, 1) := by decide +kernel
theorem d_Nf_found_12 : decode b_Nf_found 12 = .ok (.getfield 57, 3) := by decide +kernel
theorem d_Nf_found_15 : decode b_Nf_found 15 = .ok (.getfield 117, 3) := by decide +kernel
theorem d_Nf_found_18 : decode b_Nf_found 18 = .ok (.iload_n 1, 1) := by decide +kernel
theorem d_Nf_found_19 : decode b_Nf_found 19 = .ok (.iaload, 1) := by decide +kernel
theorem d_Nf_found_20 : decode b_Nf_found 20 = .ok (.goto 4, 3) := by decide +kernel
theorem d_Nf_found_23 : decode b_Nf_found 23 = .ok (.iconst (-1), 1) := by decide +kernel
theorem d_Nf_found_24 : decode b_Nf_found 24 = .ok (.ireturn, 1) := by decide +kernel
theorem d_Nf_sum_0 : decode b_Nf_sum 0 = .ok (.aload_n 0, 1) := by decide +kernel
theorem d_Nf_sum_1 : decode b_Nf_sum 1 = .ok (.getfield 57, 3) := by decide +kernel
theorem d_Nf_sum_4 : decode b_Nf_sum 4 = .ok (.iload_n 1, 1) := by decide +kernel
theorem d_Nf_sum_5 : decode b_Nf_sum 5 = .ok (.invokevirtual 116, 3) := by decide +kernel
theorem d_Nf_sum_8 : decode b_Nf_sum 8 = .ok (.ifCond .eq 15, 3) := by decide +kernel
theorem d_Nf_sum_11 : decode b_Nf_sum 11 = .ok (.aload_n 0, 1) := by decide +kernel
theorem d_Nf_sum_12 : decode b_Nf_sum 12 = .ok (.getfield 57, 3) := by decide +kernel
theorem d_Nf_sum_15 : decode b_Nf_sum 15 = .ok (.getfield 121, 3) := by decide +kernel
theorem d_Nf_sum_18 : decode b_Nf_sum 18 = .ok (.iload_n 1, 1) := by decide +kernel
theorem d_Nf_sum_19 : decode b_Nf_sum 19 = .ok (.iaload, 1) := by decide +kernel
theorem d_Nf_sum_20 : decode b_Nf_sum 20 = .ok (.goto 4, 3) := by decide +kernel
theorem d_Nf_sum_23 : decode b_Nf_sum 23 = .ok (.iconst (-1), 1) := by decide +kernel
theorem d_Nf_sum_24 : decode b_Nf_sum 24 = .ok (.ireturn, 1) := by decide +kernel
theorem d_Nf_sumOf_0 : decode b_Nf_sumOf 0 = .ok (.aload_n 0, 1) := by decide +kernel
theorem d_Nf_sumOf_1 : decode b_Nf_sumOf 1 = .ok (.getfield 10, 3) := by decide +kernel
theorem d_Nf_sumOf_4 : decode b_Nf_sumOf 4 = .ok (.iload_n 1, 1) := by decide +kernel
theorem d_Nf_sumOf_5 : decode b_Nf_sumOf 5 = .ok (.invokevirtual 80, 3) := by decide +kernel
theorem d_Nf_sumOf_8 : decode b_Nf_sumOf 8 = .ok (.ifCond .eq 15, 3) := by decide +kernel
theorem d_Nf_sumOf_11 : decode b_Nf_sumOf 11 = .ok (.aload_n 0, 1) := by decide +kernel
theorem d_Nf_sumOf_12 : decode b_Nf_sumOf 12 = .ok (.iload_n 1, 1) := by decide +kernel
theorem d_Nf_sumOf_13 : decode b_Nf_sumOf 13 = .ok (.aload_n 0, 1) := by decide +kernel
theorem d_Nf_sumOf_14 : decode b_Nf_sumOf 14 = .ok (.getfield 37, 3) := by decide +kernel
theorem d_Nf_sumOf_17 : decode b_Nf_sumOf 17 = .ok (.invokevirtual 124, 3) := by decide +kernel
theorem d_Nf_sumOf_20 : decode b_Nf_sumOf 20 = .ok (.goto 4, 3) := by decide +kernel
theorem d_Nf_sumOf_23 : decode b_Nf_sumOf 23 = .ok (.iconst (-1), 1) := by decide +kernel
theorem d_Nf_sumOf_24 : decode b_Nf_sumOf 24 = .ok (.ireturn, 1) := by decide +kernel
theorem d_Nf_pair_0 : decode b_Nf_pair 0 = .ok (.aload_n 0, 1) := by decide +kernel
theorem d_Nf_pair_1 : decode b_Nf_pair 1 = .ok (.getfield 10, 3) := by decide +kernel
theorem d_Nf_pair_4 : decode b_Nf_pair 4 = .ok (.iload_n 1, 1) := by decide +kernel
theorem d_Nf_pair_5 : decode b_Nf_pair 5 = .ok (.invokevirtual 80, 3) := by decide +kernel
theorem d_Nf_pair_8 : decode b_Nf_pair 8 = .ok (.ifCond .eq 10, 3) := by decide +kernel
theorem d_Nf_pair_11 : decode b_Nf_pair 11 = .ok (.iload_n 2, 1) := by decide +kernel
theorem d_Nf_pair_12 : decode b_Nf_pair 12 = .ok (.invokestatic 83, 3) := by decide +kernel
theorem d_Nf_pair_15 : decode b_Nf_pair 15 = .ok (.ifCond .ne 5, 3) := by decide +kernel
theorem d_Nf_pair_18 : decode b_Nf_pair 18 = .ok (.iconst (-1), 1) := by decide +kernel
theorem d_Nf_pair_19 : decode b_Nf_pair 19 = .ok (.ireturn, 1) := by decide +kernel
theorem d_Nf_pair_20 : decode b_Nf_pair 20 = .ok (.aload_n 0, 1) := by decide +kernel
theorem d_Nf_pair_21 : decode b_Nf_pair 21 = .ok (.iload_n 1, 1) := by decide +kernel
theorem d_Nf_pair_22 : decode b_Nf_pair 22 = .ok (.aload_n 0, 1) := by decide +kernel
theorem d_Nf_pair_23 : decode b_Nf_pair 23 = .ok (.getfield 37, 3) := by decide +kernel
theorem d_Nf_pair_26 : decode b_Nf_pair 26 = .ok (.invokevirtual 124, 3) := by decide +kernel
theorem d_Nf_pair_29 : decode b_Nf_pair 29 = .ok (.pop, 1) := by decide +kernel
theorem d_Nf_pair_30 : decode b_Nf_pair 30 = .ok (.aload_n 0, 1) := by decide +kernel
theorem d_Nf_pair_31 : decode b_Nf_pair 31 = .ok (.getfield 50, 3) := by decide +kernel
theorem d_Nf_pair_34 : decode b_Nf_pair 34 = .ok (.getfield 128, 3) := by decide +kernel
theorem d_Nf_pair_37 : decode b_Nf_pair 37 = .ok (.iload_n 2, 1) := by decide +kernel
theorem d_Nf_pair_38 : decode b_Nf_pair 38 = .ok (.invokestatic 131, 3) := by decide +kernel
theorem d_Nf_pair_41 : decode b_Nf_pair 41 = .ok (.ireturn, 1) := by decide +kernel
theorem d_Nf_changes_0 : decode b_Nf_changes 0 = .ok (.iload_n 1, 1) := by decide +kernel
theorem d_Nf_changes_1 : decode b_Nf_changes 1 = .ok (.invokestatic 83, 3) := by decide +kernel
theorem d_Nf_changes_4 : decode b_Nf_changes 4 = .ok (.ifCond .eq 21, 3) := by decide +kernel
theorem d_Nf_changes_7 : decode b_Nf_changes 7 = .ok (.aload_n 0, 1) := by decide +kernel
theorem d_Nf_changes_8 : decode b_Nf_changes 8 = .ok (.getfield 10, 3) := by decide +kernel
theorem d_Nf_changes_11 : decode b_Nf_changes 11 = .ok (.iload_n 2, 1) := by decide +kernel
theorem d_Nf_changes_12 : decode b_Nf_changes 12 = .ok (.invokevirtual 80, 3) := by decide +kernel
theorem d_Nf_changes_15 : decode b_Nf_changes 15 = .ok (.ifCond .eq 10, 3) := by decide +kernel
theorem d_Nf_changes_18 : decode b_Nf_changes 18 = .ok (.iload_n 3, 1) := by decide +kernel
theorem d_Nf_changes_19 : decode b_Nf_changes 19 = .ok (.invokestatic 83, 3) := by decide +kernel
theorem d_Nf_changes_22 : decode b_Nf_changes 22 = .ok (.ifCond .ne 5, 3) := by decide +kernel
theorem d_Nf_changes_25 : decode b_Nf_changes 25 = .ok (.iconst (-1), 1) := by decide +kernel
theorem d_Nf_changes_26 : decode b_Nf_changes 26 = .ok (.ireturn, 1) := by decide +kernel
theorem d_Nf_changes_27 : decode b_Nf_changes 27 = .ok (.iload_n 2, 1) := by decide +kernel
theorem d_Nf_changes_28 : decode b_Nf_changes 28 = .ok (.iload_n 3, 1) := by decide +kernel
theorem d_Nf_changes_29 : decode b_Nf_changes 29 = .ok (.invokestatic 92, 3) := by decide +kernel
theorem d_Nf_changes_32 : decode b_Nf_changes 32 = .ok (.istore 4, 2) := by decide +kernel
theorem d_Nf_changes_34 : decode b_Nf_changes 34 = .ok (.aload_n 0, 1) := by decide +kernel
theorem d_Nf_changes_35 : decode b_Nf_changes 35 = .ok (.getfield 21, 3) := by decide +kernel
theorem d_Nf_changes_38 : decode b_Nf_changes 38 = .ok (.iload_n 1, 1) := by decide +kernel
theorem d_Nf_changes_39 : decode b_Nf_changes 39 = .ok (.invokevirtual 134, 3) := by decide +kernel
theorem d_Nf_changes_42 : decode b_Nf_changes 42 = .ok (.ifCond .ne 18, 3) := by decide +kernel
theorem d_Nf_changes_45 : decode b_Nf_changes 45 = .ok (.aload_n 0, 1) := by decide +kernel
theorem d_Nf_changes_46 : decode b_Nf_changes 46 = .ok (.getfield 10, 3) := by decide +kernel
theorem d_Nf_changes_49 : decode b_Nf_changes 49 = .ok (.getfield 89, 3) := by decide +kernel
theorem d_Nf_changes_52 : decode b_Nf_changes 52 = .ok (.iload 4, 2) := by decide +kernel
theorem d_Nf_changes_54 : decode b_Nf_changes 54 = .ok (.invokevirtual 134, 3) := by decide +kernel
theorem d_Nf_changes_57 : decode b_Nf_changes 57 = .ok (.ifCond .eq 5, 3) := by decide +kernel
theorem d_Nf_changes_60 : decode b_Nf_changes 60 = .ok (.iconst (-1), 1) := by decide +kernel
theorem d_Nf_changes_61 : decode b_Nf_changes 61 = .ok (.ireturn, 1) := by decide +kernel
theorem d_Nf_changes_62 : decode b_Nf_changes 62 = .ok (.aload_n 0, 1) := by decide +kernel
theorem d_Nf_changes_63 : decode b_Nf_changes 63 = .ok (.getfield 37, 3) := by decide +kernel
theorem d_Nf_changes_66 : decode b_Nf_changes 66 = .ok (.aload_n 0, 1) := by decide +kernel
theorem d_Nf_changes_67 : decode b_Nf_changes 67 = .ok (.getfield 21, 3) := by decide +kernel
theorem d_Nf_changes_70 : decode b_Nf_changes 70 = .ok (.iload_n 1, 1) := by decide +kernel
theorem d_Nf_changes_71 : decode b_Nf_changes 71 = .ok (.aload_n 0, 1) := by decide +kernel
theorem d_Nf_changes_72 : decode b_Nf_changes 72 = .ok (.getfield 10, 3) := by decide +kernel
theorem d_Nf_changes_75 : decode b_Nf_changes 75 = .ok (.getfield 89, 3) := by decide +kernel
theorem d_Nf_changes_78 : decode b_Nf_changes 78 = .ok (.iload 4, 2) := by decide +kernel
theorem d_Nf_changes_80 : decode b_Nf_changes 80 = .ok (.invokeinterface 137 5, 5) := by decide +kernel
theorem d_Nf_changes_85 : decode b_Nf_changes 85 = .ok (.ireturn, 1) := by decide +kernel
theorem d_Nf_learned_0 : decode b_Nf_learned 0 = .ok (.aload_n 0, 1) := by decide +kernel
theorem d_Nf_learned_1 : decode b_Nf_learned 1 = .ok (.getfield 10, 3) := by decide +kernel
theorem d_Nf_learned_4 : decode b_Nf_learned 4 = .ok (.iload_n 1, 1) := by decide +kernel
theorem d_Nf_learned_5 : decode b_Nf_learned 5 = .ok (.invokevirtual 80, 3) := by decide +kernel
theorem d_Nf_learned_8 : decode b_Nf_learned 8 = .ok (.ifCond .eq 13, 3) := by decide +kernel
theorem d_Nf_learned_11 : decode b_Nf_learned 11 = .ok (.iload_n 2, 1) := by decide +kernel
theorem d_Nf_learned_12 : decode b_Nf_learned 12 = .ok (.ifCond .lt 9, 3) := by decide +kernel
theorem d_Nf_learned_15 : decode b_Nf_learned 15 = .ok (.iload_n 2, 1) := by decide +kernel
theorem d_Nf_learned_16 : decode b_Nf_learned 16 = .ok (.ldc 143, 2) := by decide +kernel
theorem d_Nf_learned_18 : decode b_Nf_learned 18 = .ok (.if_icmp .le 5, 3) := by decide +kernel
theorem d_Nf_learned_21 : decode b_Nf_learned 21 = .ok (.iconst (-1), 1) := by decide +kernel
theorem d_Nf_learned_22 : decode b_Nf_learned 22 = .ok (.ireturn, 1) := by decide +kernel
theorem d_Nf_learned_23 : decode b_Nf_learned 23 = .ok (.aload_n 0, 1) := by decide +kernel
theorem d_Nf_learned_24 : decode b_Nf_learned 24 = .ok (.getfield 10, 3) := by decide +kernel
theorem d_Nf_learned_27 : decode b_Nf_learned 27 = .ok (.iload_n 1, 1) := by decide +kernel
theorem d_Nf_learned_28 : decode b_Nf_learned 28 = .ok (.iload_n 2, 1) := by decide +kernel
theorem d_Nf_learned_29 : decode b_Nf_learned 29 = .ok (.invokevirtual 144, 3) := by decide +kernel
theorem d_Nf_learned_32 : decode b_Nf_learned 32 = .ok (.ireturn, 1) := by decide +kernel
theorem d_Nf_drop_0 : decode b_Nf_drop 0 = .ok (.aload_n 0, 1) := by decide +kernel
theorem d_Nf_drop_1 : decode b_Nf_drop 1 = .ok (.getfield 10, 3) := by decide +kernel
theorem d_Nf_drop_4 : decode b_Nf_drop 4 = .ok (.iload_n 1, 1) := by decide +kernel
theorem d_Nf_drop_5 : decode b_Nf_drop 5 = .ok (.invokevirtual 80, 3) := by decide +kernel
theorem d_Nf_drop_8 : decode b_Nf_drop 8 = .ok (.ifCond .ne 5, 3) := by decide +kernel
theorem d_Nf_drop_11 : decode b_Nf_drop 11 = .ok (.iconst (-1), 1) := by decide +kernel
theorem d_Nf_drop_12 : decode b_Nf_drop 12 = .ok (.ireturn, 1) := by decide +kernel
theorem d_Nf_drop_13 : decode b_Nf_drop 13 = .ok (.aload_n 0, 1) := by decide +kernel
theorem d_Nf_drop_14 : decode b_Nf_drop 14 = .ok (.getfield 10, 3) := by decide +kernel
theorem d_Nf_drop_17 : decode b_Nf_drop 17 = .ok (.getfield 147, 3) := by decide +kernel
theorem d_Nf_drop_20 : decode b_Nf_drop 20 = .ok (.iload_n 1, 1) := by decide +kernel
theorem d_Nf_drop_21 : decode b_Nf_drop 21 = .ok (.baload, 1) := by decide +kernel
theorem d_Nf_drop_22 : decode b_Nf_drop 22 = .ok (.ifCond .eq 7, 3) := by decide +kernel
theorem d_Nf_drop_25 : decode b_Nf_drop 25 = .ok (.iconst 1, 1) := by decide +kernel
theorem d_Nf_drop_26 : decode b_Nf_drop 26 = .ok (.goto 4, 3) := by decide +kernel
theorem d_Nf_drop_29 : decode b_Nf_drop 29 = .ok (.iconst 0, 1) := by decide +kernel
theorem d_Nf_drop_30 : decode b_Nf_drop 30 = .ok (.istore_n 3, 1) := by decide +kernel
theorem d_Nf_drop_31 : decode b_Nf_drop 31 = .ok (.aload_n 0, 1) := by decide +kernel
theorem d_Nf_drop_32 : decode b_Nf_drop 32 = .ok (.getfield 10, 3) := by decide +kernel
theorem d_Nf_drop_35 : decode b_Nf_drop 35 = .ok (.getfield 147, 3) := by decide +kernel
theorem d_Nf_drop_38 : decode b_Nf_drop 38 = .ok (.iload_n 1, 1) := by decide +kernel
theorem d_Nf_drop_39 : decode b_Nf_drop 39 = .ok (.iload_n 2, 1) := by decide +kernel
theorem d_Nf_drop_40 : decode b_Nf_drop 40 = .ok (.bastore, 1) := by decide +kernel
theorem d_Nf_drop_41 : decode b_Nf_drop 41 = .ok (.iload_n 3, 1) := by decide +kernel
theorem d_Nf_drop_42 : decode b_Nf_drop 42 = .ok (.ireturn, 1) := by decide +kernel
theorem d_Nf_share_0 : decode b_Nf_share 0 = .ok (.iload_n 2, 1) := by decide +kernel
theorem d_Nf_share_1 : decode b_Nf_share 1 = .ok (.ifCond .ne 13, 3) := by decide +kernel
theorem d_Nf_share_4 : decode b_Nf_share 4 = .ok (.new 151, 3) := by decide +kernel
theorem d_Nf_share_7 : decode b_Nf_share 7 = .ok (.dup, 1) := by decide +kernel
theorem d_Nf_share_8 : decode b_Nf_share 8 = .ok (.ldc 153, 2) := by decide +kernel
theorem d_Nf_share_10 : decode b_Nf_share 10 = .ok (.invokespecial 155, 3) := by decide +kernel
theorem d_Nf_share_13 : decode b_Nf_share 13 = .ok (.athrow, 1) := by decide +kernel
theorem d_Nf_share_14 : decode b_Nf_share 14 = .ok (.iload_n 1, 1) := by decide +kernel
theorem d_Nf_share_15 : decode b_Nf_share 15 = .ok (.i2l, 1) := by decide +kernel
theorem d_Nf_share_16 : decode b_Nf_share 16 = .ok (.ldc2_w 158, 3) := by decide +kernel
theorem d_Nf_share_19 : decode b_Nf_share 19 = .ok (.lmul, 1) := by decide +kernel
theorem d_Nf_share_20 : decode b_Nf_share 20 = .ok (.iload_n 2, 1) := by decide +kernel
theorem d_Nf_share_21 : decode b_Nf_share 21 = .ok (.i2l, 1) := by decide +kernel
theorem d_Nf_share_22 : decode b_Nf_share 22 = .ok (.ldiv, 1) := by decide +kernel
theorem d_Nf_share_23 : decode b_Nf_share 23 = .ok (.lreturn, 1) := by decide +kernel
theorem d_Nf_count_0 : decode b_Nf_count 0 = .ok (.iload_n 1, 1) := by decide +kernel
theorem d_Nf_count_1 : decode b_Nf_count 1 = .ok (.tableswitch 78 0 4 #[35, 43, 54, 62, 70], 35) := by decide +kernel
theorem d_Nf_count_36 : decode b_Nf_count 36 = .ok (.aload_n 0, 1) := by decide +kernel
theorem d_Nf_count_37 : decode b_Nf_count 37 = .ok (.getfield 10, 3) := by decide +kernel
theorem d_Nf_count_40 : decode b_Nf_count 40 = .ok (.getfield 160, 3) := by decide +kernel
theorem d_Nf_count_43 : decode b_Nf_count 43 = .ok (.ireturn, 1) := by decide +kernel
theorem d_Nf_count_44 : decode b_Nf_count 44 = .ok (.aload_n 0, 1) := by decide +kernel
theorem d_Nf_count_45 : decode b_Nf_count 45 = .ok (.getfield 10, 3) := by decide +kernel
theorem d_Nf_count_48 : decode b_Nf_count 48 = .ok (.getfield 89, 3) := by decide +kernel
theorem d_Nf_count_51 : decode b_Nf_count 51 = .ok (.getfield 163, 3) := by decide +kernel
theorem d_Nf_count_54 : decode b_Nf_count 54 = .ok (.ireturn, 1) := by decide +kernel
theorem d_Nf_count_55 : decode b_Nf_count 55 = .ok (.aload_n 0, 1) := by decide +kernel
theorem d_Nf_count_56 : decode b_Nf_count 56 = .ok (.getfield 21, 3) := by decide +kernel
theorem d_Nf_count_59 : decode b_Nf_count 59 = .ok (.getfield 163, 3) := by decide +kernel
theorem d_Nf_count_62 : decode b_Nf_count 62 = .ok (.ireturn, 1) := by decide +kernel
theorem d_Nf_count_63 : decode b_Nf_count 63 = .ok (.aload_n 0, 1) := by decide +kernel
theorem d_Nf_count_64 : decode b_Nf_count 64 = .ok (.getfield 57, 3) := by decide +kernel
theorem d_Nf_count_67 : decode b_Nf_count 67 = .ok (.getfield 166, 3) := by decide +kernel
theorem d_Nf_count_70 : decode b_Nf_count 70 = .ok (.ireturn, 1) := by decide +kernel
theorem d_Nf_count_71 : decode b_Nf_count 71 = .ok (.aload_n 0, 1) := by decide +kernel
theorem d_Nf_count_72 : decode b_Nf_count 72 = .ok (.getfield 10, 3) := by decide +kernel
theorem d_Nf_count_75 : decode b_Nf_count 75 = .ok (.invokevirtual 167, 3) := by decide +kernel
theorem d_Nf_count_78 : decode b_Nf_count 78 = .ok (.ireturn, 1) := by decide +kernel
theorem d_Nf_count_79 : decode b_Nf_count 79 = .ok (.iconst (-1), 1) := by decide +kernel
theorem d_Nf_count_80 : decode b_Nf_count 80 = .ok (.ireturn, 1) := by decide +kernel
theorem d_Nf_isPlace_0 : decode b_Nf_isPlace 0 = .ok (.iload_n 0, 1) := by decide +kernel
theorem d_Nf_isPlace_1 : decode b_Nf_isPlace 1 = .ok (.ifCond .lt 14, 3) := by decide +kernel
theorem d_Nf_isPlace_4 : decode b_Nf_isPlace 4 = .ok (.iload_n 0, 1) := by decide +kernel
theorem d_Nf_isPlace_5 : decode b_Nf_isPlace 5 = .ok (.sipush 1000, 3) := by decide +kernel
theorem d_Nf_isPlace_8 : decode b_Nf_isPlace 8 = .ok (.if_icmp .ge 7, 3) := by decide +kernel
theorem d_Nf_isPlace_11 : decode b_Nf_isPlace 11 = .ok (.iconst 1, 1) := by decide +kernel
theorem d_Nf_isPlace_12 : decode b_Nf_isPlace 12 = .ok (.goto 4, 3) := by decide +kernel
theorem d_Nf_isPlace_15 : decode b_Nf_isPlace 15 = .ok (.iconst 0, 1) := by decide +kernel
theorem d_Nf_isPlace_16 : decode b_Nf_isPlace 16 = .ok (.ireturn, 1) := by decide +kernel
theorem d_Nf_isWord_0 : decode b_Nf_isWord 0 = .ok (.iload_n 0, 1) := by decide +kernel
theorem d_Nf_isWord_1 : decode b_Nf_isWord 1 = .ok (.ifCond .lt 12, 3) := by decide +kernel
theorem d_Nf_isWord_4 : decode b_Nf_isWord 4 = .ok (.iload_n 0, 1) := by decide +kernel
theorem d_Nf_isWord_5 : decode b_Nf_isWord 5 = .ok (.iconst 3, 1) := by decide +kernel
theorem d_Nf_isWord_6 : decode b_Nf_isWord 6 = .ok (.if_icmp .ge 7, 3) := by decide +kernel
theorem d_Nf_isWord_9 : decode b_Nf_isWord 9 = .ok (.iconst 1, 1) := by decide +kernel
theorem d_Nf_isWord_10 : decode b_Nf_isWord 10 = .ok (.goto 4, 3) := by decide +kernel
theorem d_Nf_isWord_13 : decode b_Nf_isWord 13 = .ok (.iconst 0, 1) := by decide +kernel
theorem d_Nf_isWord_14 : decode b_Nf_isWord 14 = .ok (.ireturn, 1) := by decide +kernel
theorem d_Nf_isLetter_0 : decode b_Nf_isLetter 0 = .ok (.iload_n 0, 1) := by decide +kernel
theorem d_Nf_isLetter_1 : decode b_Nf_isLetter 1 = .ok (.ifCond .lt 13, 3) := by decide +kernel
theorem d_Nf_isLetter_4 : decode b_Nf_isLetter 4 = .ok (.iload_n 0, 1) := by decide +kernel
theorem d_Nf_isLetter_5 : decode b_Nf_isLetter 5 = .ok (.bipush 26, 2) := by decide +kernel
theorem d_Nf_isLetter_7 : decode b_Nf_isLetter 7 = .ok (.if_icmp .ge 7, 3) := by decide +kernel
theorem d_Nf_isLetter_10 : decode b_Nf_isLetter 10 = .ok (.iconst 1, 1) := by decide +kernel
theorem d_Nf_isLetter_11 : decode b_Nf_isLetter 11 = .ok (.goto 4, 3) := by decide +kernel
theorem d_Nf_isLetter_14 : decode b_Nf_isLetter 14 = .ok (.iconst 0, 1) := by decide +kernel
theorem d_Nf_isLetter_15 : decode b_Nf_isLetter 15 = .ok (.ireturn, 1) := by decide +kernel
theorem d_Nf_look_0 : decode b_Nf_look 0 = .ok (.iload_n 1, 1) := by decide +kernel
theorem d_Nf_look_1 : decode b_Nf_look 1 = .ok (.iconst 1, 1) := by decide +kernel
theorem d_Nf_look_2 : decode b_Nf_look 2 = .ok (.if_icmp .lt 13, 3) := by decide +kernel
theorem d_Nf_look_5 : decode b_Nf_look 5 = .ok (.iload_n 1, 1) := by decide +kernel
theorem d_Nf_look_6 : decode b_Nf_look 6 = .ok (.bipush 40, 2) := by decide +kernel
theorem d_Nf_look_8 : decode b_Nf_look 8 = .ok (.if_icmp .gt 7, 3) := by decide +kernel
theorem d_Nf_look_11 : decode b_Nf_look 11 = .ok (.iload_n 2, 1) := by decide +kernel
theorem d_Nf_look_12 : decode b_Nf_look 12 = .ok (.ifCond .ge 5, 3) := by decide +kernel
theorem d_Nf_look_15 : decode b_Nf_look 15 = .ok (.iconst (-1), 1) := by decide +kernel
theorem d_Nf_look_16 : decode b_Nf_look 16 = .ok (.ireturn, 1) := by decide +kernel
theorem d_Nf_look_17 : decode b_Nf_look 17 = .ok (.aload_n 0, 1) := by decide +kernel
theorem d_Nf_look_18 : decode b_Nf_look 18 = .ok (.getfield 57, 3) := by decide +kernel
theorem d_Nf_look_21 : decode b_Nf_look 21 = .ok (.iload_n 1, 1) := by decide +kernel
theorem d_Nf_look_22 : decode b_Nf_look 22 = .ok (.iload_n 2, 1) := by decide +kernel
theorem d_Nf_look_23 : decode b_Nf_look 23 = .ok (.invokevirtual 171, 3) := by decide +kernel
theorem d_Nf_look_26 : decode b_Nf_look 26 = .ok (.aload_n 0, 1) := by decide +kernel
theorem d_Nf_look_27 : decode b_Nf_look 27 = .ok (.iconst 0, 1) := by decide +kernel
theorem d_Nf_look_28 : decode b_Nf_look 28 = .ok (.putfield 65, 3) := by decide +kernel
theorem d_Nf_look_31 : decode b_Nf_look 31 = .ok (.aload_n 0, 1) := by decide +kernel
theorem d_Nf_look_32 : decode b_Nf_look 32 = .ok (.getfield 21, 3) := by decide +kernel
theorem d_Nf_look_35 : decode b_Nf_look 35 = .ok (.getfield 163, 3) := by decide +kernel
theorem d_Nf_look_38 : decode b_Nf_look 38 = .ok (.ifCond .ne 5, 3) := by decide +kernel
theorem d_Nf_look_41 : decode b_Nf_look 41 = .ok (.iconst 0, 1) := by decide +kernel
theorem d_Nf_look_42 : decode b_Nf_look 42 = .ok (.ireturn, 1) := by decide +kernel
theorem d_Nf_look_43 : decode b_Nf_look 43 = .ok (.iconst 0, 1) := by decide +kernel
theorem d_Nf_look_44 : decode b_Nf_look 44 = .ok (.istore 4, 2) := by decide +kernel
theorem d_Nf_look_46 : decode b_Nf_look 46 = .ok (.iload 4, 2) := by decide +kernel
theorem d_Nf_look_48 : decode b_Nf_look 48 = .ok (.aload_n 0, 1) := by decide +kernel
theorem d_Nf_look_49 : decode b_Nf_look 49 = .ok (.getfield 10, 3) := by decide +kernel
theorem d_Nf_look_52 : decode b_Nf_look 52 = .ok (.getfield 160, 3) := by decide +kernel
theorem d_Nf_look_55 : decode b_Nf_look 55 = .ok (.if_icmp .ge 84, 3) := by decide +kernel
theorem d_Nf_look_58 : decode b_Nf_look 58 = .ok (.aload_n 0, 1) := by decide +kernel
theorem d_Nf_look_59 : decode b_Nf_look 59 = .ok (.iload 4, 2) := by decide +kernel
theorem d_Nf_look_61 : decode b_Nf_look 61 = .ok (.invokevirtual 175, 3) := by decide +kernel
theorem d_Nf_look_64 : decode b_Nf_look 64 = .ok (.ifCond .eq 69, 3) := by decide +kernel
theorem d_Nf_look_67 : decode b_Nf_look 67 = .ok (.iload_n 3, 1) := by decide +kernel
theorem d_Nf_look_68 : decode b_Nf_look 68 = .ok (.ifCond .eq 26, 3) := by decide +kernel
theorem d_Nf_look_71 : decode b_Nf_look 71 = .ok (.aload_n 0, 1) := by decide +kernel
theorem d_Nf_look_72 : decode b_Nf_look 72 = .ok (.iload 4, 2) := by decide +kernel
theorem d_Nf_look_74 : decode b_Nf_look 74 = .ok (.aload_n 0, 1) := by decide +kernel
theorem d_Nf_look_75 : decode b_Nf_look 75 = .ok (.getfield 44, 3) := by decide +kernel
theorem d_Nf_look_78 : decode b_Nf_look 78 = .ok (.invokevirtual 124, 3) := by decide +kernel
theorem d_Nf_look_81 : decode b_Nf_look 81 = .ok (.aload_n 0, 1) := by decide +kernel
theorem d_Nf_look_82 : decode b_Nf_look 82 = .ok (.getfield 57, 3) := by decide +kernel
theorem d_Nf_look_85 : decode b_Nf_look 85 = .ok (.invokevirtual 178, 3) := by decide +kernel
theorem d_Nf_look_88 : decode b_Nf_look 88 = .ok (.if_icmp .le 6, 3) := by decide +kernel
theorem d_Nf_look_91 : decode b_Nf_look 91 = .ok (.goto 42, 3) := by decide +kernel
theorem d_Nf_look_94 : decode b_Nf_look 94 = .ok (.aload_n 0, 1) := by decide +kernel
theorem d_Nf_look_95 : decode b_Nf_look 95 = .ok (.dup, 1) := by decide +kernel
theorem d_Nf_look_96 : decode b_Nf_look 96 = .ok (.getfield 65, 3) := by decide +kernel
theorem d_Nf_look_99 : decode b_Nf_look 99 = .ok (.iconst 1, 1) := by decide +kernel
theorem d_Nf_look_100 : decode b_Nf_look 100 = .ok (.iadd, 1) := by decide +kernel
theorem d_Nf_look_101 : decode b_Nf_look 101 = .ok (.putfield 65, 3) := by decide +kernel
theorem d_Nf_look_104 : decode b_Nf_look 104 = .ok (.aload_n 0, 1) := by decide +kernel
theorem d_Nf_look_105 : decode b_Nf_look 105 = .ok (.getfield 57, 3) := by decide +kernel
theorem d_Nf_look_108 : decode b_Nf_look 108 = .ok (.iload 4, 2) := by decide +kernel
theorem d_Nf_look_110 : decode b_Nf_look 110 = .ok (.aload_n 0, 1) := by decide +kernel
theorem d_Nf_look_111 : decode b_Nf_look 111 = .ok (.iload 4, 2) := by decide +kernel
theorem d_Nf_look_113 : decode b_Nf_look 113 = .ok (.aload_n 0, 1) := by decide +kernel
theorem d_Nf_look_114 : decode b_Nf_look 114 = .ok (.getfield 37, 3) := by decide +kernel
theorem d_Nf_look_117 : decode b_Nf_look 117 = .ok (.invokevirtual 124, 3) := by decide +kernel
theorem d_Nf_look_120 : decode b_Nf_look 120 = .ok (.aload_n 0, 1) := by decide +kernel
theorem d_Nf_look_121 : decode b_Nf_look 121 = .ok (.getfield 10, 3) := by decide +kernel
theorem d_Nf_look_124 : decode b_Nf_look 124 = .ok (.getfield 181, 3) := by decide +kernel
theorem d_Nf_look_127 : decode b_Nf_look 127 = .ok (.iload 4, 2) := by decide +kernel
theorem d_Nf_look_129 : decode b_Nf_look 129 = .ok (.iaload, 1) := by decide +kernel
theorem d_Nf_look_130 : decode b_Nf_look 130 = .ok (.invokevirtual 184, 3) := by decide +kernel
theorem d_Nf_look_133 : decode b_Nf_look 133 = .ok (.iinc 4 1, 3) := by decide +kernel
theorem d_Nf_look_136 : decode b_Nf_look 136 = .ok (.goto (-90), 3) := by decide +kernel
theorem d_Nf_look_139 : decode b_Nf_look 139 = .ok (.aload_n 0, 1) := by decide +kernel
theorem d_Nf_look_140 : decode b_Nf_look 140 = .ok (.getfield 57, 3) := by decide +kernel
theorem d_Nf_look_143 : decode b_Nf_look 143 = .ok (.getfield 166, 3) := by decide +kernel
theorem d_Nf_look_146 : decode b_Nf_look 146 = .ok (.ireturn, 1) := by decide +kernel
theorem d_Nf_isLookedFor_0 : decode b_Nf_isLookedFor 0 = .ok (.aload_n 0, 1) := by decide +kernel
theorem d_Nf_isLookedFor_1 : decode b_Nf_isLookedFor 1 = .ok (.getfield 10, 3) := by decide +kernel
theorem d_Nf_isLookedFor_4 : decode b_Nf_isLookedFor 4 = .ok (.getfield 147, 3) := by decide +kernel
theorem d_Nf_isLookedFor_7 : decode b_Nf_isLookedFor 7 = .ok (.iload_n 1, 1) := by decide +kernel
theorem d_Nf_isLookedFor_8 : decode b_Nf_isLookedFor 8 = .ok (.baload, 1) := by decide +kernel
theorem d_Nf_isLookedFor_9 : decode b_Nf_isLookedFor 9 = .ok (.ifCond .ne 31, 3) := by decide +kernel
theorem d_Nf_isLookedFor_12 : decode b_Nf_isLookedFor 12 = .ok (.aload_n 0, 1) := by decide +kernel
theorem d_Nf_isLookedFor_13 : decode b_Nf_isLookedFor 13 = .ok (.getfield 61, 3) := by decide +kernel
theorem d_Nf_isLookedFor_16 : decode b_Nf_isLookedFor 16 = .ok (.iconst (-1), 1) := by decide +kernel
theorem d_Nf_isLookedFor_17 : decode b_Nf_isLookedFor 17 = .ok (.if_icmp .eq 19, 3) := by decide +kernel
theorem d_Nf_isLookedFor_20 : decode b_Nf_isLookedFor 20 = .ok (.aload_n 0, 1) := by decide +kernel
theorem d_Nf_isLookedFor_21 : decode b_Nf_isLookedFor 21 = .ok (.getfield 61, 3) := by decide +kernel
theorem d_Nf_isLookedFor_24 : decode b_Nf_isLookedFor 24 = .ok (.aload_n 0, 1) := by decide +kernel
theorem d_Nf_isLookedFor_25 : decode b_Nf_isLookedFor 25 = .ok (.getfield 10, 3) := by decide +kernel
theorem d_Nf_isLookedFor_28 : decode b_Nf_isLookedFor 28 = .ok (.getfield 188, 3) := by decide +kernel
theorem d_Nf_isLookedFor_31 : decode b_Nf_isLookedFor 31 = .ok (.iload_n 1, 1) := by decide +kernel
theorem d_Nf_isLookedFor_32 : decode b_Nf_isLookedFor 32 = .ok (.iaload, 1) := by decide +kernel
theorem d_Nf_isLookedFor_33 : decode b_Nf_isLookedFor 33 = .ok (.if_icmp .ne 7, 3) := by decide +kernel
theorem d_Nf_isLookedFor_36 : decode b_Nf_isLookedFor 36 = .ok (.iconst 1, 1) := by decide +kernel
theorem d_Nf_isLookedFor_37 : decode b_Nf_isLookedFor 37 = .ok (.goto 4, 3) := by decide +kernel
theorem d_Nf_isLookedFor_40 : decode b_Nf_isLookedFor 40 = .ok (.iconst 0, 1) := by decide +kernel
theorem d_Nf_isLookedFor_41 : decode b_Nf_isLookedFor 41 = .ok (.ireturn, 1) := by decide +kernel
theorem d_Nf_leastOfWays_0 : decode b_Nf_leastOfWays 0 = .ok (.aload_n 0, 1) := by decide +kernel
theorem d_Nf_leastOfWays_1 : decode b_Nf_leastOfWays 1 = .ok (.getfield 50, 3) := by decide +kernel
theorem d_Nf_leastOfWays_4 : decode b_Nf_leastOfWays 4 = .ok (.invokevirtual 191, 3) := by decide +kernel
theorem d_Nf_leastOfWays_7 : decode b_Nf_leastOfWays 7 = .ok (.iconst 0, 1) := by decide +kernel
theorem d_Nf_leastOfWays_8 : decode b_Nf_leastOfWays 8 = .ok (.istore_n 3, 1) := by decide +kernel
theorem d_Nf_leastOfWays_9 : decode b_Nf_leastOfWays 9 = .ok (.iload_n 3, 1) := by decide +kernel
theorem d_Nf_leastOfWays_10 : decode b_Nf_leastOfWays 10 = .ok (.iconst 3, 1) := by decide +kernel
theorem d_Nf_leastOfWays_11 : decode b_Nf_leastOfWays 11 = .ok (.if_icmp .ge 99, 3) := by decide +kernel
theorem d_Nf_leastOfWays_14 : decode b_Nf_leastOfWays 14 = .ok (.aload_n 0, 1) := by decide +kernel
theorem d_Nf_leastOfWays_15 : decode b_Nf_leastOfWays 15 = .ok (.getfield 50, 3) := by decide +kernel
theorem d_Nf_leastOfWays_18 : decode b_Nf_leastOfWays 18 = .ok (.aload_n 0, 1) := by decide +kernel
theorem d_Nf_leastOfWays_19 : decode b_Nf_leastOfWays 19 = .ok (.getfield 21, 3) := by decide +kernel
theorem d_Nf_leastOfWays_22 : decode b_Nf_leastOfWays 22 = .ok (.iload_n 3, 1) := by decide +kernel
theorem d_Nf_leastOfWays_23 : decode b_Nf_leastOfWays 23 = .ok (.invokevirtual 134, 3) := by decide +kernel
theorem d_Nf_leastOfWays_26 : decode b_Nf_leastOfWays 26 = .ok (.ifCond .ne 7, 3) := by decide +kernel
theorem d_Nf_leastOfWays_29 : decode b_Nf_leastOfWays 29 = .ok (.iconst 1, 1) := by decide +kernel
theorem d_Nf_leastOfWays_30 : decode b_Nf_leastOfWays 30 = .ok (.goto 4, 3) := by decide +kernel
theorem d_Nf_leastOfWays_33 : decode b_Nf_leastOfWays 33 = .ok (.iconst 0, 1) := by decide +kernel
theorem d_Nf_leastOfWays_34 : decode b_Nf_leastOfWays 34 = .ok (.invokevirtual 193, 3) := by decide +kernel
theorem d_Nf_leastOfWays_37 : decode b_Nf_leastOfWays 37 = .ok (.aload_n 0, 1) := by decide +kernel
theorem d_Nf_leastOfWays_38 : decode b_Nf_leastOfWays 38 = .ok (.getfield 50, 3) := by decide +kernel
theorem d_Nf_leastOfWays_41 : decode b_Nf_leastOfWays 41 = .ok (.aload_n 0, 1) := by decide +kernel
theorem d_Nf_leastOfWays_42 : decode b_Nf_leastOfWays 42 = .ok (.getfield 10, 3) := by decide +kernel
theorem d_Nf_leastOfWays_45 : decode b_Nf_leastOfWays 45 = .ok (.getfield 89, 3) := by decide +kernel
theorem d_Nf_leastOfWays_48 : decode b_Nf_leastOfWays 48 = .ok (.iload_n 1, 1) := by decide +kernel
theorem d_Nf_leastOfWays_49 : decode b_Nf_leastOfWays 49 = .ok (.iload_n 3, 1) := by decide +kernel
theorem d_Nf_leastOfWays_50 : decode b_Nf_leastOfWays 50 = .ok (.invokestatic 92, 3) := by decide +kernel
theorem d_Nf_leastOfWays_53 : decode b_Nf_leastOfWays 53 = .ok (.invokevirtual 134, 3) := by decide +kernel
theorem d_Nf_leastOfWays_56 : decode b_Nf_leastOfWays 56 = .ok (.ifCond .ne 7, 3) := by decide +kernel
theorem d_Nf_leastOfWays_59 : decode b_Nf_leastOfWays 59 = .ok (.iconst 1, 1) := by decide +kernel
theorem d_Nf_leastOfWays_60 : decode b_Nf_leastOfWays 60 = .ok (.goto 4, 3) := by decide +kernel
theorem d_Nf_leastOfWays_63 : decode b_Nf_leastOfWays 63 = .ok (.iconst 0, 1) := by decide +kernel
theorem d_Nf_leastOfWays_64 : decode b_Nf_leastOfWays 64 = .ok (.invokevirtual 193, 3) := by decide +kernel
theorem d_Nf_leastOfWays_67 : decode b_Nf_leastOfWays 67 = .ok (.iconst 0, 1) := by decide +kernel
theorem d_Nf_leastOfWays_68 : decode b_Nf_leastOfWays 68 = .ok (.istore 4, 2) := by decide +kernel
theorem d_Nf_leastOfWays_70 : decode b_Nf_leastOfWays 70 = .ok (.iload 4, 2) := by decide +kernel
theorem d_Nf_leastOfWays_72 : decode b_Nf_leastOfWays 72 = .ok (.iconst 3, 1) := by decide +kernel
theorem d_Nf_leastOfWays_73 : decode b_Nf_leastOfWays 73 = .ok (.if_icmp .ge 31, 3) := by decide +kernel
theorem d_Nf_leastOfWays_76 : decode b_Nf_leastOfWays 76 = .ok (.aload_n 0, 1) := by decide +kernel
theorem d_Nf_leastOfWays_77 : decode b_Nf_leastOfWays 77 = .ok (.getfield 50, 3) := by decide +kernel
theorem d_Nf_leastOfWays_80 : decode b_Nf_leastOfWays 80 = .ok (.iload_n 3, 1) := by decide +kernel
theorem d_Nf_leastOfWays_81 : decode b_Nf_leastOfWays 81 = .ok (.iload 4, 2) := by decide +kernel
theorem d_Nf_leastOfWays_83 : decode b_Nf_leastOfWays 83 = .ok (.aload_n 0, 1) := by decide +kernel
theorem d_Nf_leastOfWays_84 : decode b_Nf_leastOfWays 84 = .ok (.iload_n 3, 1) := by decide +kernel
theorem d_Nf_leastOfWays_85 : decode b_Nf_leastOfWays 85 = .ok (.iload_n 1, 1) := by decide +kernel
theorem d_Nf_leastOfWays_86 : decode b_Nf_leastOfWays 86 = .ok (.iload 4, 2) := by decide +kernel
theorem d_Nf_leastOfWays_88 : decode b_Nf_leastOfWays 88 = .ok (.invokestatic 92, 3) := by decide +kernel
theorem d_Nf_leastOfWays_91 : decode b_Nf_leastOfWays 91 = .ok (.aload_n 2, 1) := by decide +kernel
theorem d_Nf_leastOfWays_92 : decode b_Nf_leastOfWays 92 = .ok (.invokevirtual 197, 3) := by decide +kernel
theorem d_Nf_leastOfWays_95 : decode b_Nf_leastOfWays 95 = .ok (.invokevirtual 201, 3) := by decide +kernel
theorem d_Nf_leastOfWays_98 : decode b_Nf_leastOfWays 98 = .ok (.iinc 4 1, 3) := by decide +kernel
theorem d_Nf_leastOfWays_101 : decode b_Nf_leastOfWays 101 = .ok (.goto (-31), 3) := by decide +kernel
theorem d_Nf_leastOfWays_104 : decode b_Nf_leastOfWays 104 = .ok (.iinc 3 1, 3) := by decide +kernel
theorem d_Nf_leastOfWays_107 : decode b_Nf_leastOfWays 107 = .ok (.goto (-98), 3) := by decide +kernel
theorem d_Nf_leastOfWays_110 : decode b_Nf_leastOfWays 110 = .ok (.aload_n 0, 1) := by decide +kernel
theorem d_Nf_leastOfWays_111 : decode b_Nf_leastOfWays 111 = .ok (.getfield 50, 3) := by decide +kernel
theorem d_Nf_leastOfWays_114 : decode b_Nf_leastOfWays 114 = .ok (.invokevirtual 204, 3) := by decide +kernel
theorem d_Nf_leastOfWays_117 : decode b_Nf_leastOfWays 117 = .ok (.ireturn, 1) := by decide +kernel
theorem d_Nf_costOfPair_0 : decode b_Nf_costOfPair 0 = .ok (.aload_n 0, 1) := by decide +kernel
theorem d_Nf_costOfPair_1 : decode b_Nf_costOfPair 1 = .ok (.getfield 21, 3) := by decide +kernel
theorem d_Nf_costOfPair_4 : decode b_Nf_costOfPair 4 = .ok (.iload_n 1, 1) := by decide +kernel
theorem d_Nf_costOfPair_5 : decode b_Nf_costOfPair 5 = .ok (.invokevirtual 134, 3) := by decide +kernel
theorem d_Nf_costOfPair_8 : decode b_Nf_costOfPair 8 = .ok (.ifCond .ne 17, 3) := by decide +kernel
theorem d_Nf_costOfPair_11 : decode b_Nf_costOfPair 11 = .ok (.aload_n 0, 1) := by decide +kernel
theorem d_Nf_costOfPair_12 : decode b_Nf_costOfPair 12 = .ok (.getfield 10, 3) := by decide +kernel
theorem d_Nf_costOfPair_15 : decode b_Nf_costOfPair 15 = .ok (.getfield 89, 3) := by decide +kernel
theorem d_Nf_costOfPair_18 : decode b_Nf_costOfPair 18 = .ok (.iload_n 2, 1) := by decide +kernel
theorem d_Nf_costOfPair_19 : decode b_Nf_costOfPair 19 = .ok (.invokevirtual 134, 3) := by decide +kernel
theorem d_Nf_costOfPair_22 : decode b_Nf_costOfPair 22 = .ok (.ifCond .eq 5, 3) := by decide +kernel
theorem d_Nf_costOfPair_25 : decode b_Nf_costOfPair 25 = .ok (.iconst (-1), 1) := by decide +kernel
theorem d_Nf_costOfPair_26 : decode b_Nf_costOfPair 26 = .ok (.ireturn, 1) := by decide +kernel
theorem d_Nf_costOfPair_27 : decode b_Nf_costOfPair 27 = .ok (.aload_n 3, 1) := by decide +kernel
theorem d_Nf_costOfPair_28 : decode b_Nf_costOfPair 28 = .ok (.aload_n 0, 1) := by decide +kernel
theorem d_Nf_costOfPair_29 : decode b_Nf_costOfPair 29 = .ok (.getfield 21, 3) := by decide +kernel
theorem d_Nf_costOfPair_32 : decode b_Nf_costOfPair 32 = .ok (.iload_n 1, 1) := by decide +kernel
theorem d_Nf_costOfPair_33 : decode b_Nf_costOfPair 33 = .ok (.aload_n 0, 1) := by decide +kernel
theorem d_Nf_costOfPair_34 : decode b_Nf_costOfPair 34 = .ok (.getfield 10, 3) := by decide +kernel
theorem d_Nf_costOfPair_37 : decode b_Nf_costOfPair 37 = .ok (.getfield 89, 3) := by decide +kernel
theorem d_Nf_costOfPair_40 : decode b_Nf_costOfPair 40 = .ok (.iload_n 2, 1) := by decide +kernel
theorem d_Nf_costOfPair_41 : decode b_Nf_costOfPair 41 = .ok (.invokeinterface 137 5, 5) := by decide +kernel
theorem d_Nf_costOfPair_46 : decode b_Nf_costOfPair 46 = .ok (.ireturn, 1) := by decide +kernel
theorem d_Mo_init_0 : decode b_Mo_init 0 = .ok (.aload_n 0, 1) := by decide +kernel
theorem d_Mo_init_1 : decode b_Mo_init 1 = .ok (.invokespecial 1, 3) := by decide +kernel
theorem d_Mo_init_4 : decode b_Mo_init 4 = .ok (.aload_n 0, 1) := by decide +kernel
theorem d_Mo_init_5 : decode b_Mo_init 5 = .ok (.bipush 40, 2) := by decide +kernel
theorem d_Mo_init_7 : decode b_Mo_init 7 = .ok (.newarray .int, 2) := by decide +kernel
theorem d_Mo_init_9 : decode b_Mo_init 9 = .ok (.putfield 7, 3) := by decide +kernel
theorem d_Mo_init_12 : decode b_Mo_init 12 = .ok (.aload_n 0, 1) := by decide +kernel
theorem d_Mo_init_13 : decode b_Mo_init 13 = .ok (.bipush 40, 2) := by decide +kernel
theorem d_Mo_init_15 : decode b_Mo_init 15 = .ok (.newarray .int, 2) := by decide +kernel
theorem d_Mo_init_17 : decode b_Mo_init 17 = .ok (.putfield 13, 3) := by decide +kernel
theorem d_Mo_init_20 : decode b_Mo_init 20 = .ok (.aload_n 0, 1) := by decide +kernel
theorem d_Mo_init_21 : decode b_Mo_init 21 = .ok (.bipush 40, 2) := by decide +kernel
theorem d_Mo_init_23 : decode b_Mo_init 23 = .ok (.newarray .int, 2) := by decide +kernel
theorem d_Mo_init_25 : decode b_Mo_init 25 = .ok (.putfield 16, 3) := by decide +kernel
theorem d_Mo_init_28 : decode b_Mo_init 28 = .ok (.aload_n 0, 1) := by decide +kernel
theorem d_Mo_init_29 : decode b_Mo_init 29 = .ok (.bipush 40, 2) := by decide +kernel
theorem d_Mo_init_31 : decode b_Mo_init 31 = .ok (.newarray .boolean, 2) := by decide +kernel
theorem d_Mo_init_33 : decode b_Mo_init 33 = .ok (.putfield 19, 3) := by decide +kernel
end
section
theorem d_Mo_init_36 : decode b_Mo_init 36 = .ok (.aload_n 0, 1) := by decide +kernel
theorem d_Mo_init_37 : decode b_Mo_init 37 = .ok (.bipush 123, 2) := by decide +kernel
theorem d_Mo_init_39 : decode b_Mo_init 39 = .ok (.newarray .int, 2) := by decide +kernel
theorem d_Mo_init_41 : decode b_Mo_init 41 = .ok (.putfield 23, 3) := by decide +kernel
theorem d_Mo_init_44 : decode b_Mo_init 44 = .ok (.aload_n 0, 1) := by decide +kernel
theorem d_Mo_init_45 : decode b_Mo_init 45 = .ok (.sipush 1230, 3) := by decide +kernel
theorem d_Mo_init_48 : decode b_Mo_init 48 = .ok (.newarray .int, 2) := by decide +kernel
theorem d_Mo_init_50 : decode b_Mo_init 50 = .ok (.putfield 26, 3) := by decide +kernel
theorem d_Mo_init_53 : decode b_Mo_init 53 = .ok (.aload_n 0, 1) := by decide +kernel
theorem d_Mo_init_54 : decode b_Mo_init 54 = .ok (.iconst (-1), 1) := by decide +kernel
theorem d_Mo_init_55 : decode b_Mo_init 55 = .ok (.putfield 29, 3) := by decide +kernel
theorem d_Mo_init_58 : decode b_Mo_init 58 = .ok (.aload_n 0, 1) := by decide +kernel
theorem d_Mo_init_59 : decode b_Mo_init 59 = .ok (.bipush 6, 2) := by decide +kernel
theorem d_Mo_init_61 : decode b_Mo_init 61 = .ok (.newarray .int, 2) := by decide +kernel
theorem d_Mo_init_63 : decode b_Mo_init 63 = .ok (.putfield 33, 3) := by decide +kernel
theorem d_Mo_init_66 : decode b_Mo_init 66 = .ok (.aload_n 0, 1) := by decide +kernel
theorem d_Mo_init_67 : decode b_Mo_init 67 = .ok (.bipush 40, 2) := by decide +kernel
theorem d_Mo_init_69 : decode b_Mo_init 69 = .ok (.newarray .int, 2) := by decide +kernel
theorem d_Mo_init_71 : decode b_Mo_init 71 = .ok (.putfield 36, 3) := by decide +kernel
theorem d_Mo_init_74 : decode b_Mo_init 74 = .ok (.aload_n 0, 1) := by decide +kernel
theorem d_Mo_init_75 : decode b_Mo_init 75 = .ok (.bipush 40, 2) := by decide +kernel
theorem d_Mo_init_77 : decode b_Mo_init 77 = .ok (.newarray .int, 2) := by decide +kernel
theorem d_Mo_init_79 : decode b_Mo_init 79 = .ok (.putfield 39, 3) := by decide +kernel
theorem d_Mo_init_82 : decode b_Mo_init 82 = .ok (.aload_n 0, 1) := by decide +kernel
theorem d_Mo_init_83 : decode b_Mo_init 83 = .ok (.bipush 121, 2) := by decide +kernel
theorem d_Mo_init_85 : decode b_Mo_init 85 = .ok (.newarray .int, 2) := by decide +kernel
theorem d_Mo_init_87 : decode b_Mo_init 87 = .ok (.putfield 42, 3) := by decide +kernel
theorem d_Mo_init_90 : decode b_Mo_init 90 = .ok (.aload_n 0, 1) := by decide +kernel
theorem d_Mo_init_91 : decode b_Mo_init 91 = .ok (.bipush 9, 2) := by decide +kernel
theorem d_Mo_init_93 : decode b_Mo_init 93 = .ok (.newarray .int, 2) := by decide +kernel
theorem d_Mo_init_95 : decode b_Mo_init 95 = .ok (.putfield 45, 3) := by decide +kernel
theorem d_Mo_init_98 : decode b_Mo_init 98 = .ok (.aload_n 0, 1) := by decide +kernel
theorem d_Mo_init_99 : decode b_Mo_init 99 = .ok (.iconst 3, 1) := by decide +kernel
theorem d_Mo_init_100 : decode b_Mo_init 100 = .ok (.newarray .int, 2) := by decide +kernel
theorem d_Mo_init_102 : decode b_Mo_init 102 = .ok (.putfield 48, 3) := by decide +kernel
theorem d_Mo_init_105 : decode b_Mo_init 105 = .ok (.aload_n 0, 1) := by decide +kernel
theorem d_Mo_init_106 : decode b_Mo_init 106 = .ok (.getfield 33, 3) := by decide +kernel
theorem d_Mo_init_109 : decode b_Mo_init 109 = .ok (.iconst 0, 1) := by decide +kernel
theorem d_Mo_init_110 : decode b_Mo_init 110 = .ok (.bipush 10, 2) := by decide +kernel
theorem d_Mo_init_112 : decode b_Mo_init 112 = .ok (.iastore, 1) := by decide +kernel
theorem d_Mo_init_113 : decode b_Mo_init 113 = .ok (.aload_n 0, 1) := by decide +kernel
theorem d_Mo_init_114 : decode b_Mo_init 114 = .ok (.getfield 33, 3) := by decide +kernel
theorem d_Mo_init_117 : decode b_Mo_init 117 = .ok (.iconst 1, 1) := by decide +kernel
theorem d_Mo_init_118 : decode b_Mo_init 118 = .ok (.bipush 10, 2) := by decide +kernel
theorem d_Mo_init_120 : decode b_Mo_init 120 = .ok (.iastore, 1) := by decide +kernel
theorem d_Mo_init_121 : decode b_Mo_init 121 = .ok (.aload_n 0, 1) := by decide +kernel
theorem d_Mo_init_122 : decode b_Mo_init 122 = .ok (.getfield 33, 3) := by decide +kernel
theorem d_Mo_init_125 : decode b_Mo_init 125 = .ok (.iconst 2, 1) := by decide +kernel
theorem d_Mo_init_126 : decode b_Mo_init 126 = .ok (.bipush 15, 2) := by decide +kernel
theorem d_Mo_init_128 : decode b_Mo_init 128 = .ok (.iastore, 1) := by decide +kernel
theorem d_Mo_init_129 : decode b_Mo_init 129 = .ok (.aload_n 0, 1) := by decide +kernel
theorem d_Mo_init_130 : decode b_Mo_init 130 = .ok (.getfield 33, 3) := by decide +kernel
theorem d_Mo_init_133 : decode b_Mo_init 133 = .ok (.iconst 3, 1) := by decide +kernel
theorem d_Mo_init_134 : decode b_Mo_init 134 = .ok (.iconst 5, 1) := by decide +kernel
theorem d_Mo_init_135 : decode b_Mo_init 135 = .ok (.iastore, 1) := by decide +kernel
theorem d_Mo_init_136 : decode b_Mo_init 136 = .ok (.aload_n 0, 1) := by decide +kernel
theorem d_Mo_init_137 : decode b_Mo_init 137 = .ok (.getfield 33, 3) := by decide +kernel
theorem d_Mo_init_140 : decode b_Mo_init 140 = .ok (.iconst 4, 1) := by decide +kernel
theorem d_Mo_init_141 : decode b_Mo_init 141 = .ok (.bipush 60, 2) := by decide +kernel
theorem d_Mo_init_143 : decode b_Mo_init 143 = .ok (.iastore, 1) := by decide +kernel
theorem d_Mo_init_144 : decode b_Mo_init 144 = .ok (.aload_n 0, 1) := by decide +kernel
theorem d_Mo_init_145 : decode b_Mo_init 145 = .ok (.getfield 33, 3) := by decide +kernel
theorem d_Mo_init_148 : decode b_Mo_init 148 = .ok (.iconst 5, 1) := by decide +kernel
theorem d_Mo_init_149 : decode b_Mo_init 149 = .ok (.bipush 20, 2) := by decide +kernel
theorem d_Mo_init_151 : decode b_Mo_init 151 = .ok (.iastore, 1) := by decide +kernel
theorem d_Mo_init_152 : decode b_Mo_init 152 = .ok (.iconst 0, 1) := by decide +kernel
theorem d_Mo_init_153 : decode b_Mo_init 153 = .ok (.istore_n 1, 1) := by decide +kernel
theorem d_Mo_init_154 : decode b_Mo_init 154 = .ok (.iload_n 1, 1) := by decide +kernel
theorem d_Mo_init_155 : decode b_Mo_init 155 = .ok (.bipush 40, 2) := by decide +kernel
theorem d_Mo_init_157 : decode b_Mo_init 157 = .ok (.if_icmp .ge 16, 3) := by decide +kernel
theorem d_Mo_init_160 : decode b_Mo_init 160 = .ok (.aload_n 0, 1) := by decide +kernel
theorem d_Mo_init_161 : decode b_Mo_init 161 = .ok (.getfield 13, 3) := by decide +kernel
theorem d_Mo_init_164 : decode b_Mo_init 164 = .ok (.iload_n 1, 1) := by decide +kernel
theorem d_Mo_init_165 : decode b_Mo_init 165 = .ok (.iconst (-1), 1) := by decide +kernel
theorem d_Mo_init_166 : decode b_Mo_init 166 = .ok (.iastore, 1) := by decide +kernel
theorem d_Mo_init_167 : decode b_Mo_init 167 = .ok (.iinc 1 1, 3) := by decide +kernel
theorem d_Mo_init_170 : decode b_Mo_init 170 = .ok (.goto (-16), 3) := by decide +kernel
theorem d_Mo_init_173 : decode b_Mo_init 173 = .ok (.return_, 1) := by decide +kernel
theorem d_Mo_thrown_0 : decode b_Mo_thrown 0 = .ok (.aload_n 0, 1) := by decide +kernel
theorem d_Mo_thrown_1 : decode b_Mo_thrown 1 = .ok (.getfield 51, 3) := by decide +kernel
theorem d_Mo_thrown_4 : decode b_Mo_thrown 4 = .ok (.ireturn, 1) := by decide +kernel
theorem d_Mo_isEntry_0 : decode b_Mo_isEntry 0 = .ok (.iload_n 1, 1) := by decide +kernel
theorem d_Mo_isEntry_1 : decode b_Mo_isEntry 1 = .ok (.ifCond .lt 15, 3) := by decide +kernel
theorem d_Mo_isEntry_4 : decode b_Mo_isEntry 4 = .ok (.iload_n 1, 1) := by decide +kernel
theorem d_Mo_isEntry_5 : decode b_Mo_isEntry 5 = .ok (.aload_n 0, 1) := by decide +kernel
theorem d_Mo_isEntry_6 : decode b_Mo_isEntry 6 = .ok (.getfield 54, 3) := by decide +kernel
theorem d_Mo_isEntry_9 : decode b_Mo_isEntry 9 = .ok (.if_icmp .ge 7, 3) := by decide +kernel
theorem d_Mo_isEntry_12 : decode b_Mo_isEntry 12 = .ok (.iconst 1, 1) := by decide +kernel
theorem d_Mo_isEntry_13 : decode b_Mo_isEntry 13 = .ok (.goto 4, 3) := by decide +kernel
theorem d_Mo_isEntry_16 : decode b_Mo_isEntry 16 = .ok (.iconst 0, 1) := by decide +kernel
theorem d_Mo_isEntry_17 : decode b_Mo_isEntry 17 = .ok (.ireturn, 1) := by decide +kernel
theorem d_Mo_isWord_0 : decode b_Mo_isWord 0 = .ok (.iload_n 0, 1) := by decide +kernel
theorem d_Mo_isWord_1 : decode b_Mo_isWord 1 = .ok (.ifCond .lt 12, 3) := by decide +kernel
theorem d_Mo_isWord_4 : decode b_Mo_isWord 4 = .ok (.iload_n 0, 1) := by decide +kernel
theorem d_Mo_isWord_5 : decode b_Mo_isWord 5 = .ok (.iconst 3, 1) := by decide +kernel
theorem d_Mo_isWord_6 : decode b_Mo_isWord 6 = .ok (.if_icmp .ge 7, 3) := by decide +kernel
theorem d_Mo_isWord_9 : decode b_Mo_isWord 9 = .ok (.iconst 1, 1) := by decide +kernel
theorem d_Mo_isWord_10 : decode b_Mo_isWord 10 = .ok (.goto 4, 3) := by decide +kernel
theorem d_Mo_isWord_13 : decode b_Mo_isWord 13 = .ok (.iconst 0, 1) := by decide +kernel
theorem d_Mo_isWord_14 : decode b_Mo_isWord 14 = .ok (.ireturn, 1) := by decide +kernel
theorem d_Mo_entry_0 : decode b_Mo_entry 0 = .ok (.aload_n 0, 1) := by decide +kernel
theorem d_Mo_entry_1 : decode b_Mo_entry 1 = .ok (.iconst 0, 1) := by decide +kernel
theorem d_Mo_entry_2 : decode b_Mo_entry 2 = .ok (.putfield 51, 3) := by decide +kernel
theorem d_Mo_entry_5 : decode b_Mo_entry 5 = .ok (.iload_n 1, 1) := by decide +kernel
theorem d_Mo_entry_6 : decode b_Mo_entry 6 = .ok (.ifCond .lt 19, 3) := by decide +kernel
theorem d_Mo_entry_9 : decode b_Mo_entry 9 = .ok (.iload_n 1, 1) := by decide +kernel
theorem d_Mo_entry_10 : decode b_Mo_entry 10 = .ok (.sipush 999, 3) := by decide +kernel
theorem d_Mo_entry_13 : decode b_Mo_entry 13 = .ok (.if_icmp .gt 12, 3) := by decide +kernel
theorem d_Mo_entry_16 : decode b_Mo_entry 16 = .ok (.aload_n 0, 1) := by decide +kernel
theorem d_Mo_entry_17 : decode b_Mo_entry 17 = .ok (.getfield 54, 3) := by decide +kernel
theorem d_Mo_entry_20 : decode b_Mo_entry 20 = .ok (.bipush 40, 2) := by decide +kernel
theorem d_Mo_entry_22 : decode b_Mo_entry 22 = .ok (.if_icmp .ne 5, 3) := by decide +kernel
theorem d_Mo_entry_25 : decode b_Mo_entry 25 = .ok (.iconst (-1), 1) := by decide +kernel
theorem d_Mo_entry_26 : decode b_Mo_entry 26 = .ok (.ireturn, 1) := by decide +kernel
theorem d_Mo_entry_27 : decode b_Mo_entry 27 = .ok (.aload_n 0, 1) := by decide +kernel
theorem d_Mo_entry_28 : decode b_Mo_entry 28 = .ok (.getfield 7, 3) := by decide +kernel
theorem d_Mo_entry_31 : decode b_Mo_entry 31 = .ok (.aload_n 0, 1) := by decide +kernel
theorem d_Mo_entry_32 : decode b_Mo_entry 32 = .ok (.getfield 54, 3) := by decide +kernel
theorem d_Mo_entry_35 : decode b_Mo_entry 35 = .ok (.iload_n 1, 1) := by decide +kernel
theorem d_Mo_entry_36 : decode b_Mo_entry 36 = .ok (.iastore, 1) := by decide +kernel
theorem d_Mo_entry_37 : decode b_Mo_entry 37 = .ok (.aload_n 0, 1) := by decide +kernel
theorem d_Mo_entry_38 : decode b_Mo_entry 38 = .ok (.dup, 1) := by decide +kernel
theorem d_Mo_entry_39 : decode b_Mo_entry 39 = .ok (.getfield 54, 3) := by decide +kernel
theorem d_Mo_entry_42 : decode b_Mo_entry 42 = .ok (.iconst 1, 1) := by decide +kernel
theorem d_Mo_entry_43 : decode b_Mo_entry 43 = .ok (.iadd, 1) := by decide +kernel
theorem d_Mo_entry_44 : decode b_Mo_entry 44 = .ok (.putfield 54, 3) := by decide +kernel
theorem d_Mo_entry_47 : decode b_Mo_entry 47 = .ok (.aload_n 0, 1) := by decide +kernel
theorem d_Mo_entry_48 : decode b_Mo_entry 48 = .ok (.getfield 54, 3) := by decide +kernel
theorem d_Mo_entry_51 : decode b_Mo_entry 51 = .ok (.iconst 1, 1) := by decide +kernel
theorem d_Mo_entry_52 : decode b_Mo_entry 52 = .ok (.isub, 1) := by decide +kernel
theorem d_Mo_entry_53 : decode b_Mo_entry 53 = .ok (.ireturn, 1) := by decide +kernel
theorem d_Mo_add_0 : decode b_Mo_add 0 = .ok (.iload_n 2, 1) := by decide +kernel
theorem d_Mo_add_1 : decode b_Mo_add 1 = .ok (.ifCond .lt 20, 3) := by decide +kernel
theorem d_Mo_add_4 : decode b_Mo_add 4 = .ok (.iload_n 2, 1) := by decide +kernel
theorem d_Mo_add_5 : decode b_Mo_add 5 = .ok (.bipush 25, 2) := by decide +kernel
theorem d_Mo_add_7 : decode b_Mo_add 7 = .ok (.if_icmp .gt 14, 3) := by decide +kernel
theorem d_Mo_add_10 : decode b_Mo_add 10 = .ok (.aload_n 0, 1) := by decide +kernel
theorem d_Mo_add_11 : decode b_Mo_add 11 = .ok (.getfield 23, 3) := by decide +kernel
theorem d_Mo_add_14 : decode b_Mo_add 14 = .ok (.iload_n 1, 1) := by decide +kernel
theorem d_Mo_add_15 : decode b_Mo_add 15 = .ok (.iaload, 1) := by decide +kernel
theorem d_Mo_add_16 : decode b_Mo_add 16 = .ok (.bipush 10, 2) := by decide +kernel
theorem d_Mo_add_18 : decode b_Mo_add 18 = .ok (.if_icmp .ne 5, 3) := by decide +kernel
theorem d_Mo_add_21 : decode b_Mo_add 21 = .ok (.iconst 0, 1) := by decide +kernel
theorem d_Mo_add_22 : decode b_Mo_add 22 = .ok (.ireturn, 1) := by decide +kernel
theorem d_Mo_add_23 : decode b_Mo_add 23 = .ok (.aload_n 0, 1) := by decide +kernel
theorem d_Mo_add_24 : decode b_Mo_add 24 = .ok (.getfield 26, 3) := by decide +kernel
theorem d_Mo_add_27 : decode b_Mo_add 27 = .ok (.bipush 10, 2) := by decide +kernel
theorem d_Mo_add_29 : decode b_Mo_add 29 = .ok (.iload_n 1, 1) := by decide +kernel
theorem d_Mo_add_30 : decode b_Mo_add 30 = .ok (.imul, 1) := by decide +kernel
theorem d_Mo_add_31 : decode b_Mo_add 31 = .ok (.aload_n 0, 1) := by decide +kernel
theorem d_Mo_add_32 : decode b_Mo_add 32 = .ok (.getfield 23, 3) := by decide +kernel
theorem d_Mo_add_35 : decode b_Mo_add 35 = .ok (.iload_n 1, 1) := by decide +kernel
theorem d_Mo_add_36 : decode b_Mo_add 36 = .ok (.iaload, 1) := by decide +kernel
theorem d_Mo_add_37 : decode b_Mo_add 37 = .ok (.iadd, 1) := by decide +kernel
theorem d_Mo_add_38 : decode b_Mo_add 38 = .ok (.iload_n 2, 1) := by decide +kernel
theorem d_Mo_add_39 : decode b_Mo_add 39 = .ok (.iastore, 1) := by decide +kernel
theorem d_Mo_add_40 : decode b_Mo_add 40 = .ok (.aload_n 0, 1) := by decide +kernel
theorem d_Mo_add_41 : decode b_Mo_add 41 = .ok (.getfield 23, 3) := by decide +kernel
theorem d_Mo_add_44 : decode b_Mo_add 44 = .ok (.iload_n 1, 1) := by decide +kernel
theorem d_Mo_add_45 : decode b_Mo_add 45 = .ok (.dup2, 1) := by decide +kernel
theorem d_Mo_add_46 : decode b_Mo_add 46 = .ok (.iaload, 1) := by decide +kernel
theorem d_Mo_add_47 : decode b_Mo_add 47 = .ok (.iconst 1, 1) := by decide +kernel
theorem d_Mo_add_48 : decode b_Mo_add 48 = .ok (.iadd, 1) := by decide +kernel
theorem d_Mo_add_49 : decode b_Mo_add 49 = .ok (.iastore, 1) := by decide +kernel
theorem d_Mo_add_50 : decode b_Mo_add 50 = .ok (.iconst 1, 1) := by decide +kernel
theorem d_Mo_add_51 : decode b_Mo_add 51 = .ok (.ireturn, 1) := by decide +kernel
theorem d_Mo_letter_0 : decode b_Mo_letter 0 = .ok (.aload_n 0, 1) := by decide +kernel
theorem d_Mo_letter_1 : decode b_Mo_letter 1 = .ok (.iconst 0, 1) := by decide +kernel
theorem d_Mo_letter_2 : decode b_Mo_letter 2 = .ok (.putfield 51, 3) := by decide +kernel
theorem d_Mo_letter_5 : decode b_Mo_letter 5 = .ok (.aload_n 0, 1) := by decide +kernel
theorem d_Mo_letter_6 : decode b_Mo_letter 6 = .ok (.iload_n 1, 1) := by decide +kernel
theorem d_Mo_letter_7 : decode b_Mo_letter 7 = .ok (.invokevirtual 57, 3) := by decide +kernel
theorem d_Mo_letter_10 : decode b_Mo_letter 10 = .ok (.ifCond .eq 27, 3) := by decide +kernel
theorem d_Mo_letter_13 : decode b_Mo_letter 13 = .ok (.iload_n 2, 1) := by decide +kernel
theorem d_Mo_letter_14 : decode b_Mo_letter 14 = .ok (.invokestatic 61, 3) := by decide +kernel
theorem d_Mo_letter_17 : decode b_Mo_letter 17 = .ok (.ifCond .eq 20, 3) := by decide +kernel
theorem d_Mo_letter_20 : decode b_Mo_letter 20 = .ok (.aload_n 0, 1) := by decide +kernel
theorem d_Mo_letter_21 : decode b_Mo_letter 21 = .ok (.iconst 3, 1) := by decide +kernel
theorem d_Mo_letter_22 : decode b_Mo_letter 22 = .ok (.iload_n 1, 1) := by decide +kernel
theorem d_Mo_letter_23 : decode b_Mo_letter 23 = .ok (.imul, 1) := by decide +kernel
theorem d_Mo_letter_24 : decode b_Mo_letter 24 = .ok (.iload_n 2, 1) := by decide +kernel
theorem d_Mo_letter_25 : decode b_Mo_letter 25 = .ok (.iadd, 1) := by decide +kernel
theorem d_Mo_letter_26 : decode b_Mo_letter 26 = .ok (.iload_n 3, 1) := by decide +kernel
theorem d_Mo_letter_27 : decode b_Mo_letter 27 = .ok (.invokevirtual 64, 3) := by decide +kernel
theorem d_Mo_letter_30 : decode b_Mo_letter 30 = .ok (.ifCond .eq 7, 3) := by decide +kernel
theorem d_Mo_letter_33 : decode b_Mo_letter 33 = .ok (.iconst 1, 1) := by decide +kernel
theorem d_Mo_letter_34 : decode b_Mo_letter 34 = .ok (.goto 4, 3) := by decide +kernel
theorem d_Mo_letter_37 : decode b_Mo_letter 37 = .ok (.iconst 0, 1) := by decide +kernel
theorem d_Mo_letter_38 : decode b_Mo_letter 38 = .ok (.ireturn, 1) := by decide +kernel
theorem d_Mo_ask_0 : decode b_Mo_ask 0 = .ok (.aload_n 0, 1) := by decide +kernel
theorem d_Mo_ask_1 : decode b_Mo_ask 1 = .ok (.iconst 0, 1) := by decide +kernel
theorem d_Mo_ask_2 : decode b_Mo_ask 2 = .ok (.putfield 51, 3) := by decide +kernel
theorem d_Mo_ask_5 : decode b_Mo_ask 5 = .ok (.iload_n 1, 1) := by decide +kernel
theorem d_Mo_ask_6 : decode b_Mo_ask 6 = .ok (.invokestatic 61, 3) := by decide +kernel
theorem d_Mo_ask_9 : decode b_Mo_ask 9 = .ok (.ifCond .eq 19, 3) := by decide +kernel
theorem d_Mo_ask_12 : decode b_Mo_ask 12 = .ok (.aload_n 0, 1) := by decide +kernel
theorem d_Mo_ask_13 : decode b_Mo_ask 13 = .ok (.bipush 120, 2) := by decide +kernel
theorem d_Mo_ask_15 : decode b_Mo_ask 15 = .ok (.iload_n 1, 1) := by decide +kernel
theorem d_Mo_ask_16 : decode b_Mo_ask 16 = .ok (.iadd, 1) := by decide +kernel
theorem d_Mo_ask_17 : decode b_Mo_ask 17 = .ok (.iload_n 2, 1) := by decide +kernel
theorem d_Mo_ask_18 : decode b_Mo_ask 18 = .ok (.invokevirtual 64, 3) := by decide +kernel
theorem d_Mo_ask_21 : decode b_Mo_ask 21 = .ok (.ifCond .eq 7, 3) := by decide +kernel
theorem d_Mo_ask_24 : decode b_Mo_ask 24 = .ok (.iconst 1, 1) := by decide +kernel
theorem d_Mo_ask_25 : decode b_Mo_ask 25 = .ok (.goto 4, 3) := by decide +kernel
theorem d_Mo_ask_28 : decode b_Mo_ask 28 = .ok (.iconst 0, 1) := by decide +kernel
theorem d_Mo_ask_29 : decode b_Mo_ask 29 = .ok (.ireturn, 1) := by decide +kernel
theorem d_Mo_asked_0 : decode b_Mo_asked 0 = .ok (.aload_n 0, 1) := by decide +kernel
theorem d_Mo_asked_1 : decode b_Mo_asked 1 = .ok (.iconst 0, 1) := by decide +kernel
theorem d_Mo_asked_2 : decode b_Mo_asked 2 = .ok (.putfield 51, 3) := by decide +kernel
theorem d_Mo_asked_5 : decode b_Mo_asked 5 = .ok (.iload_n 1, 1) := by decide +kernel
theorem d_Mo_asked_6 : decode b_Mo_asked 6 = .ok (.iconst (-1), 1) := by decide +kernel
theorem d_Mo_asked_7 : decode b_Mo_asked 7 = .ok (.if_icmp .lt 10, 3) := by decide +kernel
theorem d_Mo_asked_10 : decode b_Mo_asked 10 = .ok (.iload_n 1, 1) := by decide +kernel
theorem d_Mo_asked_11 : decode b_Mo_asked 11 = .ok (.sipush 999, 3) := by decide +kernel
theorem d_Mo_asked_14 : decode b_Mo_asked 14 = .ok (.if_icmp .le 5, 3) := by decide +kernel
theorem d_Mo_asked_17 : decode b_Mo_asked 17 = .ok (.iconst 0, 1) := by decide +kernel
theorem d_Mo_asked_18 : decode b_Mo_asked 18 = .ok (.ireturn, 1) := by decide +kernel
theorem d_Mo_asked_19 : decode b_Mo_asked 19 = .ok (.aload_n 0, 1) := by decide +kernel
theorem d_Mo_asked_20 : decode b_Mo_asked 20 = .ok (.iload_n 1, 1) := by decide +kernel
theorem d_Mo_asked_21 : decode b_Mo_asked 21 = .ok (.putfield 29, 3) := by decide +kernel
theorem d_Mo_asked_24 : decode b_Mo_asked 24 = .ok (.aload_n 0, 1) := by decide +kernel
theorem d_Mo_asked_25 : decode b_Mo_asked 25 = .ok (.getfield 23, 3) := by decide +kernel
theorem d_Mo_asked_28 : decode b_Mo_asked 28 = .ok (.bipush 120, 2) := by decide +kernel
theorem d_Mo_asked_30 : decode b_Mo_asked 30 = .ok (.iconst 0, 1) := by decide +kernel
theorem d_Mo_asked_31 : decode b_Mo_asked 31 = .ok (.iastore, 1) := by decide +kernel
theorem d_Mo_asked_32 : decode b_Mo_asked 32 = .ok (.aload_n 0, 1) := by decide +kernel
theorem d_Mo_asked_33 : decode b_Mo_asked 33 = .ok (.getfield 23, 3) := by decide +kernel
theorem d_Mo_asked_36 : decode b_Mo_asked 36 = .ok (.bipush 121, 2) := by decide +kernel
theorem d_Mo_asked_38 : decode b_Mo_asked 38 = .ok (.iconst 0, 1) := by decide +kernel
theorem d_Mo_asked_39 : decode b_Mo_asked 39 = .ok (.iastore, 1) := by decide +kernel
theorem d_Mo_asked_40 : decode b_Mo_asked 40 = .ok (.aload_n 0, 1) := by decide +kernel
theorem d_Mo_asked_41 : decode b_Mo_asked 41 = .ok (.getfield 23, 3) := by decide +kernel
theorem d_Mo_asked_44 : decode b_Mo_asked 44 = .ok (.bipush 122, 2) := by decide +kernel
theorem d_Mo_asked_46 : decode b_Mo_asked 46 = .ok (.iconst 0, 1) := by decide +kernel
theorem d_Mo_asked_47 : decode b_Mo_asked 47 = .ok (.iastore, 1) := by decide +kernel
theorem d_Mo_asked_48 : decode b_Mo_asked 48 = .ok (.iconst 1, 1) := by decide +kernel
theorem d_Mo_asked_49 : decode b_Mo_asked 49 = .ok (.ireturn, 1) := by decide +kernel
theorem d_Mo_weight_0 : decode b_Mo_weight 0 = .ok (.aload_n 0, 1) := by decide +kernel
theorem d_Mo_weight_1 : decode b_Mo_weight 1 = .ok (.iconst 0, 1) := by decide +kernel
theorem d_Mo_weight_2 : decode b_Mo_weight 2 = .ok (.putfield 51, 3) := by decide +kernel
theorem d_Mo_weight_5 : decode b_Mo_weight 5 = .ok (.iload_n 1, 1) := by decide +kernel
theorem d_Mo_weight_6 : decode b_Mo_weight 6 = .ok (.ifCond .lt 19, 3) := by decide +kernel
theorem d_Mo_weight_9 : decode b_Mo_weight 9 = .ok (.iload_n 1, 1) := by decide +kernel
theorem d_Mo_weight_10 : decode b_Mo_weight 10 = .ok (.iconst 5, 1) := by decide +kernel
theorem d_Mo_weight_11 : decode b_Mo_weight 11 = .ok (.if_icmp .gt 14, 3) := by decide +kernel
theorem d_Mo_weight_14 : decode b_Mo_weight 14 = .ok (.iload_n 2, 1) := by decide +kernel
theorem d_Mo_weight_15 : decode b_Mo_weight 15 = .ok (.ifCond .lt 10, 3) := by decide +kernel
theorem d_Mo_weight_18 : decode b_Mo_weight 18 = .ok (.iload_n 2, 1) := by decide +kernel
theorem d_Mo_weight_19 : decode b_Mo_weight 19 = .ok (.sipush 1000, 3) := by decide +kernel
theorem d_Mo_weight_22 : decode b_Mo_weight 22 = .ok (.if_icmp .le 5, 3) := by decide +kernel
theorem d_Mo_weight_25 : decode b_Mo_weight 25 = .ok (.iconst (-1), 1) := by decide +kernel
theorem d_Mo_weight_26 : decode b_Mo_weight 26 = .ok (.ireturn, 1) := by decide +kernel
theorem d_Mo_weight_27 : decode b_Mo_weight 27 = .ok (.aload_n 0, 1) := by decide +kernel
theorem d_Mo_weight_28 : decode b_Mo_weight 28 = .ok (.getfield 33, 3) := by decide +kernel
theorem d_Mo_weight_31 : decode b_Mo_weight 31 = .ok (.iload_n 1, 1) := by decide +kernel
theorem d_Mo_weight_32 : decode b_Mo_weight 32 = .ok (.iaload, 1) := by decide +kernel
theorem d_Mo_weight_33 : decode b_Mo_weight 33 = .ok (.istore_n 3, 1) := by decide +kernel
theorem d_Mo_weight_34 : decode b_Mo_weight 34 = .ok (.aload_n 0, 1) := by decide +kernel
theorem d_Mo_weight_35 : decode b_Mo_weight 35 = .ok (.getfield 33, 3) := by decide +kernel
theorem d_Mo_weight_38 : decode b_Mo_weight 38 = .ok (.iload_n 1, 1) := by decide +kernel
theorem d_Mo_weight_39 : decode b_Mo_weight 39 = .ok (.iload_n 2, 1) := by decide +kernel
theorem d_Mo_weight_40 : decode b_Mo_weight 40 = .ok (.iastore, 1) := by decide +kernel
theorem d_Mo_weight_41 : decode b_Mo_weight 41 = .ok (.iload_n 3, 1) := by decide +kernel
theorem d_Mo_weight_42 : decode b_Mo_weight 42 = .ok (.ireturn, 1) := by decide +kernel
theorem d_Mo_lesser_0 : decode b_Mo_lesser 0 = .ok (.iload_n 0, 1) := by decide +kernel
theorem d_Mo_lesser_1 : decode b_Mo_lesser 1 = .ok (.iload_n 1, 1) := by decide +kernel
theorem d_Mo_lesser_2 : decode b_Mo_lesser 2 = .ok (.if_icmp .ge 7, 3) := by decide +kernel
theorem d_Mo_lesser_5 : decode b_Mo_lesser 5 = .ok (.iload_n 0, 1) := by decide +kernel
theorem d_Mo_lesser_6 : decode b_Mo_lesser 6 = .ok (.goto 4, 3) := by decide +kernel
theorem d_Mo_lesser_9 : decode b_Mo_lesser 9 = .ok (.iload_n 1, 1) := by decide +kernel
theorem d_Mo_lesser_10 : decode b_Mo_lesser 10 = .ok (.ireturn, 1) := by decide +kernel
theorem d_Mo_sound_0 : decode b_Mo_sound 0 = .ok (.iload_n 0, 1) := by decide +kernel
theorem d_Mo_sound_1 : decode b_Mo_sound 1 = .ok (.tableswitch 123 1 25 #[115, 117, 119, 123, 115, 117, 123, 123, 117, 117, 123, 121, 121, 123, 115, 117, 123, 117, 119, 123, 115, 123, 117, 123, 117], 115) := by decide +kernel
theorem d_Mo_sound_116 : decode b_Mo_sound 116 = .ok (.iconst 1, 1) := by decide +kernel
theorem d_Mo_sound_117 : decode b_Mo_sound 117 = .ok (.ireturn, 1) := by decide +kernel
theorem d_Mo_sound_118 : decode b_Mo_sound 118 = .ok (.iconst 2, 1) := by decide +kernel
theorem d_Mo_sound_119 : decode b_Mo_sound 119 = .ok (.ireturn, 1) := by decide +kernel
theorem d_Mo_sound_120 : decode b_Mo_sound 120 = .ok (.iconst 3, 1) := by decide +kernel
theorem d_Mo_sound_121 : decode b_Mo_sound 121 = .ok (.ireturn, 1) := by decide +kernel
theorem d_Mo_sound_122 : decode b_Mo_sound 122 = .ok (.iconst 4, 1) := by decide +kernel
theorem d_Mo_sound_123 : decode b_Mo_sound 123 = .ok (.ireturn, 1) := by decide +kernel
theorem d_Mo_sound_124 : decode b_Mo_sound 124 = .ok (.iconst (-1), 1) := by decide +kernel
theorem d_Mo_sound_125 : decode b_Mo_sound 125 = .ok (.iload_n 0, 1) := by decide +kernel
theorem d_Mo_sound_126 : decode b_Mo_sound 126 = .ok (.isub, 1) := by decide +kernel
theorem d_Mo_sound_127 : decode b_Mo_sound 127 = .ok (.ireturn, 1) := by decide +kernel
theorem d_Mo_exchange_0 : decode b_Mo_exchange 0 = .ok (.iload_n 1, 1) := by decide +kernel
theorem d_Mo_exchange_1 : decode b_Mo_exchange 1 = .ok (.iload_n 2, 1) := by decide +kernel
theorem d_Mo_exchange_2 : decode b_Mo_exchange 2 = .ok (.if_icmp .ne 7, 3) := by decide +kernel
theorem d_Mo_exchange_5 : decode b_Mo_exchange 5 = .ok (.iconst 0, 1) := by decide +kernel
theorem d_Mo_exchange_6 : decode b_Mo_exchange 6 = .ok (.goto 38, 3) := by decide +kernel
theorem d_Mo_exchange_9 : decode b_Mo_exchange 9 = .ok (.iload_n 1, 1) := by decide +kernel
theorem d_Mo_exchange_10 : decode b_Mo_exchange 10 = .ok (.invokestatic 68, 3) := by decide +kernel
theorem d_Mo_exchange_13 : decode b_Mo_exchange 13 = .ok (.iload_n 2, 1) := by decide +kernel
theorem d_Mo_exchange_14 : decode b_Mo_exchange 14 = .ok (.invokestatic 68, 3) := by decide +kernel
theorem d_Mo_exchange_17 : decode b_Mo_exchange 17 = .ok (.if_icmp .ne 21, 3) := by decide +kernel
theorem d_Mo_exchange_20 : decode b_Mo_exchange 20 = .ok (.aload_n 0, 1) := by decide +kernel
theorem d_Mo_exchange_21 : decode b_Mo_exchange 21 = .ok (.getfield 33, 3) := by decide +kernel
theorem d_Mo_exchange_24 : decode b_Mo_exchange 24 = .ok (.iconst 2, 1) := by decide +kernel
theorem d_Mo_exchange_25 : decode b_Mo_exchange 25 = .ok (.iaload, 1) := by decide +kernel
theorem d_Mo_exchange_26 : decode b_Mo_exchange 26 = .ok (.aload_n 0, 1) := by decide +kernel
theorem d_Mo_exchange_27 : decode b_Mo_exchange 27 = .ok (.getfield 33, 3) := by decide +kernel
theorem d_Mo_exchange_30 : decode b_Mo_exchange 30 = .ok (.iconst 3, 1) := by decide +kernel
theorem d_Mo_exchange_31 : decode b_Mo_exchange 31 = .ok (.iaload, 1) := by decide +kernel
theorem d_Mo_exchange_32 : decode b_Mo_exchange 32 = .ok (.invokestatic 72, 3) := by decide +kernel
theorem d_Mo_exchange_35 : decode b_Mo_exchange 35 = .ok (.goto 9, 3) := by decide +kernel
theorem d_Mo_exchange_38 : decode b_Mo_exchange 38 = .ok (.aload_n 0, 1) := by decide +kernel
theorem d_Mo_exchange_39 : decode b_Mo_exchange 39 = .ok (.getfield 33, 3) := by decide +kernel
theorem d_Mo_exchange_42 : decode b_Mo_exchange 42 = .ok (.iconst 2, 1) := by decide +kernel
theorem d_Mo_exchange_43 : decode b_Mo_exchange 43 = .ok (.iaload, 1) := by decide +kernel
theorem d_Mo_exchange_44 : decode b_Mo_exchange 44 = .ok (.ireturn, 1) := by decide +kernel
theorem d_Mo_change_0 : decode b_Mo_change 0 = .ok (.iconst 0, 1) := by decide +kernel
theorem d_Mo_change_1 : decode b_Mo_change 1 = .ok (.istore_n 3, 1) := by decide +kernel
theorem d_Mo_change_2 : decode b_Mo_change 2 = .ok (.iload_n 3, 1) := by decide +kernel
theorem d_Mo_change_3 : decode b_Mo_change 3 = .ok (.aload_n 0, 1) := by decide +kernel
theorem d_Mo_change_4 : decode b_Mo_change 4 = .ok (.getfield 23, 3) := by decide +kernel
theorem d_Mo_change_7 : decode b_Mo_change 7 = .ok (.iload_n 1, 1) := by decide +kernel
theorem d_Mo_change_8 : decode b_Mo_change 8 = .ok (.iaload, 1) := by decide +kernel
theorem d_Mo_change_9 : decode b_Mo_change 9 = .ok (.if_icmp .gt 189, 3) := by decide +kernel
theorem d_Mo_change_12 : decode b_Mo_change 12 = .ok (.iconst 0, 1) := by decide +kernel
theorem d_Mo_change_13 : decode b_Mo_change 13 = .ok (.istore 4, 2) := by decide +kernel
theorem d_Mo_change_15 : decode b_Mo_change 15 = .ok (.iload 4, 2) := by decide +kernel
theorem d_Mo_change_17 : decode b_Mo_change 17 = .ok (.aload_n 0, 1) := by decide +kernel
theorem d_Mo_change_18 : decode b_Mo_change 18 = .ok (.getfield 23, 3) := by decide +kernel
theorem d_Mo_change_21 : decode b_Mo_change 21 = .ok (.iload_n 2, 1) := by decide +kernel
theorem d_Mo_change_22 : decode b_Mo_change 22 = .ok (.iaload, 1) := by decide +kernel
theorem d_Mo_change_23 : decode b_Mo_change 23 = .ok (.if_icmp .gt 169, 3) := by decide +kernel
theorem d_Mo_change_26 : decode b_Mo_change 26 = .ok (.iload_n 3, 1) := by decide +kernel
theorem d_Mo_change_27 : decode b_Mo_change 27 = .ok (.ifCond .ne 12, 3) := by decide +kernel
theorem d_Mo_change_30 : decode b_Mo_change 30 = .ok (.iload 4, 2) := by decide +kernel
theorem d_Mo_change_32 : decode b_Mo_change 32 = .ok (.ifCond .ne 7, 3) := by decide +kernel
theorem d_Mo_change_35 : decode b_Mo_change 35 = .ok (.iconst 0, 1) := by decide +kernel
theorem d_Mo_change_36 : decode b_Mo_change 36 = .ok (.goto 5, 3) := by decide +kernel
theorem d_Mo_change_39 : decode b_Mo_change 39 = .ok (.ldc 76, 2) := by decide +kernel
theorem d_Mo_change_41 : decode b_Mo_change 41 = .ok (.istore 5, 2) := by decide +kernel
theorem d_Mo_change_43 : decode b_Mo_change 43 = .ok (.iload_n 3, 1) := by decide +kernel
theorem d_Mo_change_44 : decode b_Mo_change 44 = .ok (.ifCond .le 31, 3) := by decide +kernel
theorem d_Mo_change_47 : decode b_Mo_change 47 = .ok (.iload 5, 2) := by decide +kernel
theorem d_Mo_change_49 : decode b_Mo_change 49 = .ok (.aload_n 0, 1) := by decide +kernel
theorem d_Mo_change_50 : decode b_Mo_change 50 = .ok (.getfield 42, 3) := by decide +kernel
theorem d_Mo_change_53 : decode b_Mo_change 53 = .ok (.bipush 11, 2) := by decide +kernel
theorem d_Mo_change_55 : decode b_Mo_change 55 = .ok (.iload_n 3, 1) := by decide +kernel
theorem d_Mo_change_56 : decode b_Mo_change 56 = .ok (.iconst 1, 1) := by decide +kernel
theorem d_Mo_change_57 : decode b_Mo_change 57 = .ok (.isub, 1) := by decide +kernel
theorem d_Mo_change_58 : decode b_Mo_change 58 = .ok (.imul, 1) := by decide +kernel
theorem d_Mo_change_59 : decode b_Mo_change 59 = .ok (.iload 4, 2) := by decide +kernel
theorem d_Mo_change_61 : decode b_Mo_change 61 = .ok (.iadd, 1) := by decide +kernel
theorem d_Mo_change_62 : decode b_Mo_change 62 = .ok (.iaload, 1) := by decide +kernel
theorem d_Mo_change_63 : decode b_Mo_change 63 = .ok (.aload_n 0, 1) := by decide +kernel
theorem d_Mo_change_64 : decode b_Mo_change 64 = .ok (.getfield 33, 3) := by decide +kernel
theorem d_Mo_change_67 : decode b_Mo_change 67 = .ok (.iconst 1, 1) := by decide +kernel
theorem d_Mo_change_68 : decode b_Mo_change 68 = .ok (.iaload, 1) := by decide +kernel
theorem d_Mo_change_69 : decode b_Mo_change 69 = .ok (.iadd, 1) := by decide +kernel
theorem d_Mo_change_70 : decode b_Mo_change 70 = .ok (.invokestatic 72, 3) := by decide +kernel
theorem d_Mo_change_73 : decode b_Mo_change 73 = .ok (.istore 5, 2) := by decide +kernel
theorem d_Mo_change_75 : decode b_Mo_change 75 = .ok (.iload 4, 2) := by decide +kernel
theorem d_Mo_change_77 : decode b_Mo_change 77 = .ok (.ifCond .le 31, 3) := by decide +kernel
theorem d_Mo_change_80 : decode b_Mo_change 80 = .ok (.iload 5, 2) := by decide +kernel
theorem d_Mo_change_82 : decode b_Mo_change 82 = .ok (.aload_n 0, 1) := by decide +kernel
theorem d_Mo_change_83 : decode b_Mo_change 83 = .ok (.getfield 42, 3) := by decide +kernel
theorem d_Mo_change_86 : decode b_Mo_change 86 = .ok (.bipush 11, 2) := by decide +kernel
theorem d_Mo_change_88 : decode b_Mo_change 88 = .ok (.iload_n 3, 1) := by decide +kernel
theorem d_Mo_change_89 : decode b_Mo_change 89 = .ok (.imul, 1) := by decide +kernel
theorem d_Mo_change_90 : decode b_Mo_change 90 = .ok (.iload 4, 2) := by decide +kernel
theorem d_Mo_change_92 : decode b_Mo_change 92 = .ok (.iadd, 1) := by decide +kernel
theorem d_Mo_change_93 : decode b_Mo_change 93 = .ok (.iconst 1, 1) := by decide +kernel
theorem d_Mo_change_94 : decode b_Mo_change 94 = .ok (.isub, 1) := by decide +kernel
theorem d_Mo_change_95 : decode b_Mo_change 95 = .ok (.iaload, 1) := by decide +kernel
theorem d_Mo_change_96 : decode b_Mo_change 96 = .ok (.aload_n 0, 1) := by decide +kernel
theorem d_Mo_change_97 : decode b_Mo_change 97 = .ok (.getfield 33, 3) := by decide +kernel
theorem d_Mo_change_100 : decode b_Mo_change 100 = .ok (.iconst 0, 1) := by decide +kernel
theorem d_Mo_change_101 : decode b_Mo_change 101 = .ok (.iaload, 1) := by decide +kernel
theorem d_Mo_change_102 : decode b_Mo_change 102 = .ok (.iadd, 1) := by decide +kernel
theorem d_Mo_change_103 : decode b_Mo_change 103 = .ok (.invokestatic 72, 3) := by decide +kernel
theorem d_Mo_change_106 : decode b_Mo_change 106 = .ok (.istore 5, 2) := by decide +kernel
theorem d_Mo_change_108 : decode b_Mo_change 108 = .ok (.iload_n 3, 1) := by decide +kernel
theorem d_Mo_change_109 : decode b_Mo_change 109 = .ok (.ifCond .le 63, 3) := by decide +kernel
theorem d_Mo_change_112 : decode b_Mo_change 112 = .ok (.iload 4, 2) := by decide +kernel
theorem d_Mo_change_114 : decode b_Mo_change 114 = .ok (.ifCond .le 58, 3) := by decide +kernel
theorem d_Mo_change_117 : decode b_Mo_change 117 = .ok (.iload 5, 2) := by decide +kernel
theorem d_Mo_change_119 : decode b_Mo_change 119 = .ok (.aload_n 0, 1) := by decide +kernel
theorem d_Mo_change_120 : decode b_Mo_change 120 = .ok (.getfield 42, 3) := by decide +kernel
theorem d_Mo_change_123 : decode b_Mo_change 123 = .ok (.bipush 11, 2) := by decide +kernel
theorem d_Mo_change_125 : decode b_Mo_change 125 = .ok (.iload_n 3, 1) := by decide +kernel
theorem d_Mo_change_126 : decode b_Mo_change 126 = .ok (.iconst 1, 1) := by decide +kernel
theorem d_Mo_change_127 : decode b_Mo_change 127 = .ok (.isub, 1) := by decide +kernel
theorem d_Mo_change_128 : decode b_Mo_change 128 = .ok (.imul, 1) := by decide +kernel
theorem d_Mo_change_129 : decode b_Mo_change 129 = .ok (.iload 4, 2) := by decide +kernel
theorem d_Mo_change_131 : decode b_Mo_change 131 = .ok (.iadd, 1) := by decide +kernel
theorem d_Mo_change_132 : decode b_Mo_change 132 = .ok (.iconst 1, 1) := by decide +kernel
theorem d_Mo_change_133 : decode b_Mo_change 133 = .ok (.isub, 1) := by decide +kernel
theorem d_Mo_change_134 : decode b_Mo_change 134 = .ok (.iaload, 1) := by decide +kernel
theorem d_Mo_change_135 : decode b_Mo_change 135 = .ok (.aload_n 0, 1) := by decide +kernel
theorem d_Mo_change_136 : decode b_Mo_change 136 = .ok (.aload_n 0, 1) := by decide +kernel
theorem d_Mo_change_137 : decode b_Mo_change 137 = .ok (.getfield 26, 3) := by decide +kernel
theorem d_Mo_change_140 : decode b_Mo_change 140 = .ok (.bipush 10, 2) := by decide +kernel
theorem d_Mo_change_142 : decode b_Mo_change 142 = .ok (.iload_n 1, 1) := by decide +kernel
theorem d_Mo_change_143 : decode b_Mo_change 143 = .ok (.imul, 1) := by decide +kernel
theorem d_Mo_change_144 : decode b_Mo_change 144 = .ok (.iload_n 3, 1) := by decide +kernel
theorem d_Mo_change_145 : decode b_Mo_change 145 = .ok (.iadd, 1) := by decide +kernel
theorem d_Mo_change_146 : decode b_Mo_change 146 = .ok (.iconst 1, 1) := by decide +kernel
theorem d_Mo_change_147 : decode b_Mo_change 147 = .ok (.isub, 1) := by decide +kernel
theorem d_Mo_change_148 : decode b_Mo_change 148 = .ok (.iaload, 1) := by decide +kernel
theorem d_Mo_change_149 : decode b_Mo_change 149 = .ok (.aload_n 0, 1) := by decide +kernel
theorem d_Mo_change_150 : decode b_Mo_change 150 = .ok (.getfield 26, 3) := by decide +kernel
theorem d_Mo_change_153 : decode b_Mo_change 153 = .ok (.bipush 10, 2) := by decide +kernel
theorem d_Mo_change_155 : decode b_Mo_change 155 = .ok (.iload_n 2, 1) := by decide +kernel
theorem d_Mo_change_156 : decode b_Mo_change 156 = .ok (.imul, 1) := by decide +kernel
theorem d_Mo_change_157 : decode b_Mo_change 157 = .ok (.iload 4, 2) := by decide +kernel
theorem d_Mo_change_159 : decode b_Mo_change 159 = .ok (.iadd, 1) := by decide +kernel
theorem d_Mo_change_160 : decode b_Mo_change 160 = .ok (.iconst 1, 1) := by decide +kernel
theorem d_Mo_change_161 : decode b_Mo_change 161 = .ok (.isub, 1) := by decide +kernel
theorem d_Mo_change_162 : decode b_Mo_change 162 = .ok (.iaload, 1) := by decide +kernel
theorem d_Mo_change_163 : decode b_Mo_change 163 = .ok (.invokevirtual 77, 3) := by decide +kernel
theorem d_Mo_change_166 : decode b_Mo_change 166 = .ok (.iadd, 1) := by decide +kernel
theorem d_Mo_change_167 : decode b_Mo_change 167 = .ok (.invokestatic 72, 3) := by decide +kernel
theorem d_Mo_change_170 : decode b_Mo_change 170 = .ok (.istore 5, 2) := by decide +kernel
theorem d_Mo_change_172 : decode b_Mo_change 172 = .ok (.aload_n 0, 1) := by decide +kernel
theorem d_Mo_change_173 : decode b_Mo_change 173 = .ok (.getfield 42, 3) := by decide +kernel
theorem d_Mo_change_176 : decode b_Mo_change 176 = .ok (.bipush 11, 2) := by decide +kernel
theorem d_Mo_change_178 : decode b_Mo_change 178 = .ok (.iload_n 3, 1) := by decide +kernel
theorem d_Mo_change_179 : decode b_Mo_change 179 = .ok (.imul, 1) := by decide +kernel
theorem d_Mo_change_180 : decode b_Mo_change 180 = .ok (.iload 4, 2) := by decide +kernel
theorem d_Mo_change_182 : decode b_Mo_change 182 = .ok (.iadd, 1) := by decide +kernel
theorem d_Mo_change_183 : decode b_Mo_change 183 = .ok (.iload 5, 2) := by decide +kernel
theorem d_Mo_change_185 : decode b_Mo_change 185 = .ok (.iastore, 1) := by decide +kernel
theorem d_Mo_change_186 : decode b_Mo_change 186 = .ok (.iinc 4 1, 3) := by decide +kernel
theorem d_Mo_change_189 : decode b_Mo_change 189 = .ok (.goto (-174), 3) := by decide +kernel
theorem d_Mo_change_192 : decode b_Mo_change 192 = .ok (.iinc 3 1, 3) := by decide +kernel
theorem d_Mo_change_195 : decode b_Mo_change 195 = .ok (.goto (-193), 3) := by decide +kernel
theorem d_Mo_change_198 : decode b_Mo_change 198 = .ok (.aload_n 0, 1) := by decide +kernel
theorem d_Mo_change_199 : decode b_Mo_change 199 = .ok (.getfield 42, 3) := by decide +kernel
theorem d_Mo_change_202 : decode b_Mo_change 202 = .ok (.bipush 11, 2) := by decide +kernel
theorem d_Mo_change_204 : decode b_Mo_change 204 = .ok (.aload_n 0, 1) := by decide +kernel
theorem d_Mo_change_205 : decode b_Mo_change 205 = .ok (.getfield 23, 3) := by decide +kernel
theorem d_Mo_change_208 : decode b_Mo_change 208 = .ok (.iload_n 1, 1) := by decide +kernel
theorem d_Mo_change_209 : decode b_Mo_change 209 = .ok (.iaload, 1) := by decide +kernel
theorem d_Mo_change_210 : decode b_Mo_change 210 = .ok (.imul, 1) := by decide +kernel
theorem d_Mo_change_211 : decode b_Mo_change 211 = .ok (.aload_n 0, 1) := by decide +kernel
theorem d_Mo_change_212 : decode b_Mo_change 212 = .ok (.getfield 23, 3) := by decide +kernel
theorem d_Mo_change_215 : decode b_Mo_change 215 = .ok (.iload_n 2, 1) := by decide +kernel
theorem d_Mo_change_216 : decode b_Mo_change 216 = .ok (.iaload, 1) := by decide +kernel
theorem d_Mo_change_217 : decode b_Mo_change 217 = .ok (.iadd, 1) := by decide +kernel
theorem d_Mo_change_218 : decode b_Mo_change 218 = .ok (.iaload, 1) := by decide +kernel
theorem d_Mo_change_219 : decode b_Mo_change 219 = .ok (.ireturn, 1) := by decide +kernel
theorem d_Mo_beyond_0 : decode b_Mo_beyond 0 = .ok (.iconst 0, 1) := by decide +kernel
theorem d_Mo_beyond_1 : decode b_Mo_beyond 1 = .ok (.istore_n 3, 1) := by decide +kernel
theorem d_Mo_beyond_2 : decode b_Mo_beyond 2 = .ok (.iconst 0, 1) := by decide +kernel
theorem d_Mo_beyond_3 : decode b_Mo_beyond 3 = .ok (.istore 4, 2) := by decide +kernel
theorem d_Mo_beyond_5 : decode b_Mo_beyond 5 = .ok (.iload 4, 2) := by decide +kernel
theorem d_Mo_beyond_7 : decode b_Mo_beyond 7 = .ok (.bipush 26, 2) := by decide +kernel
theorem d_Mo_beyond_9 : decode b_Mo_beyond 9 = .ok (.if_icmp .ge 122, 3) := by decide +kernel
theorem d_Mo_beyond_12 : decode b_Mo_beyond 12 = .ok (.iconst 0, 1) := by decide +kernel
theorem d_Mo_beyond_13 : decode b_Mo_beyond 13 = .ok (.istore 5, 2) := by decide +kernel
theorem d_Mo_beyond_15 : decode b_Mo_beyond 15 = .ok (.iconst 0, 1) := by decide +kernel
theorem d_Mo_beyond_16 : decode b_Mo_beyond 16 = .ok (.istore 6, 2) := by decide +kernel
theorem d_Mo_beyond_18 : decode b_Mo_beyond 18 = .ok (.iload 6, 2) := by decide +kernel
theorem d_Mo_beyond_20 : decode b_Mo_beyond 20 = .ok (.aload_n 0, 1) := by decide +kernel
theorem d_Mo_beyond_21 : decode b_Mo_beyond 21 = .ok (.getfield 23, 3) := by decide +kernel
theorem d_Mo_beyond_24 : decode b_Mo_beyond 24 = .ok (.iload_n 1, 1) := by decide +kernel
theorem d_Mo_beyond_25 : decode b_Mo_beyond 25 = .ok (.iaload, 1) := by decide +kernel
theorem d_Mo_beyond_26 : decode b_Mo_beyond 26 = .ok (.if_icmp .ge 37, 3) := by decide +kernel
theorem d_Mo_beyond_29 : decode b_Mo_beyond 29 = .ok (.aload_n 0, 1) := by decide +kernel
theorem d_Mo_beyond_30 : decode b_Mo_beyond 30 = .ok (.getfield 26, 3) := by decide +kernel
theorem d_Mo_beyond_33 : decode b_Mo_beyond 33 = .ok (.bipush 10, 2) := by decide +kernel
theorem d_Mo_beyond_35 : decode b_Mo_beyond 35 = .ok (.iload_n 1, 1) := by decide +kernel
theorem d_Mo_beyond_36 : decode b_Mo_beyond 36 = .ok (.imul, 1) := by decide +kernel
theorem d_Mo_beyond_37 : decode b_Mo_beyond 37 = .ok (.iload 6, 2) := by decide +kernel
theorem d_Mo_beyond_39 : decode b_Mo_beyond 39 = .ok (.iadd, 1) := by decide +kernel
theorem d_Mo_beyond_40 : decode b_Mo_beyond 40 = .ok (.iaload, 1) := by decide +kernel
theorem d_Mo_beyond_41 : decode b_Mo_beyond 41 = .ok (.iload 4, 2) := by decide +kernel
theorem d_Mo_beyond_43 : decode b_Mo_beyond 43 = .ok (.if_icmp .ne 10, 3) := by decide +kernel
theorem d_Mo_beyond_46 : decode b_Mo_beyond 46 = .ok (.iload 5, 2) := by decide +kernel
theorem d_Mo_beyond_48 : decode b_Mo_beyond 48 = .ok (.iconst 1, 1) := by decide +kernel
theorem d_Mo_beyond_49 : decode b_Mo_beyond 49 = .ok (.iadd, 1) := by decide +kernel
theorem d_Mo_beyond_50 : decode b_Mo_beyond 50 = .ok (.goto 5, 3) := by decide +kernel
theorem d_Mo_beyond_53 : decode b_Mo_beyond 53 = .ok (.iload 5, 2) := by decide +kernel
theorem d_Mo_beyond_55 : decode b_Mo_beyond 55 = .ok (.istore 5, 2) := by decide +kernel
theorem d_Mo_beyond_57 : decode b_Mo_beyond 57 = .ok (.iinc 6 1, 3) := by decide +kernel
theorem d_Mo_beyond_60 : decode b_Mo_beyond 60 = .ok (.goto (-42), 3) := by decide +kernel
theorem d_Mo_beyond_63 : decode b_Mo_beyond 63 = .ok (.iconst 0, 1) := by decide +kernel
theorem d_Mo_beyond_64 : decode b_Mo_beyond 64 = .ok (.istore 6, 2) := by decide +kernel
theorem d_Mo_beyond_66 : decode b_Mo_beyond 66 = .ok (.iload 6, 2) := by decide +kernel
theorem d_Mo_beyond_68 : decode b_Mo_beyond 68 = .ok (.aload_n 0, 1) := by decide +kernel
theorem d_Mo_beyond_69 : decode b_Mo_beyond 69 = .ok (.getfield 23, 3) := by decide +kernel
theorem d_Mo_beyond_72 : decode b_Mo_beyond 72 = .ok (.iload_n 2, 1) := by decide +kernel
theorem d_Mo_beyond_73 : decode b_Mo_beyond 73 = .ok (.iaload, 1) := by decide +kernel
theorem d_Mo_beyond_74 : decode b_Mo_beyond 74 = .ok (.if_icmp .ge 37, 3) := by decide +kernel
theorem d_Mo_beyond_77 : decode b_Mo_beyond 77 = .ok (.aload_n 0, 1) := by decide +kernel
theorem d_Mo_beyond_78 : decode b_Mo_beyond 78 = .ok (.getfield 26, 3) := by decide +kernel
theorem d_Mo_beyond_81 : decode b_Mo_beyond 81 = .ok (.bipush 10, 2) := by decide +kernel
theorem d_Mo_beyond_83 : decode b_Mo_beyond 83 = .ok (.iload_n 2, 1) := by decide +kernel
theorem d_Mo_beyond_84 : decode b_Mo_beyond 84 = .ok (.imul, 1) := by decide +kernel
theorem d_Mo_beyond_85 : decode b_Mo_beyond 85 = .ok (.iload 6, 2) := by decide +kernel
theorem d_Mo_beyond_87 : decode b_Mo_beyond 87 = .ok (.iadd, 1) := by decide +kernel
theorem d_Mo_beyond_88 : decode b_Mo_beyond 88 = .ok (.iaload, 1) := by decide +kernel
theorem d_Mo_beyond_89 : decode b_Mo_beyond 89 = .ok (.iload 4, 2) := by decide +kernel
theorem d_Mo_beyond_91 : decode b_Mo_beyond 91 = .ok (.if_icmp .ne 10, 3) := by decide +kernel
theorem d_Mo_beyond_94 : decode b_Mo_beyond 94 = .ok (.iload 5, 2) := by decide +kernel
theorem d_Mo_beyond_96 : decode b_Mo_beyond 96 = .ok (.iconst 1, 1) := by decide +kernel
theorem d_Mo_beyond_97 : decode b_Mo_beyond 97 = .ok (.isub, 1) := by decide +kernel
theorem d_Mo_beyond_98 : decode b_Mo_beyond 98 = .ok (.goto 5, 3) := by decide +kernel
theorem d_Mo_beyond_101 : decode b_Mo_beyond 101 = .ok (.iload 5, 2) := by decide +kernel
theorem d_Mo_beyond_103 : decode b_Mo_beyond 103 = .ok (.istore 5, 2) := by decide +kernel
theorem d_Mo_beyond_105 : decode b_Mo_beyond 105 = .ok (.iinc 6 1, 3) := by decide +kernel
theorem d_Mo_beyond_108 : decode b_Mo_beyond 108 = .ok (.goto (-42), 3) := by decide +kernel
theorem d_Mo_beyond_111 : decode b_Mo_beyond 111 = .ok (.iload 5, 2) := by decide +kernel
theorem d_Mo_beyond_113 : decode b_Mo_beyond 113 = .ok (.ifCond .le 10, 3) := by decide +kernel
theorem d_Mo_beyond_116 : decode b_Mo_beyond 116 = .ok (.iload_n 3, 1) := by decide +kernel
theorem d_Mo_beyond_117 : decode b_Mo_beyond 117 = .ok (.iload 5, 2) := by decide +kernel
theorem d_Mo_beyond_119 : decode b_Mo_beyond 119 = .ok (.iadd, 1) := by decide +kernel
theorem d_Mo_beyond_120 : decode b_Mo_beyond 120 = .ok (.goto 4, 3) := by decide +kernel
theorem d_Mo_beyond_123 : decode b_Mo_beyond 123 = .ok (.iload_n 3, 1) := by decide +kernel
theorem d_Mo_beyond_124 : decode b_Mo_beyond 124 = .ok (.istore_n 3, 1) := by decide +kernel
theorem d_Mo_beyond_125 : decode b_Mo_beyond 125 = .ok (.iinc 4 1, 3) := by decide +kernel
theorem d_Mo_beyond_128 : decode b_Mo_beyond 128 = .ok (.goto (-123), 3) := by decide +kernel
theorem d_Mo_beyond_131 : decode b_Mo_beyond 131 = .ok (.iload_n 3, 1) := by decide +kernel
theorem d_Mo_beyond_132 : decode b_Mo_beyond 132 = .ok (.ireturn, 1) := by decide +kernel
theorem d_Mo_counted_0 : decode b_Mo_counted 0 = .ok (.aload_n 0, 1) := by decide +kernel
theorem d_Mo_counted_1 : decode b_Mo_counted 1 = .ok (.getfield 33, 3) := by decide +kernel
theorem d_Mo_counted_4 : decode b_Mo_counted 4 = .ok (.iconst 2, 1) := by decide +kernel
theorem d_Mo_counted_5 : decode b_Mo_counted 5 = .ok (.iaload, 1) := by decide +kernel
theorem d_Mo_counted_6 : decode b_Mo_counted 6 = .ok (.aload_n 0, 1) := by decide +kernel
theorem d_Mo_counted_7 : decode b_Mo_counted 7 = .ok (.getfield 33, 3) := by decide +kernel
theorem d_Mo_counted_10 : decode b_Mo_counted 10 = .ok (.iconst 3, 1) := by decide +kernel
theorem d_Mo_counted_11 : decode b_Mo_counted 11 = .ok (.iaload, 1) := by decide +kernel
theorem d_Mo_counted_12 : decode b_Mo_counted 12 = .ok (.invokestatic 72, 3) := by decide +kernel
theorem d_Mo_counted_15 : decode b_Mo_counted 15 = .ok (.istore_n 3, 1) := by decide +kernel
theorem d_Mo_counted_16 : decode b_Mo_counted 16 = .ok (.aload_n 0, 1) := by decide +kernel
theorem d_Mo_counted_17 : decode b_Mo_counted 17 = .ok (.iload_n 1, 1) := by decide +kernel
theorem d_Mo_counted_18 : decode b_Mo_counted 18 = .ok (.iload_n 2, 1) := by decide +kernel
theorem d_Mo_counted_19 : decode b_Mo_counted 19 = .ok (.invokevirtual 80, 3) := by decide +kernel
theorem d_Mo_counted_22 : decode b_Mo_counted 22 = .ok (.aload_n 0, 1) := by decide +kernel
theorem d_Mo_counted_23 : decode b_Mo_counted 23 = .ok (.getfield 33, 3) := by decide +kernel
theorem d_Mo_counted_26 : decode b_Mo_counted 26 = .ok (.iconst 1, 1) := by decide +kernel
theorem d_Mo_counted_27 : decode b_Mo_counted 27 = .ok (.iaload, 1) := by decide +kernel
theorem d_Mo_counted_28 : decode b_Mo_counted 28 = .ok (.iload_n 3, 1) := by decide +kernel
theorem d_Mo_counted_29 : decode b_Mo_counted 29 = .ok (.invokestatic 72, 3) := by decide +kernel
theorem d_Mo_counted_32 : decode b_Mo_counted 32 = .ok (.imul, 1) := by decide +kernel
theorem d_Mo_counted_33 : decode b_Mo_counted 33 = .ok (.istore 4, 2) := by decide +kernel
theorem d_Mo_counted_35 : decode b_Mo_counted 35 = .ok (.aload_n 0, 1) := by decide +kernel
theorem d_Mo_counted_36 : decode b_Mo_counted 36 = .ok (.iload_n 2, 1) := by decide +kernel
theorem d_Mo_counted_37 : decode b_Mo_counted 37 = .ok (.iload_n 1, 1) := by decide +kernel
theorem d_Mo_counted_38 : decode b_Mo_counted 38 = .ok (.invokevirtual 80, 3) := by decide +kernel
theorem d_Mo_counted_41 : decode b_Mo_counted 41 = .ok (.aload_n 0, 1) := by decide +kernel
theorem d_Mo_counted_42 : decode b_Mo_counted 42 = .ok (.getfield 33, 3) := by decide +kernel
theorem d_Mo_counted_45 : decode b_Mo_counted 45 = .ok (.iconst 0, 1) := by decide +kernel
theorem d_Mo_counted_46 : decode b_Mo_counted 46 = .ok (.iaload, 1) := by decide +kernel
theorem d_Mo_counted_47 : decode b_Mo_counted 47 = .ok (.iload_n 3, 1) := by decide +kernel
theorem d_Mo_counted_48 : decode b_Mo_counted 48 = .ok (.invokestatic 72, 3) := by decide +kernel
theorem d_Mo_counted_51 : decode b_Mo_counted 51 = .ok (.imul, 1) := by decide +kernel
theorem d_Mo_counted_52 : decode b_Mo_counted 52 = .ok (.istore 5, 2) := by decide +kernel
theorem d_Mo_counted_54 : decode b_Mo_counted 54 = .ok (.iload 4, 2) := by decide +kernel
end
section
theorem d_Mo_counted_56 : decode b_Mo_counted 56 = .ok (.iload 5, 2) := by decide +kernel
theorem d_Mo_counted_58 : decode b_Mo_counted 58 = .ok (.if_icmp .le 8, 3) := by decide +kernel
theorem d_Mo_counted_61 : decode b_Mo_counted 61 = .ok (.iload 4, 2) := by decide +kernel
theorem d_Mo_counted_63 : decode b_Mo_counted 63 = .ok (.goto 5, 3) := by decide +kernel
theorem d_Mo_counted_66 : decode b_Mo_counted 66 = .ok (.iload 5, 2) := by decide +kernel
theorem d_Mo_counted_68 : decode b_Mo_counted 68 = .ok (.ireturn, 1) := by decide +kernel
theorem d_Mo_may_0 : decode b_Mo_may 0 = .ok (.iload_n 3, 1) := by decide +kernel
theorem d_Mo_may_1 : decode b_Mo_may 1 = .ok (.ifCond .lt 28, 3) := by decide +kernel
theorem d_Mo_may_4 : decode b_Mo_may 4 = .ok (.aload_n 0, 1) := by decide +kernel
theorem d_Mo_may_5 : decode b_Mo_may 5 = .ok (.getfield 23, 3) := by decide +kernel
theorem d_Mo_may_8 : decode b_Mo_may 8 = .ok (.bipush 120, 2) := by decide +kernel
theorem d_Mo_may_10 : decode b_Mo_may 10 = .ok (.iload_n 2, 1) := by decide +kernel
theorem d_Mo_may_11 : decode b_Mo_may 11 = .ok (.iadd, 1) := by decide +kernel
theorem d_Mo_may_12 : decode b_Mo_may 12 = .ok (.iaload, 1) := by decide +kernel
theorem d_Mo_may_13 : decode b_Mo_may 13 = .ok (.ifCond .le 20, 3) := by decide +kernel
theorem d_Mo_may_16 : decode b_Mo_may 16 = .ok (.aload_n 0, 1) := by decide +kernel
theorem d_Mo_may_17 : decode b_Mo_may 17 = .ok (.getfield 23, 3) := by decide +kernel
theorem d_Mo_may_20 : decode b_Mo_may 20 = .ok (.iconst 3, 1) := by decide +kernel
theorem d_Mo_may_21 : decode b_Mo_may 21 = .ok (.iload_n 1, 1) := by decide +kernel
theorem d_Mo_may_22 : decode b_Mo_may 22 = .ok (.imul, 1) := by decide +kernel
theorem d_Mo_may_23 : decode b_Mo_may 23 = .ok (.iload_n 3, 1) := by decide +kernel
theorem d_Mo_may_24 : decode b_Mo_may 24 = .ok (.iadd, 1) := by decide +kernel
theorem d_Mo_may_25 : decode b_Mo_may 25 = .ok (.iaload, 1) := by decide +kernel
theorem d_Mo_may_26 : decode b_Mo_may 26 = .ok (.ifCond .le 7, 3) := by decide +kernel
theorem d_Mo_may_29 : decode b_Mo_may 29 = .ok (.iconst 1, 1) := by decide +kernel
theorem d_Mo_may_30 : decode b_Mo_may 30 = .ok (.goto 4, 3) := by decide +kernel
theorem d_Mo_may_33 : decode b_Mo_may 33 = .ok (.iconst 0, 1) := by decide +kernel
theorem d_Mo_may_34 : decode b_Mo_may 34 = .ok (.ireturn, 1) := by decide +kernel
theorem d_Mo_words_0 : decode b_Mo_words 0 = .ok (.aload_n 0, 1) := by decide +kernel
theorem d_Mo_words_1 : decode b_Mo_words 1 = .ok (.getfield 23, 3) := by decide +kernel
theorem d_Mo_words_4 : decode b_Mo_words 4 = .ok (.iload_n 1, 1) := by decide +kernel
theorem d_Mo_words_5 : decode b_Mo_words 5 = .ok (.iaload, 1) := by decide +kernel
theorem d_Mo_words_6 : decode b_Mo_words 6 = .ok (.ifCond .le 7, 3) := by decide +kernel
theorem d_Mo_words_9 : decode b_Mo_words 9 = .ok (.iconst 1, 1) := by decide +kernel
theorem d_Mo_words_10 : decode b_Mo_words 10 = .ok (.goto 4, 3) := by decide +kernel
theorem d_Mo_words_13 : decode b_Mo_words 13 = .ok (.iconst 0, 1) := by decide +kernel
theorem d_Mo_words_14 : decode b_Mo_words 14 = .ok (.aload_n 0, 1) := by decide +kernel
theorem d_Mo_words_15 : decode b_Mo_words 15 = .ok (.getfield 23, 3) := by decide +kernel
theorem d_Mo_words_18 : decode b_Mo_words 18 = .ok (.iload_n 1, 1) := by decide +kernel
theorem d_Mo_words_19 : decode b_Mo_words 19 = .ok (.iconst 1, 1) := by decide +kernel
theorem d_Mo_words_20 : decode b_Mo_words 20 = .ok (.iadd, 1) := by decide +kernel
theorem d_Mo_words_21 : decode b_Mo_words 21 = .ok (.iaload, 1) := by decide +kernel
theorem d_Mo_words_22 : decode b_Mo_words 22 = .ok (.ifCond .le 7, 3) := by decide +kernel
theorem d_Mo_words_25 : decode b_Mo_words 25 = .ok (.iconst 1, 1) := by decide +kernel
theorem d_Mo_words_26 : decode b_Mo_words 26 = .ok (.goto 4, 3) := by decide +kernel
theorem d_Mo_words_29 : decode b_Mo_words 29 = .ok (.iconst 0, 1) := by decide +kernel
theorem d_Mo_words_30 : decode b_Mo_words 30 = .ok (.iadd, 1) := by decide +kernel
theorem d_Mo_words_31 : decode b_Mo_words 31 = .ok (.aload_n 0, 1) := by decide +kernel
theorem d_Mo_words_32 : decode b_Mo_words 32 = .ok (.getfield 23, 3) := by decide +kernel
theorem d_Mo_words_35 : decode b_Mo_words 35 = .ok (.iload_n 1, 1) := by decide +kernel
theorem d_Mo_words_36 : decode b_Mo_words 36 = .ok (.iconst 2, 1) := by decide +kernel
theorem d_Mo_words_37 : decode b_Mo_words 37 = .ok (.iadd, 1) := by decide +kernel
theorem d_Mo_words_38 : decode b_Mo_words 38 = .ok (.iaload, 1) := by decide +kernel
theorem d_Mo_words_39 : decode b_Mo_words 39 = .ok (.ifCond .le 7, 3) := by decide +kernel
theorem d_Mo_words_42 : decode b_Mo_words 42 = .ok (.iconst 1, 1) := by decide +kernel
theorem d_Mo_words_43 : decode b_Mo_words 43 = .ok (.goto 4, 3) := by decide +kernel
theorem d_Mo_words_46 : decode b_Mo_words 46 = .ok (.iconst 0, 1) := by decide +kernel
theorem d_Mo_words_47 : decode b_Mo_words 47 = .ok (.iadd, 1) := by decide +kernel
theorem d_Mo_words_48 : decode b_Mo_words 48 = .ok (.ireturn, 1) := by decide +kernel
theorem d_Mo_cost_0 : decode b_Mo_cost 0 = .ok (.iload_n 2, 1) := by decide +kernel
theorem d_Mo_cost_1 : decode b_Mo_cost 1 = .ok (.ifCond .ge 7, 3) := by decide +kernel
theorem d_Mo_cost_4 : decode b_Mo_cost 4 = .ok (.iconst 0, 1) := by decide +kernel
theorem d_Mo_cost_5 : decode b_Mo_cost 5 = .ok (.goto 13, 3) := by decide +kernel
theorem d_Mo_cost_8 : decode b_Mo_cost 8 = .ok (.aload_n 0, 1) := by decide +kernel
theorem d_Mo_cost_9 : decode b_Mo_cost 9 = .ok (.getfield 45, 3) := by decide +kernel
theorem d_Mo_cost_12 : decode b_Mo_cost 12 = .ok (.iconst 3, 1) := by decide +kernel
theorem d_Mo_cost_13 : decode b_Mo_cost 13 = .ok (.iload_n 1, 1) := by decide +kernel
theorem d_Mo_cost_14 : decode b_Mo_cost 14 = .ok (.imul, 1) := by decide +kernel
theorem d_Mo_cost_15 : decode b_Mo_cost 15 = .ok (.iload_n 2, 1) := by decide +kernel
theorem d_Mo_cost_16 : decode b_Mo_cost 16 = .ok (.iadd, 1) := by decide +kernel
theorem d_Mo_cost_17 : decode b_Mo_cost 17 = .ok (.iaload, 1) := by decide +kernel
theorem d_Mo_cost_18 : decode b_Mo_cost 18 = .ok (.ireturn, 1) := by decide +kernel
theorem d_Mo_turned_0 : decode b_Mo_turned 0 = .ok (.iload_n 0, 1) := by decide +kernel
theorem d_Mo_turned_1 : decode b_Mo_turned 1 = .ok (.ifCond .lt 16, 3) := by decide +kernel
theorem d_Mo_turned_4 : decode b_Mo_turned 4 = .ok (.iload_n 1, 1) := by decide +kernel
theorem d_Mo_turned_5 : decode b_Mo_turned 5 = .ok (.ifCond .lt 12, 3) := by decide +kernel
theorem d_Mo_turned_8 : decode b_Mo_turned 8 = .ok (.iload_n 0, 1) := by decide +kernel
theorem d_Mo_turned_9 : decode b_Mo_turned 9 = .ok (.iload_n 1, 1) := by decide +kernel
theorem d_Mo_turned_10 : decode b_Mo_turned 10 = .ok (.if_icmp .le 7, 3) := by decide +kernel
theorem d_Mo_turned_13 : decode b_Mo_turned 13 = .ok (.iconst 1, 1) := by decide +kernel
theorem d_Mo_turned_14 : decode b_Mo_turned 14 = .ok (.goto 4, 3) := by decide +kernel
theorem d_Mo_turned_17 : decode b_Mo_turned 17 = .ok (.iconst 0, 1) := by decide +kernel
theorem d_Mo_turned_18 : decode b_Mo_turned 18 = .ok (.ireturn, 1) := by decide +kernel
theorem d_Mo_sumBy_0 : decode b_Mo_sumBy 0 = .ok (.iconst 0, 1) := by decide +kernel
theorem d_Mo_sumBy_1 : decode b_Mo_sumBy 1 = .ok (.istore_n 3, 1) := by decide +kernel
theorem d_Mo_sumBy_2 : decode b_Mo_sumBy 2 = .ok (.iload_n 3, 1) := by decide +kernel
theorem d_Mo_sumBy_3 : decode b_Mo_sumBy 3 = .ok (.bipush 9, 2) := by decide +kernel
theorem d_Mo_sumBy_5 : decode b_Mo_sumBy 5 = .ok (.if_icmp .ge 101, 3) := by decide +kernel
theorem d_Mo_sumBy_8 : decode b_Mo_sumBy 8 = .ok (.aload_n 0, 1) := by decide +kernel
theorem d_Mo_sumBy_9 : decode b_Mo_sumBy 9 = .ok (.getfield 23, 3) := by decide +kernel
theorem d_Mo_sumBy_12 : decode b_Mo_sumBy 12 = .ok (.bipush 120, 2) := by decide +kernel
theorem d_Mo_sumBy_14 : decode b_Mo_sumBy 14 = .ok (.iload_n 3, 1) := by decide +kernel
theorem d_Mo_sumBy_15 : decode b_Mo_sumBy 15 = .ok (.iconst 3, 1) := by decide +kernel
theorem d_Mo_sumBy_16 : decode b_Mo_sumBy 16 = .ok (.idiv, 1) := by decide +kernel
theorem d_Mo_sumBy_17 : decode b_Mo_sumBy 17 = .ok (.iadd, 1) := by decide +kernel
theorem d_Mo_sumBy_18 : decode b_Mo_sumBy 18 = .ok (.iaload, 1) := by decide +kernel
theorem d_Mo_sumBy_19 : decode b_Mo_sumBy 19 = .ok (.ifCond .le 22, 3) := by decide +kernel
theorem d_Mo_sumBy_22 : decode b_Mo_sumBy 22 = .ok (.aload_n 0, 1) := by decide +kernel
theorem d_Mo_sumBy_23 : decode b_Mo_sumBy 23 = .ok (.getfield 23, 3) := by decide +kernel
theorem d_Mo_sumBy_26 : decode b_Mo_sumBy 26 = .ok (.iconst 3, 1) := by decide +kernel
theorem d_Mo_sumBy_27 : decode b_Mo_sumBy 27 = .ok (.iload_n 1, 1) := by decide +kernel
theorem d_Mo_sumBy_28 : decode b_Mo_sumBy 28 = .ok (.imul, 1) := by decide +kernel
theorem d_Mo_sumBy_29 : decode b_Mo_sumBy 29 = .ok (.iload_n 3, 1) := by decide +kernel
theorem d_Mo_sumBy_30 : decode b_Mo_sumBy 30 = .ok (.iconst 3, 1) := by decide +kernel
theorem d_Mo_sumBy_31 : decode b_Mo_sumBy 31 = .ok (.irem, 1) := by decide +kernel
theorem d_Mo_sumBy_32 : decode b_Mo_sumBy 32 = .ok (.iadd, 1) := by decide +kernel
theorem d_Mo_sumBy_33 : decode b_Mo_sumBy 33 = .ok (.iaload, 1) := by decide +kernel
theorem d_Mo_sumBy_34 : decode b_Mo_sumBy 34 = .ok (.ifCond .le 7, 3) := by decide +kernel
theorem d_Mo_sumBy_37 : decode b_Mo_sumBy 37 = .ok (.iconst 1, 1) := by decide +kernel
theorem d_Mo_sumBy_38 : decode b_Mo_sumBy 38 = .ok (.goto 4, 3) := by decide +kernel
theorem d_Mo_sumBy_41 : decode b_Mo_sumBy 41 = .ok (.iconst 0, 1) := by decide +kernel
theorem d_Mo_sumBy_42 : decode b_Mo_sumBy 42 = .ok (.istore 4, 2) := by decide +kernel
theorem d_Mo_sumBy_44 : decode b_Mo_sumBy 44 = .ok (.aload_n 0, 1) := by decide +kernel
theorem d_Mo_sumBy_45 : decode b_Mo_sumBy 45 = .ok (.getfield 45, 3) := by decide +kernel
theorem d_Mo_sumBy_48 : decode b_Mo_sumBy 48 = .ok (.iload_n 3, 1) := by decide +kernel
theorem d_Mo_sumBy_49 : decode b_Mo_sumBy 49 = .ok (.iload 4, 2) := by decide +kernel
theorem d_Mo_sumBy_51 : decode b_Mo_sumBy 51 = .ok (.ifCond .ne 7, 3) := by decide +kernel
theorem d_Mo_sumBy_54 : decode b_Mo_sumBy 54 = .ok (.iconst 0, 1) := by decide +kernel
theorem d_Mo_sumBy_55 : decode b_Mo_sumBy 55 = .ok (.goto 44, 3) := by decide +kernel
theorem d_Mo_sumBy_58 : decode b_Mo_sumBy 58 = .ok (.iload_n 2, 1) := by decide +kernel
theorem d_Mo_sumBy_59 : decode b_Mo_sumBy 59 = .ok (.ifCond .eq 23, 3) := by decide +kernel
theorem d_Mo_sumBy_62 : decode b_Mo_sumBy 62 = .ok (.aload_n 0, 1) := by decide +kernel
theorem d_Mo_sumBy_63 : decode b_Mo_sumBy 63 = .ok (.bipush 120, 2) := by decide +kernel
theorem d_Mo_sumBy_65 : decode b_Mo_sumBy 65 = .ok (.iload_n 3, 1) := by decide +kernel
theorem d_Mo_sumBy_66 : decode b_Mo_sumBy 66 = .ok (.iconst 3, 1) := by decide +kernel
theorem d_Mo_sumBy_67 : decode b_Mo_sumBy 67 = .ok (.idiv, 1) := by decide +kernel
theorem d_Mo_sumBy_68 : decode b_Mo_sumBy 68 = .ok (.iadd, 1) := by decide +kernel
theorem d_Mo_sumBy_69 : decode b_Mo_sumBy 69 = .ok (.iconst 3, 1) := by decide +kernel
theorem d_Mo_sumBy_70 : decode b_Mo_sumBy 70 = .ok (.iload_n 1, 1) := by decide +kernel
theorem d_Mo_sumBy_71 : decode b_Mo_sumBy 71 = .ok (.imul, 1) := by decide +kernel
theorem d_Mo_sumBy_72 : decode b_Mo_sumBy 72 = .ok (.iload_n 3, 1) := by decide +kernel
theorem d_Mo_sumBy_73 : decode b_Mo_sumBy 73 = .ok (.iconst 3, 1) := by decide +kernel
theorem d_Mo_sumBy_74 : decode b_Mo_sumBy 74 = .ok (.irem, 1) := by decide +kernel
theorem d_Mo_sumBy_75 : decode b_Mo_sumBy 75 = .ok (.iadd, 1) := by decide +kernel
theorem d_Mo_sumBy_76 : decode b_Mo_sumBy 76 = .ok (.invokevirtual 83, 3) := by decide +kernel
theorem d_Mo_sumBy_79 : decode b_Mo_sumBy 79 = .ok (.goto 20, 3) := by decide +kernel
theorem d_Mo_sumBy_82 : decode b_Mo_sumBy 82 = .ok (.aload_n 0, 1) := by decide +kernel
theorem d_Mo_sumBy_83 : decode b_Mo_sumBy 83 = .ok (.bipush 120, 2) := by decide +kernel
theorem d_Mo_sumBy_85 : decode b_Mo_sumBy 85 = .ok (.iload_n 3, 1) := by decide +kernel
theorem d_Mo_sumBy_86 : decode b_Mo_sumBy 86 = .ok (.iconst 3, 1) := by decide +kernel
theorem d_Mo_sumBy_87 : decode b_Mo_sumBy 87 = .ok (.idiv, 1) := by decide +kernel
theorem d_Mo_sumBy_88 : decode b_Mo_sumBy 88 = .ok (.iadd, 1) := by decide +kernel
theorem d_Mo_sumBy_89 : decode b_Mo_sumBy 89 = .ok (.iconst 3, 1) := by decide +kernel
theorem d_Mo_sumBy_90 : decode b_Mo_sumBy 90 = .ok (.iload_n 1, 1) := by decide +kernel
theorem d_Mo_sumBy_91 : decode b_Mo_sumBy 91 = .ok (.imul, 1) := by decide +kernel
theorem d_Mo_sumBy_92 : decode b_Mo_sumBy 92 = .ok (.iload_n 3, 1) := by decide +kernel
theorem d_Mo_sumBy_93 : decode b_Mo_sumBy 93 = .ok (.iconst 3, 1) := by decide +kernel
theorem d_Mo_sumBy_94 : decode b_Mo_sumBy 94 = .ok (.irem, 1) := by decide +kernel
theorem d_Mo_sumBy_95 : decode b_Mo_sumBy 95 = .ok (.iadd, 1) := by decide +kernel
theorem d_Mo_sumBy_96 : decode b_Mo_sumBy 96 = .ok (.invokevirtual 86, 3) := by decide +kernel
theorem d_Mo_sumBy_99 : decode b_Mo_sumBy 99 = .ok (.iastore, 1) := by decide +kernel
theorem d_Mo_sumBy_100 : decode b_Mo_sumBy 100 = .ok (.iinc 3 1, 3) := by decide +kernel
theorem d_Mo_sumBy_103 : decode b_Mo_sumBy 103 = .ok (.goto (-101), 3) := by decide +kernel
theorem d_Mo_sumBy_106 : decode b_Mo_sumBy 106 = .ok (.aload_n 0, 1) := by decide +kernel
theorem d_Mo_sumBy_107 : decode b_Mo_sumBy 107 = .ok (.bipush 120, 2) := by decide +kernel
theorem d_Mo_sumBy_109 : decode b_Mo_sumBy 109 = .ok (.invokevirtual 89, 3) := by decide +kernel
theorem d_Mo_sumBy_112 : decode b_Mo_sumBy 112 = .ok (.aload_n 0, 1) := by decide +kernel
theorem d_Mo_sumBy_113 : decode b_Mo_sumBy 113 = .ok (.iconst 3, 1) := by decide +kernel
theorem d_Mo_sumBy_114 : decode b_Mo_sumBy 114 = .ok (.iload_n 1, 1) := by decide +kernel
theorem d_Mo_sumBy_115 : decode b_Mo_sumBy 115 = .ok (.imul, 1) := by decide +kernel
theorem d_Mo_sumBy_116 : decode b_Mo_sumBy 116 = .ok (.invokevirtual 89, 3) := by decide +kernel
theorem d_Mo_sumBy_119 : decode b_Mo_sumBy 119 = .ok (.iadd, 1) := by decide +kernel
theorem d_Mo_sumBy_120 : decode b_Mo_sumBy 120 = .ok (.istore_n 3, 1) := by decide +kernel
theorem d_Mo_sumBy_121 : decode b_Mo_sumBy 121 = .ok (.iconst (-1), 1) := by decide +kernel
theorem d_Mo_sumBy_122 : decode b_Mo_sumBy 122 = .ok (.istore 4, 2) := by decide +kernel
theorem d_Mo_sumBy_124 : decode b_Mo_sumBy 124 = .ok (.iconst 0, 1) := by decide +kernel
theorem d_Mo_sumBy_125 : decode b_Mo_sumBy 125 = .ok (.istore 5, 2) := by decide +kernel
theorem d_Mo_sumBy_127 : decode b_Mo_sumBy 127 = .ok (.iload 5, 2) := by decide +kernel
theorem d_Mo_sumBy_129 : decode b_Mo_sumBy 129 = .ok (.bipush 64, 2) := by decide +kernel
theorem d_Mo_sumBy_131 : decode b_Mo_sumBy 131 = .ok (.if_icmp .ge 256, 3) := by decide +kernel
theorem d_Mo_sumBy_134 : decode b_Mo_sumBy 134 = .ok (.iload 5, 2) := by decide +kernel
theorem d_Mo_sumBy_136 : decode b_Mo_sumBy 136 = .ok (.bipush 16, 2) := by decide +kernel
theorem d_Mo_sumBy_138 : decode b_Mo_sumBy 138 = .ok (.idiv, 1) := by decide +kernel
theorem d_Mo_sumBy_139 : decode b_Mo_sumBy 139 = .ok (.iconst 1, 1) := by decide +kernel
theorem d_Mo_sumBy_140 : decode b_Mo_sumBy 140 = .ok (.isub, 1) := by decide +kernel
theorem d_Mo_sumBy_141 : decode b_Mo_sumBy 141 = .ok (.istore 6, 2) := by decide +kernel
theorem d_Mo_sumBy_143 : decode b_Mo_sumBy 143 = .ok (.iload 5, 2) := by decide +kernel
theorem d_Mo_sumBy_145 : decode b_Mo_sumBy 145 = .ok (.iconst 4, 1) := by decide +kernel
theorem d_Mo_sumBy_146 : decode b_Mo_sumBy 146 = .ok (.idiv, 1) := by decide +kernel
theorem d_Mo_sumBy_147 : decode b_Mo_sumBy 147 = .ok (.iconst 4, 1) := by decide +kernel
theorem d_Mo_sumBy_148 : decode b_Mo_sumBy 148 = .ok (.irem, 1) := by decide +kernel
theorem d_Mo_sumBy_149 : decode b_Mo_sumBy 149 = .ok (.iconst 1, 1) := by decide +kernel
theorem d_Mo_sumBy_150 : decode b_Mo_sumBy 150 = .ok (.isub, 1) := by decide +kernel
theorem d_Mo_sumBy_151 : decode b_Mo_sumBy 151 = .ok (.istore 7, 2) := by decide +kernel
theorem d_Mo_sumBy_153 : decode b_Mo_sumBy 153 = .ok (.iload 5, 2) := by decide +kernel
theorem d_Mo_sumBy_155 : decode b_Mo_sumBy 155 = .ok (.iconst 4, 1) := by decide +kernel
theorem d_Mo_sumBy_156 : decode b_Mo_sumBy 156 = .ok (.irem, 1) := by decide +kernel
theorem d_Mo_sumBy_157 : decode b_Mo_sumBy 157 = .ok (.iconst 1, 1) := by decide +kernel
theorem d_Mo_sumBy_158 : decode b_Mo_sumBy 158 = .ok (.isub, 1) := by decide +kernel
theorem d_Mo_sumBy_159 : decode b_Mo_sumBy 159 = .ok (.istore 8, 2) := by decide +kernel
theorem d_Mo_sumBy_161 : decode b_Mo_sumBy 161 = .ok (.iload 6, 2) := by decide +kernel
theorem d_Mo_sumBy_163 : decode b_Mo_sumBy 163 = .ok (.ifCond .lt 17, 3) := by decide +kernel
theorem d_Mo_sumBy_166 : decode b_Mo_sumBy 166 = .ok (.iload 6, 2) := by decide +kernel
theorem d_Mo_sumBy_168 : decode b_Mo_sumBy 168 = .ok (.iload 7, 2) := by decide +kernel
theorem d_Mo_sumBy_170 : decode b_Mo_sumBy 170 = .ok (.if_icmp .eq 26, 3) := by decide +kernel
theorem d_Mo_sumBy_173 : decode b_Mo_sumBy 173 = .ok (.iload 6, 2) := by decide +kernel
theorem d_Mo_sumBy_175 : decode b_Mo_sumBy 175 = .ok (.iload 8, 2) := by decide +kernel
theorem d_Mo_sumBy_177 : decode b_Mo_sumBy 177 = .ok (.if_icmp .eq 19, 3) := by decide +kernel
theorem d_Mo_sumBy_180 : decode b_Mo_sumBy 180 = .ok (.iload 7, 2) := by decide +kernel
theorem d_Mo_sumBy_182 : decode b_Mo_sumBy 182 = .ok (.ifCond .lt 10, 3) := by decide +kernel
theorem d_Mo_sumBy_185 : decode b_Mo_sumBy 185 = .ok (.iload 7, 2) := by decide +kernel
theorem d_Mo_sumBy_187 : decode b_Mo_sumBy 187 = .ok (.iload 8, 2) := by decide +kernel
theorem d_Mo_sumBy_189 : decode b_Mo_sumBy 189 = .ok (.if_icmp .eq 7, 3) := by decide +kernel
theorem d_Mo_sumBy_192 : decode b_Mo_sumBy 192 = .ok (.iconst 1, 1) := by decide +kernel
theorem d_Mo_sumBy_193 : decode b_Mo_sumBy 193 = .ok (.goto 4, 3) := by decide +kernel
theorem d_Mo_sumBy_196 : decode b_Mo_sumBy 196 = .ok (.iconst 0, 1) := by decide +kernel
theorem d_Mo_sumBy_197 : decode b_Mo_sumBy 197 = .ok (.istore 9, 2) := by decide +kernel
theorem d_Mo_sumBy_199 : decode b_Mo_sumBy 199 = .ok (.iload 9, 2) := by decide +kernel
theorem d_Mo_sumBy_201 : decode b_Mo_sumBy 201 = .ok (.ifCond .eq 180, 3) := by decide +kernel
theorem d_Mo_sumBy_204 : decode b_Mo_sumBy 204 = .ok (.aload_n 0, 1) := by decide +kernel
theorem d_Mo_sumBy_205 : decode b_Mo_sumBy 205 = .ok (.iload_n 1, 1) := by decide +kernel
theorem d_Mo_sumBy_206 : decode b_Mo_sumBy 206 = .ok (.iconst 0, 1) := by decide +kernel
theorem d_Mo_sumBy_207 : decode b_Mo_sumBy 207 = .ok (.iload 6, 2) := by decide +kernel
theorem d_Mo_sumBy_209 : decode b_Mo_sumBy 209 = .ok (.invokevirtual 92, 3) := by decide +kernel
theorem d_Mo_sumBy_212 : decode b_Mo_sumBy 212 = .ok (.ifCond .eq 169, 3) := by decide +kernel
theorem d_Mo_sumBy_215 : decode b_Mo_sumBy 215 = .ok (.aload_n 0, 1) := by decide +kernel
theorem d_Mo_sumBy_216 : decode b_Mo_sumBy 216 = .ok (.iload_n 1, 1) := by decide +kernel
theorem d_Mo_sumBy_217 : decode b_Mo_sumBy 217 = .ok (.iconst 1, 1) := by decide +kernel
theorem d_Mo_sumBy_218 : decode b_Mo_sumBy 218 = .ok (.iload 7, 2) := by decide +kernel
theorem d_Mo_sumBy_220 : decode b_Mo_sumBy 220 = .ok (.invokevirtual 92, 3) := by decide +kernel
theorem d_Mo_sumBy_223 : decode b_Mo_sumBy 223 = .ok (.ifCond .eq 158, 3) := by decide +kernel
theorem d_Mo_sumBy_226 : decode b_Mo_sumBy 226 = .ok (.aload_n 0, 1) := by decide +kernel
theorem d_Mo_sumBy_227 : decode b_Mo_sumBy 227 = .ok (.iload_n 1, 1) := by decide +kernel
theorem d_Mo_sumBy_228 : decode b_Mo_sumBy 228 = .ok (.iconst 2, 1) := by decide +kernel
theorem d_Mo_sumBy_229 : decode b_Mo_sumBy 229 = .ok (.iload 8, 2) := by decide +kernel
theorem d_Mo_sumBy_231 : decode b_Mo_sumBy 231 = .ok (.invokevirtual 92, 3) := by decide +kernel
theorem d_Mo_sumBy_234 : decode b_Mo_sumBy 234 = .ok (.ifCond .eq 147, 3) := by decide +kernel
theorem d_Mo_sumBy_237 : decode b_Mo_sumBy 237 = .ok (.iload 6, 2) := by decide +kernel
theorem d_Mo_sumBy_239 : decode b_Mo_sumBy 239 = .ok (.ifCond .ge 7, 3) := by decide +kernel
theorem d_Mo_sumBy_242 : decode b_Mo_sumBy 242 = .ok (.iconst 0, 1) := by decide +kernel
theorem d_Mo_sumBy_243 : decode b_Mo_sumBy 243 = .ok (.goto 4, 3) := by decide +kernel
theorem d_Mo_sumBy_246 : decode b_Mo_sumBy 246 = .ok (.iconst 1, 1) := by decide +kernel
theorem d_Mo_sumBy_247 : decode b_Mo_sumBy 247 = .ok (.iload 7, 2) := by decide +kernel
theorem d_Mo_sumBy_249 : decode b_Mo_sumBy 249 = .ok (.ifCond .ge 7, 3) := by decide +kernel
theorem d_Mo_sumBy_252 : decode b_Mo_sumBy 252 = .ok (.iconst 0, 1) := by decide +kernel
theorem d_Mo_sumBy_253 : decode b_Mo_sumBy 253 = .ok (.goto 4, 3) := by decide +kernel
theorem d_Mo_sumBy_256 : decode b_Mo_sumBy 256 = .ok (.iconst 1, 1) := by decide +kernel
theorem d_Mo_sumBy_257 : decode b_Mo_sumBy 257 = .ok (.iadd, 1) := by decide +kernel
theorem d_Mo_sumBy_258 : decode b_Mo_sumBy 258 = .ok (.iload 8, 2) := by decide +kernel
theorem d_Mo_sumBy_260 : decode b_Mo_sumBy 260 = .ok (.ifCond .ge 7, 3) := by decide +kernel
theorem d_Mo_sumBy_263 : decode b_Mo_sumBy 263 = .ok (.iconst 0, 1) := by decide +kernel
theorem d_Mo_sumBy_264 : decode b_Mo_sumBy 264 = .ok (.goto 4, 3) := by decide +kernel
theorem d_Mo_sumBy_267 : decode b_Mo_sumBy 267 = .ok (.iconst 1, 1) := by decide +kernel
theorem d_Mo_sumBy_268 : decode b_Mo_sumBy 268 = .ok (.iadd, 1) := by decide +kernel
theorem d_Mo_sumBy_269 : decode b_Mo_sumBy 269 = .ok (.istore 10, 2) := by decide +kernel
theorem d_Mo_sumBy_271 : decode b_Mo_sumBy 271 = .ok (.aload_n 0, 1) := by decide +kernel
theorem d_Mo_sumBy_272 : decode b_Mo_sumBy 272 = .ok (.iconst 0, 1) := by decide +kernel
theorem d_Mo_sumBy_273 : decode b_Mo_sumBy 273 = .ok (.iload 6, 2) := by decide +kernel
theorem d_Mo_sumBy_275 : decode b_Mo_sumBy 275 = .ok (.invokevirtual 96, 3) := by decide +kernel
theorem d_Mo_sumBy_278 : decode b_Mo_sumBy 278 = .ok (.aload_n 0, 1) := by decide +kernel
theorem d_Mo_sumBy_279 : decode b_Mo_sumBy 279 = .ok (.iconst 1, 1) := by decide +kernel
theorem d_Mo_sumBy_280 : decode b_Mo_sumBy 280 = .ok (.iload 7, 2) := by decide +kernel
theorem d_Mo_sumBy_282 : decode b_Mo_sumBy 282 = .ok (.invokevirtual 96, 3) := by decide +kernel
theorem d_Mo_sumBy_285 : decode b_Mo_sumBy 285 = .ok (.iadd, 1) := by decide +kernel
theorem d_Mo_sumBy_286 : decode b_Mo_sumBy 286 = .ok (.aload_n 0, 1) := by decide +kernel
theorem d_Mo_sumBy_287 : decode b_Mo_sumBy 287 = .ok (.iconst 2, 1) := by decide +kernel
theorem d_Mo_sumBy_288 : decode b_Mo_sumBy 288 = .ok (.iload 8, 2) := by decide +kernel
theorem d_Mo_sumBy_290 : decode b_Mo_sumBy 290 = .ok (.invokevirtual 96, 3) := by decide +kernel
theorem d_Mo_sumBy_293 : decode b_Mo_sumBy 293 = .ok (.iadd, 1) := by decide +kernel
theorem d_Mo_sumBy_294 : decode b_Mo_sumBy 294 = .ok (.aload_n 0, 1) := by decide +kernel
theorem d_Mo_sumBy_295 : decode b_Mo_sumBy 295 = .ok (.getfield 33, 3) := by decide +kernel
theorem d_Mo_sumBy_298 : decode b_Mo_sumBy 298 = .ok (.iconst 4, 1) := by decide +kernel
theorem d_Mo_sumBy_299 : decode b_Mo_sumBy 299 = .ok (.iaload, 1) := by decide +kernel
theorem d_Mo_sumBy_300 : decode b_Mo_sumBy 300 = .ok (.iload_n 3, 1) := by decide +kernel
theorem d_Mo_sumBy_301 : decode b_Mo_sumBy 301 = .ok (.iconst 2, 1) := by decide +kernel
theorem d_Mo_sumBy_302 : decode b_Mo_sumBy 302 = .ok (.iload 10, 2) := by decide +kernel
theorem d_Mo_sumBy_304 : decode b_Mo_sumBy 304 = .ok (.imul, 1) := by decide +kernel
theorem d_Mo_sumBy_305 : decode b_Mo_sumBy 305 = .ok (.isub, 1) := by decide +kernel
theorem d_Mo_sumBy_306 : decode b_Mo_sumBy 306 = .ok (.imul, 1) := by decide +kernel
theorem d_Mo_sumBy_307 : decode b_Mo_sumBy 307 = .ok (.iadd, 1) := by decide +kernel
theorem d_Mo_sumBy_308 : decode b_Mo_sumBy 308 = .ok (.aload_n 0, 1) := by decide +kernel
theorem d_Mo_sumBy_309 : decode b_Mo_sumBy 309 = .ok (.getfield 33, 3) := by decide +kernel
theorem d_Mo_sumBy_312 : decode b_Mo_sumBy 312 = .ok (.iconst 5, 1) := by decide +kernel
theorem d_Mo_sumBy_313 : decode b_Mo_sumBy 313 = .ok (.iaload, 1) := by decide +kernel
theorem d_Mo_sumBy_314 : decode b_Mo_sumBy 314 = .ok (.iload 6, 2) := by decide +kernel
theorem d_Mo_sumBy_316 : decode b_Mo_sumBy 316 = .ok (.iload 7, 2) := by decide +kernel
theorem d_Mo_sumBy_318 : decode b_Mo_sumBy 318 = .ok (.invokestatic 99, 3) := by decide +kernel
theorem d_Mo_sumBy_321 : decode b_Mo_sumBy 321 = .ok (.iload 6, 2) := by decide +kernel
theorem d_Mo_sumBy_323 : decode b_Mo_sumBy 323 = .ok (.iload 8, 2) := by decide +kernel
theorem d_Mo_sumBy_325 : decode b_Mo_sumBy 325 = .ok (.invokestatic 99, 3) := by decide +kernel
theorem d_Mo_sumBy_328 : decode b_Mo_sumBy 328 = .ok (.iadd, 1) := by decide +kernel
theorem d_Mo_sumBy_329 : decode b_Mo_sumBy 329 = .ok (.iload 7, 2) := by decide +kernel
theorem d_Mo_sumBy_331 : decode b_Mo_sumBy 331 = .ok (.iload 8, 2) := by decide +kernel
theorem d_Mo_sumBy_333 : decode b_Mo_sumBy 333 = .ok (.invokestatic 99, 3) := by decide +kernel
theorem d_Mo_sumBy_336 : decode b_Mo_sumBy 336 = .ok (.iadd, 1) := by decide +kernel
theorem d_Mo_sumBy_337 : decode b_Mo_sumBy 337 = .ok (.imul, 1) := by decide +kernel
theorem d_Mo_sumBy_338 : decode b_Mo_sumBy 338 = .ok (.iadd, 1) := by decide +kernel
theorem d_Mo_sumBy_339 : decode b_Mo_sumBy 339 = .ok (.istore 11, 2) := by decide +kernel
theorem d_Mo_sumBy_341 : decode b_Mo_sumBy 341 = .ok (.iload 4, 2) := by decide +kernel
theorem d_Mo_sumBy_343 : decode b_Mo_sumBy 343 = .ok (.ifCond .lt 10, 3) := by decide +kernel
theorem d_Mo_sumBy_346 : decode b_Mo_sumBy 346 = .ok (.iload 11, 2) := by decide +kernel
theorem d_Mo_sumBy_348 : decode b_Mo_sumBy 348 = .ok (.iload 4, 2) := by decide +kernel
theorem d_Mo_sumBy_350 : decode b_Mo_sumBy 350 = .ok (.if_icmp .ge 31, 3) := by decide +kernel
theorem d_Mo_sumBy_353 : decode b_Mo_sumBy 353 = .ok (.iload 11, 2) := by decide +kernel
theorem d_Mo_sumBy_355 : decode b_Mo_sumBy 355 = .ok (.istore 4, 2) := by decide +kernel
theorem d_Mo_sumBy_357 : decode b_Mo_sumBy 357 = .ok (.aload_n 0, 1) := by decide +kernel
theorem d_Mo_sumBy_358 : decode b_Mo_sumBy 358 = .ok (.getfield 48, 3) := by decide +kernel
theorem d_Mo_sumBy_361 : decode b_Mo_sumBy 361 = .ok (.iconst 0, 1) := by decide +kernel
theorem d_Mo_sumBy_362 : decode b_Mo_sumBy 362 = .ok (.iload 6, 2) := by decide +kernel
theorem d_Mo_sumBy_364 : decode b_Mo_sumBy 364 = .ok (.iastore, 1) := by decide +kernel
theorem d_Mo_sumBy_365 : decode b_Mo_sumBy 365 = .ok (.aload_n 0, 1) := by decide +kernel
theorem d_Mo_sumBy_366 : decode b_Mo_sumBy 366 = .ok (.getfield 48, 3) := by decide +kernel
theorem d_Mo_sumBy_369 : decode b_Mo_sumBy 369 = .ok (.iconst 1, 1) := by decide +kernel
theorem d_Mo_sumBy_370 : decode b_Mo_sumBy 370 = .ok (.iload 7, 2) := by decide +kernel
theorem d_Mo_sumBy_372 : decode b_Mo_sumBy 372 = .ok (.iastore, 1) := by decide +kernel
theorem d_Mo_sumBy_373 : decode b_Mo_sumBy 373 = .ok (.aload_n 0, 1) := by decide +kernel
theorem d_Mo_sumBy_374 : decode b_Mo_sumBy 374 = .ok (.getfield 48, 3) := by decide +kernel
theorem d_Mo_sumBy_377 : decode b_Mo_sumBy 377 = .ok (.iconst 2, 1) := by decide +kernel
theorem d_Mo_sumBy_378 : decode b_Mo_sumBy 378 = .ok (.iload 8, 2) := by decide +kernel
theorem d_Mo_sumBy_380 : decode b_Mo_sumBy 380 = .ok (.iastore, 1) := by decide +kernel
theorem d_Mo_sumBy_381 : decode b_Mo_sumBy 381 = .ok (.iinc 5 1, 3) := by decide +kernel
theorem d_Mo_sumBy_384 : decode b_Mo_sumBy 384 = .ok (.goto (-257), 3) := by decide +kernel
theorem d_Mo_sumBy_387 : decode b_Mo_sumBy 387 = .ok (.iload 4, 2) := by decide +kernel
theorem d_Mo_sumBy_389 : decode b_Mo_sumBy 389 = .ok (.ireturn, 1) := by decide +kernel
theorem d_Mo_isAsked_0 : decode b_Mo_isAsked 0 = .ok (.aload_n 0, 1) := by decide +kernel
theorem d_Mo_isAsked_1 : decode b_Mo_isAsked 1 = .ok (.getfield 19, 3) := by decide +kernel
theorem d_Mo_isAsked_4 : decode b_Mo_isAsked 4 = .ok (.iload_n 1, 1) := by decide +kernel
theorem d_Mo_isAsked_5 : decode b_Mo_isAsked 5 = .ok (.baload, 1) := by decide +kernel
theorem d_Mo_isAsked_6 : decode b_Mo_isAsked 6 = .ok (.ifCond .ne 27, 3) := by decide +kernel
theorem d_Mo_isAsked_9 : decode b_Mo_isAsked 9 = .ok (.aload_n 0, 1) := by decide +kernel
theorem d_Mo_isAsked_10 : decode b_Mo_isAsked 10 = .ok (.getfield 29, 3) := by decide +kernel
theorem d_Mo_isAsked_13 : decode b_Mo_isAsked 13 = .ok (.ifCond .lt 16, 3) := by decide +kernel
theorem d_Mo_isAsked_16 : decode b_Mo_isAsked 16 = .ok (.aload_n 0, 1) := by decide +kernel
theorem d_Mo_isAsked_17 : decode b_Mo_isAsked 17 = .ok (.getfield 7, 3) := by decide +kernel
theorem d_Mo_isAsked_20 : decode b_Mo_isAsked 20 = .ok (.iload_n 1, 1) := by decide +kernel
theorem d_Mo_isAsked_21 : decode b_Mo_isAsked 21 = .ok (.iaload, 1) := by decide +kernel
theorem d_Mo_isAsked_22 : decode b_Mo_isAsked 22 = .ok (.aload_n 0, 1) := by decide +kernel
theorem d_Mo_isAsked_23 : decode b_Mo_isAsked 23 = .ok (.getfield 29, 3) := by decide +kernel
theorem d_Mo_isAsked_26 : decode b_Mo_isAsked 26 = .ok (.if_icmp .ne 7, 3) := by decide +kernel
theorem d_Mo_isAsked_29 : decode b_Mo_isAsked 29 = .ok (.iconst 1, 1) := by decide +kernel
theorem d_Mo_isAsked_30 : decode b_Mo_isAsked 30 = .ok (.goto 4, 3) := by decide +kernel
theorem d_Mo_isAsked_33 : decode b_Mo_isAsked 33 = .ok (.iconst 0, 1) := by decide +kernel
theorem d_Mo_isAsked_34 : decode b_Mo_isAsked 34 = .ok (.ireturn, 1) := by decide +kernel
theorem d_Mo_isBefore_0 : decode b_Mo_isBefore 0 = .ok (.aload_n 0, 1) := by decide +kernel
theorem d_Mo_isBefore_1 : decode b_Mo_isBefore 1 = .ok (.getfield 36, 3) := by decide +kernel
theorem d_Mo_isBefore_4 : decode b_Mo_isBefore 4 = .ok (.iload_n 3, 1) := by decide +kernel
theorem d_Mo_isBefore_5 : decode b_Mo_isBefore 5 = .ok (.iaload, 1) := by decide +kernel
theorem d_Mo_isBefore_6 : decode b_Mo_isBefore 6 = .ok (.istore 4, 2) := by decide +kernel
theorem d_Mo_isBefore_8 : decode b_Mo_isBefore 8 = .ok (.iload_n 2, 1) := by decide +kernel
theorem d_Mo_isBefore_9 : decode b_Mo_isBefore 9 = .ok (.aload_n 0, 1) := by decide +kernel
theorem d_Mo_isBefore_10 : decode b_Mo_isBefore 10 = .ok (.getfield 39, 3) := by decide +kernel
theorem d_Mo_isBefore_13 : decode b_Mo_isBefore 13 = .ok (.iload_n 3, 1) := by decide +kernel
theorem d_Mo_isBefore_14 : decode b_Mo_isBefore 14 = .ok (.iaload, 1) := by decide +kernel
theorem d_Mo_isBefore_15 : decode b_Mo_isBefore 15 = .ok (.if_icmp .eq 19, 3) := by decide +kernel
theorem d_Mo_isBefore_18 : decode b_Mo_isBefore 18 = .ok (.iload_n 2, 1) := by decide +kernel
theorem d_Mo_isBefore_19 : decode b_Mo_isBefore 19 = .ok (.aload_n 0, 1) := by decide +kernel
theorem d_Mo_isBefore_20 : decode b_Mo_isBefore 20 = .ok (.getfield 39, 3) := by decide +kernel
theorem d_Mo_isBefore_23 : decode b_Mo_isBefore 23 = .ok (.iload_n 3, 1) := by decide +kernel
theorem d_Mo_isBefore_24 : decode b_Mo_isBefore 24 = .ok (.iaload, 1) := by decide +kernel
theorem d_Mo_isBefore_25 : decode b_Mo_isBefore 25 = .ok (.if_icmp .ge 7, 3) := by decide +kernel
theorem d_Mo_isBefore_28 : decode b_Mo_isBefore 28 = .ok (.iconst 1, 1) := by decide +kernel
theorem d_Mo_isBefore_29 : decode b_Mo_isBefore 29 = .ok (.goto 4, 3) := by decide +kernel
theorem d_Mo_isBefore_32 : decode b_Mo_isBefore 32 = .ok (.iconst 0, 1) := by decide +kernel
theorem d_Mo_isBefore_33 : decode b_Mo_isBefore 33 = .ok (.ireturn, 1) := by decide +kernel
theorem d_Mo_isBefore_34 : decode b_Mo_isBefore 34 = .ok (.aload_n 0, 1) := by decide +kernel
theorem d_Mo_isBefore_35 : decode b_Mo_isBefore 35 = .ok (.getfield 13, 3) := by decide +kernel
theorem d_Mo_isBefore_38 : decode b_Mo_isBefore 38 = .ok (.iload_n 1, 1) := by decide +kernel
theorem d_Mo_isBefore_39 : decode b_Mo_isBefore 39 = .ok (.iaload, 1) := by decide +kernel
theorem d_Mo_isBefore_40 : decode b_Mo_isBefore 40 = .ok (.aload_n 0, 1) := by decide +kernel
theorem d_Mo_isBefore_41 : decode b_Mo_isBefore 41 = .ok (.getfield 13, 3) := by decide +kernel
theorem d_Mo_isBefore_44 : decode b_Mo_isBefore 44 = .ok (.iload 4, 2) := by decide +kernel
theorem d_Mo_isBefore_46 : decode b_Mo_isBefore 46 = .ok (.iaload, 1) := by decide +kernel
theorem d_Mo_isBefore_47 : decode b_Mo_isBefore 47 = .ok (.if_icmp .eq 27, 3) := by decide +kernel
theorem d_Mo_isBefore_50 : decode b_Mo_isBefore 50 = .ok (.aload_n 0, 1) := by decide +kernel
theorem d_Mo_isBefore_51 : decode b_Mo_isBefore 51 = .ok (.getfield 13, 3) := by decide +kernel
theorem d_Mo_isBefore_54 : decode b_Mo_isBefore 54 = .ok (.iload_n 1, 1) := by decide +kernel
theorem d_Mo_isBefore_55 : decode b_Mo_isBefore 55 = .ok (.iaload, 1) := by decide +kernel
theorem d_Mo_isBefore_56 : decode b_Mo_isBefore 56 = .ok (.aload_n 0, 1) := by decide +kernel
theorem d_Mo_isBefore_57 : decode b_Mo_isBefore 57 = .ok (.getfield 13, 3) := by decide +kernel
theorem d_Mo_isBefore_60 : decode b_Mo_isBefore 60 = .ok (.iload 4, 2) := by decide +kernel
theorem d_Mo_isBefore_62 : decode b_Mo_isBefore 62 = .ok (.iaload, 1) := by decide +kernel
theorem d_Mo_isBefore_63 : decode b_Mo_isBefore 63 = .ok (.if_icmp .le 7, 3) := by decide +kernel
theorem d_Mo_isBefore_66 : decode b_Mo_isBefore 66 = .ok (.iconst 1, 1) := by decide +kernel
theorem d_Mo_isBefore_67 : decode b_Mo_isBefore 67 = .ok (.goto 18, 3) := by decide +kernel
theorem d_Mo_isBefore_70 : decode b_Mo_isBefore 70 = .ok (.iconst 0, 1) := by decide +kernel
theorem d_Mo_isBefore_71 : decode b_Mo_isBefore 71 = .ok (.goto 14, 3) := by decide +kernel
theorem d_Mo_isBefore_74 : decode b_Mo_isBefore 74 = .ok (.iload_n 1, 1) := by decide +kernel
theorem d_Mo_isBefore_75 : decode b_Mo_isBefore 75 = .ok (.iload 4, 2) := by decide +kernel
theorem d_Mo_isBefore_77 : decode b_Mo_isBefore 77 = .ok (.if_icmp .ge 7, 3) := by decide +kernel
theorem d_Mo_isBefore_80 : decode b_Mo_isBefore 80 = .ok (.iconst 1, 1) := by decide +kernel
theorem d_Mo_isBefore_81 : decode b_Mo_isBefore 81 = .ok (.goto 4, 3) := by decide +kernel
theorem d_Mo_isBefore_84 : decode b_Mo_isBefore 84 = .ok (.iconst 0, 1) := by decide +kernel
theorem d_Mo_isBefore_85 : decode b_Mo_isBefore 85 = .ok (.ireturn, 1) := by decide +kernel
theorem d_Mo_come_0 : decode b_Mo_come 0 = .ok (.aload_n 0, 1) := by decide +kernel
theorem d_Mo_come_1 : decode b_Mo_come 1 = .ok (.getfield 102, 3) := by decide +kernel
theorem d_Mo_come_4 : decode b_Mo_come 4 = .ok (.istore 4, 2) := by decide +kernel
theorem d_Mo_come_6 : decode b_Mo_come 6 = .ok (.iload 4, 2) := by decide +kernel
theorem d_Mo_come_8 : decode b_Mo_come 8 = .ok (.ifCond .le 22, 3) := by decide +kernel
theorem d_Mo_come_11 : decode b_Mo_come 11 = .ok (.aload_n 0, 1) := by decide +kernel
theorem d_Mo_come_12 : decode b_Mo_come 12 = .ok (.iload_n 1, 1) := by decide +kernel
theorem d_Mo_come_13 : decode b_Mo_come 13 = .ok (.iload_n 2, 1) := by decide +kernel
theorem d_Mo_come_14 : decode b_Mo_come 14 = .ok (.iload 4, 2) := by decide +kernel
theorem d_Mo_come_16 : decode b_Mo_come 16 = .ok (.iconst 1, 1) := by decide +kernel
theorem d_Mo_come_17 : decode b_Mo_come 17 = .ok (.isub, 1) := by decide +kernel
theorem d_Mo_come_18 : decode b_Mo_come 18 = .ok (.invokevirtual 105, 3) := by decide +kernel
theorem d_Mo_come_21 : decode b_Mo_come 21 = .ok (.ifCond .eq 9, 3) := by decide +kernel
theorem d_Mo_come_24 : decode b_Mo_come 24 = .ok (.iinc 4 (-1), 3) := by decide +kernel
theorem d_Mo_come_27 : decode b_Mo_come 27 = .ok (.goto (-21), 3) := by decide +kernel
theorem d_Mo_come_30 : decode b_Mo_come 30 = .ok (.iload 4, 2) := by decide +kernel
theorem d_Mo_come_32 : decode b_Mo_come 32 = .ok (.iload_n 3, 1) := by decide +kernel
theorem d_Mo_come_33 : decode b_Mo_come 33 = .ok (.if_icmp .ne 4, 3) := by decide +kernel
theorem d_Mo_come_36 : decode b_Mo_come 36 = .ok (.return_, 1) := by decide +kernel
theorem d_Mo_come_37 : decode b_Mo_come 37 = .ok (.aload_n 0, 1) := by decide +kernel
theorem d_Mo_come_38 : decode b_Mo_come 38 = .ok (.aload_n 0, 1) := by decide +kernel
theorem d_Mo_come_39 : decode b_Mo_come 39 = .ok (.getfield 102, 3) := by decide +kernel
theorem d_Mo_come_42 : decode b_Mo_come 42 = .ok (.iload_n 3, 1) := by decide +kernel
theorem d_Mo_come_43 : decode b_Mo_come 43 = .ok (.if_icmp .ge 12, 3) := by decide +kernel
theorem d_Mo_come_46 : decode b_Mo_come 46 = .ok (.aload_n 0, 1) := by decide +kernel
theorem d_Mo_come_47 : decode b_Mo_come 47 = .ok (.getfield 102, 3) := by decide +kernel
theorem d_Mo_come_50 : decode b_Mo_come 50 = .ok (.iconst 1, 1) := by decide +kernel
theorem d_Mo_come_51 : decode b_Mo_come 51 = .ok (.iadd, 1) := by decide +kernel
theorem d_Mo_come_52 : decode b_Mo_come 52 = .ok (.goto 4, 3) := by decide +kernel
theorem d_Mo_come_55 : decode b_Mo_come 55 = .ok (.iload_n 3, 1) := by decide +kernel
theorem d_Mo_come_56 : decode b_Mo_come 56 = .ok (.putfield 102, 3) := by decide +kernel
theorem d_Mo_come_59 : decode b_Mo_come 59 = .ok (.aload_n 0, 1) := by decide +kernel
theorem d_Mo_come_60 : decode b_Mo_come 60 = .ok (.getfield 102, 3) := by decide +kernel
theorem d_Mo_come_63 : decode b_Mo_come 63 = .ok (.iconst 1, 1) := by decide +kernel
theorem d_Mo_come_64 : decode b_Mo_come 64 = .ok (.isub, 1) := by decide +kernel
theorem d_Mo_come_65 : decode b_Mo_come 65 = .ok (.istore 5, 2) := by decide +kernel
theorem d_Mo_come_67 : decode b_Mo_come 67 = .ok (.iload 5, 2) := by decide +kernel
theorem d_Mo_come_69 : decode b_Mo_come 69 = .ok (.iload 4, 2) := by decide +kernel
theorem d_Mo_come_71 : decode b_Mo_come 71 = .ok (.if_icmp .le 41, 3) := by decide +kernel
theorem d_Mo_come_74 : decode b_Mo_come 74 = .ok (.aload_n 0, 1) := by decide +kernel
theorem d_Mo_come_75 : decode b_Mo_come 75 = .ok (.getfield 36, 3) := by decide +kernel
theorem d_Mo_come_78 : decode b_Mo_come 78 = .ok (.iload 5, 2) := by decide +kernel
theorem d_Mo_come_80 : decode b_Mo_come 80 = .ok (.aload_n 0, 1) := by decide +kernel
theorem d_Mo_come_81 : decode b_Mo_come 81 = .ok (.getfield 36, 3) := by decide +kernel
theorem d_Mo_come_84 : decode b_Mo_come 84 = .ok (.iload 5, 2) := by decide +kernel
theorem d_Mo_come_86 : decode b_Mo_come 86 = .ok (.iconst 1, 1) := by decide +kernel
theorem d_Mo_come_87 : decode b_Mo_come 87 = .ok (.isub, 1) := by decide +kernel
theorem d_Mo_come_88 : decode b_Mo_come 88 = .ok (.iaload, 1) := by decide +kernel
theorem d_Mo_come_89 : decode b_Mo_come 89 = .ok (.iastore, 1) := by decide +kernel
theorem d_Mo_come_90 : decode b_Mo_come 90 = .ok (.aload_n 0, 1) := by decide +kernel
theorem d_Mo_come_91 : decode b_Mo_come 91 = .ok (.getfield 39, 3) := by decide +kernel
theorem d_Mo_come_94 : decode b_Mo_come 94 = .ok (.iload 5, 2) := by decide +kernel
theorem d_Mo_come_96 : decode b_Mo_come 96 = .ok (.aload_n 0, 1) := by decide +kernel
theorem d_Mo_come_97 : decode b_Mo_come 97 = .ok (.getfield 39, 3) := by decide +kernel
theorem d_Mo_come_100 : decode b_Mo_come 100 = .ok (.iload 5, 2) := by decide +kernel
theorem d_Mo_come_102 : decode b_Mo_come 102 = .ok (.iconst 1, 1) := by decide +kernel
theorem d_Mo_come_103 : decode b_Mo_come 103 = .ok (.isub, 1) := by decide +kernel
theorem d_Mo_come_104 : decode b_Mo_come 104 = .ok (.iaload, 1) := by decide +kernel
theorem d_Mo_come_105 : decode b_Mo_come 105 = .ok (.iastore, 1) := by decide +kernel
theorem d_Mo_come_106 : decode b_Mo_come 106 = .ok (.iinc 5 (-1), 3) := by decide +kernel
theorem d_Mo_come_109 : decode b_Mo_come 109 = .ok (.goto (-42), 3) := by decide +kernel
theorem d_Mo_come_112 : decode b_Mo_come 112 = .ok (.aload_n 0, 1) := by decide +kernel
theorem d_Mo_come_113 : decode b_Mo_come 113 = .ok (.getfield 36, 3) := by decide +kernel
theorem d_Mo_come_116 : decode b_Mo_come 116 = .ok (.iload 4, 2) := by decide +kernel
theorem d_Mo_come_118 : decode b_Mo_come 118 = .ok (.iload_n 1, 1) := by decide +kernel
theorem d_Mo_come_119 : decode b_Mo_come 119 = .ok (.iastore, 1) := by decide +kernel
theorem d_Mo_come_120 : decode b_Mo_come 120 = .ok (.aload_n 0, 1) := by decide +kernel
theorem d_Mo_come_121 : decode b_Mo_come 121 = .ok (.getfield 39, 3) := by decide +kernel
theorem d_Mo_come_124 : decode b_Mo_come 124 = .ok (.iload 4, 2) := by decide +kernel
theorem d_Mo_come_126 : decode b_Mo_come 126 = .ok (.iload_n 2, 1) := by decide +kernel
theorem d_Mo_come_127 : decode b_Mo_come 127 = .ok (.iastore, 1) := by decide +kernel
theorem d_Mo_come_128 : decode b_Mo_come 128 = .ok (.return_, 1) := by decide +kernel
theorem d_Mo_look_0 : decode b_Mo_look 0 = .ok (.iload_n 1, 1) := by decide +kernel
theorem d_Mo_look_1 : decode b_Mo_look 1 = .ok (.iconst 1, 1) := by decide +kernel
theorem d_Mo_look_2 : decode b_Mo_look 2 = .ok (.if_icmp .lt 13, 3) := by decide +kernel
theorem d_Mo_look_5 : decode b_Mo_look 5 = .ok (.iload_n 1, 1) := by decide +kernel
theorem d_Mo_look_6 : decode b_Mo_look 6 = .ok (.bipush 40, 2) := by decide +kernel
theorem d_Mo_look_8 : decode b_Mo_look 8 = .ok (.if_icmp .gt 7, 3) := by decide +kernel
theorem d_Mo_look_11 : decode b_Mo_look 11 = .ok (.iload_n 2, 1) := by decide +kernel
theorem d_Mo_look_12 : decode b_Mo_look 12 = .ok (.ifCond .ge 5, 3) := by decide +kernel
theorem d_Mo_look_15 : decode b_Mo_look 15 = .ok (.iconst (-1), 1) := by decide +kernel
theorem d_Mo_look_16 : decode b_Mo_look 16 = .ok (.ireturn, 1) := by decide +kernel
theorem d_Mo_look_17 : decode b_Mo_look 17 = .ok (.aload_n 0, 1) := by decide +kernel
theorem d_Mo_look_18 : decode b_Mo_look 18 = .ok (.iconst 0, 1) := by decide +kernel
theorem d_Mo_look_19 : decode b_Mo_look 19 = .ok (.putfield 102, 3) := by decide +kernel
theorem d_Mo_look_22 : decode b_Mo_look 22 = .ok (.aload_n 0, 1) := by decide +kernel
theorem d_Mo_look_23 : decode b_Mo_look 23 = .ok (.iconst 0, 1) := by decide +kernel
theorem d_Mo_look_24 : decode b_Mo_look 24 = .ok (.putfield 108, 3) := by decide +kernel
theorem d_Mo_look_27 : decode b_Mo_look 27 = .ok (.aload_n 0, 1) := by decide +kernel
theorem d_Mo_look_28 : decode b_Mo_look 28 = .ok (.bipush 120, 2) := by decide +kernel
theorem d_Mo_look_30 : decode b_Mo_look 30 = .ok (.invokevirtual 89, 3) := by decide +kernel
theorem d_Mo_look_33 : decode b_Mo_look 33 = .ok (.ifCond .le 7, 3) := by decide +kernel
theorem d_Mo_look_36 : decode b_Mo_look 36 = .ok (.iconst 1, 1) := by decide +kernel
theorem d_Mo_look_37 : decode b_Mo_look 37 = .ok (.goto 4, 3) := by decide +kernel
theorem d_Mo_look_40 : decode b_Mo_look 40 = .ok (.iconst 0, 1) := by decide +kernel
theorem d_Mo_look_41 : decode b_Mo_look 41 = .ok (.istore 4, 2) := by decide +kernel
theorem d_Mo_look_43 : decode b_Mo_look 43 = .ok (.iconst 0, 1) := by decide +kernel
theorem d_Mo_look_44 : decode b_Mo_look 44 = .ok (.istore 5, 2) := by decide +kernel
theorem d_Mo_look_46 : decode b_Mo_look 46 = .ok (.iload 5, 2) := by decide +kernel
theorem d_Mo_look_48 : decode b_Mo_look 48 = .ok (.aload_n 0, 1) := by decide +kernel
theorem d_Mo_look_49 : decode b_Mo_look 49 = .ok (.getfield 54, 3) := by decide +kernel
theorem d_Mo_look_52 : decode b_Mo_look 52 = .ok (.if_icmp .ge 107, 3) := by decide +kernel
theorem d_Mo_look_55 : decode b_Mo_look 55 = .ok (.iload 4, 2) := by decide +kernel
theorem d_Mo_look_57 : decode b_Mo_look 57 = .ok (.ifCond .eq 102, 3) := by decide +kernel
theorem d_Mo_look_60 : decode b_Mo_look 60 = .ok (.aload_n 0, 1) := by decide +kernel
theorem d_Mo_look_61 : decode b_Mo_look 61 = .ok (.iload 5, 2) := by decide +kernel
theorem d_Mo_look_63 : decode b_Mo_look 63 = .ok (.invokevirtual 111, 3) := by decide +kernel
theorem d_Mo_look_66 : decode b_Mo_look 66 = .ok (.ifCond .eq 87, 3) := by decide +kernel
theorem d_Mo_look_69 : decode b_Mo_look 69 = .ok (.aload_n 0, 1) := by decide +kernel
theorem d_Mo_look_70 : decode b_Mo_look 70 = .ok (.getfield 102, 3) := by decide +kernel
theorem d_Mo_look_73 : decode b_Mo_look 73 = .ok (.iload_n 1, 1) := by decide +kernel
theorem d_Mo_look_74 : decode b_Mo_look 74 = .ok (.if_icmp .ne 26, 3) := by decide +kernel
theorem d_Mo_look_77 : decode b_Mo_look 77 = .ok (.aload_n 0, 1) := by decide +kernel
theorem d_Mo_look_78 : decode b_Mo_look 78 = .ok (.getfield 39, 3) := by decide +kernel
theorem d_Mo_look_81 : decode b_Mo_look 81 = .ok (.iload_n 1, 1) := by decide +kernel
theorem d_Mo_look_82 : decode b_Mo_look 82 = .ok (.iconst 1, 1) := by decide +kernel
theorem d_Mo_look_83 : decode b_Mo_look 83 = .ok (.isub, 1) := by decide +kernel
theorem d_Mo_look_84 : decode b_Mo_look 84 = .ok (.iaload, 1) := by decide +kernel
theorem d_Mo_look_85 : decode b_Mo_look 85 = .ok (.iload_n 2, 1) := by decide +kernel
theorem d_Mo_look_86 : decode b_Mo_look 86 = .ok (.if_icmp .ge 14, 3) := by decide +kernel
theorem d_Mo_look_89 : decode b_Mo_look 89 = .ok (.aload_n 0, 1) := by decide +kernel
theorem d_Mo_look_90 : decode b_Mo_look 90 = .ok (.getfield 39, 3) := by decide +kernel
theorem d_Mo_look_93 : decode b_Mo_look 93 = .ok (.iload_n 1, 1) := by decide +kernel
theorem d_Mo_look_94 : decode b_Mo_look 94 = .ok (.iconst 1, 1) := by decide +kernel
theorem d_Mo_look_95 : decode b_Mo_look 95 = .ok (.isub, 1) := by decide +kernel
theorem d_Mo_look_96 : decode b_Mo_look 96 = .ok (.iaload, 1) := by decide +kernel
theorem d_Mo_look_97 : decode b_Mo_look 97 = .ok (.goto 4, 3) := by decide +kernel
theorem d_Mo_look_100 : decode b_Mo_look 100 = .ok (.iload_n 2, 1) := by decide +kernel
theorem d_Mo_look_101 : decode b_Mo_look 101 = .ok (.istore 6, 2) := by decide +kernel
theorem d_Mo_look_103 : decode b_Mo_look 103 = .ok (.iload_n 3, 1) := by decide +kernel
theorem d_Mo_look_104 : decode b_Mo_look 104 = .ok (.ifCond .eq 15, 3) := by decide +kernel
theorem d_Mo_look_107 : decode b_Mo_look 107 = .ok (.aload_n 0, 1) := by decide +kernel
theorem d_Mo_look_108 : decode b_Mo_look 108 = .ok (.iload 5, 2) := by decide +kernel
theorem d_Mo_look_110 : decode b_Mo_look 110 = .ok (.iconst 1, 1) := by decide +kernel
theorem d_Mo_look_111 : decode b_Mo_look 111 = .ok (.invokevirtual 114, 3) := by decide +kernel
theorem d_Mo_look_114 : decode b_Mo_look 114 = .ok (.iload 6, 2) := by decide +kernel
theorem d_Mo_look_116 : decode b_Mo_look 116 = .ok (.if_icmp .gt 37, 3) := by decide +kernel
theorem d_Mo_look_119 : decode b_Mo_look 119 = .ok (.aload_n 0, 1) := by decide +kernel
theorem d_Mo_look_120 : decode b_Mo_look 120 = .ok (.dup, 1) := by decide +kernel
theorem d_Mo_look_121 : decode b_Mo_look 121 = .ok (.getfield 108, 3) := by decide +kernel
theorem d_Mo_look_124 : decode b_Mo_look 124 = .ok (.iconst 1, 1) := by decide +kernel
theorem d_Mo_look_125 : decode b_Mo_look 125 = .ok (.iadd, 1) := by decide +kernel
theorem d_Mo_look_126 : decode b_Mo_look 126 = .ok (.putfield 108, 3) := by decide +kernel
theorem d_Mo_look_129 : decode b_Mo_look 129 = .ok (.aload_n 0, 1) := by decide +kernel
theorem d_Mo_look_130 : decode b_Mo_look 130 = .ok (.iload 5, 2) := by decide +kernel
theorem d_Mo_look_132 : decode b_Mo_look 132 = .ok (.iconst 0, 1) := by decide +kernel
theorem d_Mo_look_133 : decode b_Mo_look 133 = .ok (.invokevirtual 114, 3) := by decide +kernel
theorem d_Mo_look_136 : decode b_Mo_look 136 = .ok (.istore 7, 2) := by decide +kernel
theorem d_Mo_look_138 : decode b_Mo_look 138 = .ok (.iload 7, 2) := by decide +kernel
theorem d_Mo_look_140 : decode b_Mo_look 140 = .ok (.iload_n 2, 1) := by decide +kernel
theorem d_Mo_look_141 : decode b_Mo_look 141 = .ok (.if_icmp .gt 12, 3) := by decide +kernel
theorem d_Mo_look_144 : decode b_Mo_look 144 = .ok (.aload_n 0, 1) := by decide +kernel
theorem d_Mo_look_145 : decode b_Mo_look 145 = .ok (.iload 5, 2) := by decide +kernel
theorem d_Mo_look_147 : decode b_Mo_look 147 = .ok (.iload 7, 2) := by decide +kernel
theorem d_Mo_look_149 : decode b_Mo_look 149 = .ok (.iload_n 1, 1) := by decide +kernel
theorem d_Mo_look_150 : decode b_Mo_look 150 = .ok (.invokevirtual 118, 3) := by decide +kernel
theorem d_Mo_look_153 : decode b_Mo_look 153 = .ok (.iinc 5 1, 3) := by decide +kernel
theorem d_Mo_look_156 : decode b_Mo_look 156 = .ok (.goto (-110), 3) := by decide +kernel
theorem d_Mo_look_159 : decode b_Mo_look 159 = .ok (.aload_n 0, 1) := by decide +kernel
theorem d_Mo_look_160 : decode b_Mo_look 160 = .ok (.getfield 102, 3) := by decide +kernel
theorem d_Mo_look_163 : decode b_Mo_look 163 = .ok (.ireturn, 1) := by decide +kernel
theorem d_Mo_find_0 : decode b_Mo_find 0 = .ok (.aload_n 0, 1) := by decide +kernel
theorem d_Mo_find_1 : decode b_Mo_find 1 = .ok (.iconst 0, 1) := by decide +kernel
theorem d_Mo_find_2 : decode b_Mo_find 2 = .ok (.putfield 51, 3) := by decide +kernel
theorem d_Mo_find_5 : decode b_Mo_find 5 = .ok (.aload_n 0, 1) := by decide +kernel
theorem d_Mo_find_6 : decode b_Mo_find 6 = .ok (.iload_n 1, 1) := by decide +kernel
theorem d_Mo_find_7 : decode b_Mo_find 7 = .ok (.iload_n 2, 1) := by decide +kernel
theorem d_Mo_find_8 : decode b_Mo_find 8 = .ok (.iconst 1, 1) := by decide +kernel
theorem d_Mo_find_9 : decode b_Mo_find 9 = .ok (.invokevirtual 122, 3) := by decide +kernel
end
section
theorem d_Mo_find_12 : decode b_Mo_find 12 = .ok (.ireturn, 1) := by decide +kernel
theorem d_Mo_scan_0 : decode b_Mo_scan 0 = .ok (.aload_n 0, 1) := by decide +kernel
theorem d_Mo_scan_1 : decode b_Mo_scan 1 = .ok (.iconst 0, 1) := by decide +kernel
theorem d_Mo_scan_2 : decode b_Mo_scan 2 = .ok (.putfield 51, 3) := by decide +kernel
theorem d_Mo_scan_5 : decode b_Mo_scan 5 = .ok (.aload_n 0, 1) := by decide +kernel
theorem d_Mo_scan_6 : decode b_Mo_scan 6 = .ok (.iload_n 1, 1) := by decide +kernel
theorem d_Mo_scan_7 : decode b_Mo_scan 7 = .ok (.iload_n 2, 1) := by decide +kernel
theorem d_Mo_scan_8 : decode b_Mo_scan 8 = .ok (.iconst 0, 1) := by decide +kernel
theorem d_Mo_scan_9 : decode b_Mo_scan 9 = .ok (.invokevirtual 122, 3) := by decide +kernel
theorem d_Mo_scan_12 : decode b_Mo_scan 12 = .ok (.ireturn, 1) := by decide +kernel
theorem d_Mo_worked_0 : decode b_Mo_worked 0 = .ok (.aload_n 0, 1) := by decide +kernel
theorem d_Mo_worked_1 : decode b_Mo_worked 1 = .ok (.iconst 0, 1) := by decide +kernel
theorem d_Mo_worked_2 : decode b_Mo_worked 2 = .ok (.putfield 51, 3) := by decide +kernel
theorem d_Mo_worked_5 : decode b_Mo_worked 5 = .ok (.aload_n 0, 1) := by decide +kernel
theorem d_Mo_worked_6 : decode b_Mo_worked 6 = .ok (.getfield 108, 3) := by decide +kernel
theorem d_Mo_worked_9 : decode b_Mo_worked 9 = .ok (.ireturn, 1) := by decide +kernel
theorem d_Mo_found_0 : decode b_Mo_found 0 = .ok (.aload_n 0, 1) := by decide +kernel
theorem d_Mo_found_1 : decode b_Mo_found 1 = .ok (.iconst 0, 1) := by decide +kernel
theorem d_Mo_found_2 : decode b_Mo_found 2 = .ok (.putfield 51, 3) := by decide +kernel
theorem d_Mo_found_5 : decode b_Mo_found 5 = .ok (.iload_n 1, 1) := by decide +kernel
theorem d_Mo_found_6 : decode b_Mo_found 6 = .ok (.ifCond .lt 20, 3) := by decide +kernel
theorem d_Mo_found_9 : decode b_Mo_found 9 = .ok (.iload_n 1, 1) := by decide +kernel
theorem d_Mo_found_10 : decode b_Mo_found 10 = .ok (.aload_n 0, 1) := by decide +kernel
theorem d_Mo_found_11 : decode b_Mo_found 11 = .ok (.getfield 102, 3) := by decide +kernel
theorem d_Mo_found_14 : decode b_Mo_found 14 = .ok (.if_icmp .ge 12, 3) := by decide +kernel
theorem d_Mo_found_17 : decode b_Mo_found 17 = .ok (.aload_n 0, 1) := by decide +kernel
theorem d_Mo_found_18 : decode b_Mo_found 18 = .ok (.getfield 36, 3) := by decide +kernel
theorem d_Mo_found_21 : decode b_Mo_found 21 = .ok (.iload_n 1, 1) := by decide +kernel
theorem d_Mo_found_22 : decode b_Mo_found 22 = .ok (.iaload, 1) := by decide +kernel
theorem d_Mo_found_23 : decode b_Mo_found 23 = .ok (.goto 4, 3) := by decide +kernel
theorem d_Mo_found_26 : decode b_Mo_found 26 = .ok (.iconst (-1), 1) := by decide +kernel
theorem d_Mo_found_27 : decode b_Mo_found 27 = .ok (.ireturn, 1) := by decide +kernel
theorem d_Mo_sum_0 : decode b_Mo_sum 0 = .ok (.aload_n 0, 1) := by decide +kernel
theorem d_Mo_sum_1 : decode b_Mo_sum 1 = .ok (.iconst 0, 1) := by decide +kernel
theorem d_Mo_sum_2 : decode b_Mo_sum 2 = .ok (.putfield 51, 3) := by decide +kernel
theorem d_Mo_sum_5 : decode b_Mo_sum 5 = .ok (.iload_n 1, 1) := by decide +kernel
theorem d_Mo_sum_6 : decode b_Mo_sum 6 = .ok (.ifCond .lt 20, 3) := by decide +kernel
theorem d_Mo_sum_9 : decode b_Mo_sum 9 = .ok (.iload_n 1, 1) := by decide +kernel
theorem d_Mo_sum_10 : decode b_Mo_sum 10 = .ok (.aload_n 0, 1) := by decide +kernel
theorem d_Mo_sum_11 : decode b_Mo_sum 11 = .ok (.getfield 102, 3) := by decide +kernel
theorem d_Mo_sum_14 : decode b_Mo_sum 14 = .ok (.if_icmp .ge 12, 3) := by decide +kernel
theorem d_Mo_sum_17 : decode b_Mo_sum 17 = .ok (.aload_n 0, 1) := by decide +kernel
theorem d_Mo_sum_18 : decode b_Mo_sum 18 = .ok (.getfield 39, 3) := by decide +kernel
theorem d_Mo_sum_21 : decode b_Mo_sum 21 = .ok (.iload_n 1, 1) := by decide +kernel
theorem d_Mo_sum_22 : decode b_Mo_sum 22 = .ok (.iaload, 1) := by decide +kernel
theorem d_Mo_sum_23 : decode b_Mo_sum 23 = .ok (.goto 4, 3) := by decide +kernel
theorem d_Mo_sum_26 : decode b_Mo_sum 26 = .ok (.iconst (-1), 1) := by decide +kernel
theorem d_Mo_sum_27 : decode b_Mo_sum 27 = .ok (.ireturn, 1) := by decide +kernel
theorem d_Mo_sumOf_0 : decode b_Mo_sumOf 0 = .ok (.aload_n 0, 1) := by decide +kernel
theorem d_Mo_sumOf_1 : decode b_Mo_sumOf 1 = .ok (.iconst 0, 1) := by decide +kernel
theorem d_Mo_sumOf_2 : decode b_Mo_sumOf 2 = .ok (.putfield 51, 3) := by decide +kernel
theorem d_Mo_sumOf_5 : decode b_Mo_sumOf 5 = .ok (.aload_n 0, 1) := by decide +kernel
theorem d_Mo_sumOf_6 : decode b_Mo_sumOf 6 = .ok (.iload_n 1, 1) := by decide +kernel
theorem d_Mo_sumOf_7 : decode b_Mo_sumOf 7 = .ok (.invokevirtual 57, 3) := by decide +kernel
theorem d_Mo_sumOf_10 : decode b_Mo_sumOf 10 = .ok (.ifCond .eq 12, 3) := by decide +kernel
theorem d_Mo_sumOf_13 : decode b_Mo_sumOf 13 = .ok (.aload_n 0, 1) := by decide +kernel
theorem d_Mo_sumOf_14 : decode b_Mo_sumOf 14 = .ok (.iload_n 1, 1) := by decide +kernel
theorem d_Mo_sumOf_15 : decode b_Mo_sumOf 15 = .ok (.iconst 0, 1) := by decide +kernel
theorem d_Mo_sumOf_16 : decode b_Mo_sumOf 16 = .ok (.invokevirtual 114, 3) := by decide +kernel
theorem d_Mo_sumOf_19 : decode b_Mo_sumOf 19 = .ok (.goto 4, 3) := by decide +kernel
theorem d_Mo_sumOf_22 : decode b_Mo_sumOf 22 = .ok (.iconst (-1), 1) := by decide +kernel
theorem d_Mo_sumOf_23 : decode b_Mo_sumOf 23 = .ok (.ireturn, 1) := by decide +kernel
theorem d_Mo_pair_0 : decode b_Mo_pair 0 = .ok (.aload_n 0, 1) := by decide +kernel
theorem d_Mo_pair_1 : decode b_Mo_pair 1 = .ok (.iconst 0, 1) := by decide +kernel
theorem d_Mo_pair_2 : decode b_Mo_pair 2 = .ok (.putfield 51, 3) := by decide +kernel
theorem d_Mo_pair_5 : decode b_Mo_pair 5 = .ok (.aload_n 0, 1) := by decide +kernel
theorem d_Mo_pair_6 : decode b_Mo_pair 6 = .ok (.iload_n 1, 1) := by decide +kernel
theorem d_Mo_pair_7 : decode b_Mo_pair 7 = .ok (.invokevirtual 57, 3) := by decide +kernel
theorem d_Mo_pair_10 : decode b_Mo_pair 10 = .ok (.ifCond .eq 10, 3) := by decide +kernel
theorem d_Mo_pair_13 : decode b_Mo_pair 13 = .ok (.iload_n 2, 1) := by decide +kernel
theorem d_Mo_pair_14 : decode b_Mo_pair 14 = .ok (.invokestatic 61, 3) := by decide +kernel
theorem d_Mo_pair_17 : decode b_Mo_pair 17 = .ok (.ifCond .ne 5, 3) := by decide +kernel
theorem d_Mo_pair_20 : decode b_Mo_pair 20 = .ok (.iconst (-1), 1) := by decide +kernel
theorem d_Mo_pair_21 : decode b_Mo_pair 21 = .ok (.ireturn, 1) := by decide +kernel
theorem d_Mo_pair_22 : decode b_Mo_pair 22 = .ok (.aload_n 0, 1) := by decide +kernel
theorem d_Mo_pair_23 : decode b_Mo_pair 23 = .ok (.iload_n 1, 1) := by decide +kernel
theorem d_Mo_pair_24 : decode b_Mo_pair 24 = .ok (.iconst 0, 1) := by decide +kernel
theorem d_Mo_pair_25 : decode b_Mo_pair 25 = .ok (.invokevirtual 114, 3) := by decide +kernel
theorem d_Mo_pair_28 : decode b_Mo_pair 28 = .ok (.istore_n 3, 1) := by decide +kernel
theorem d_Mo_pair_29 : decode b_Mo_pair 29 = .ok (.iload_n 3, 1) := by decide +kernel
theorem d_Mo_pair_30 : decode b_Mo_pair 30 = .ok (.ifCond .ge 7, 3) := by decide +kernel
theorem d_Mo_pair_33 : decode b_Mo_pair 33 = .ok (.iconst (-1), 1) := by decide +kernel
theorem d_Mo_pair_34 : decode b_Mo_pair 34 = .ok (.goto 9, 3) := by decide +kernel
theorem d_Mo_pair_37 : decode b_Mo_pair 37 = .ok (.aload_n 0, 1) := by decide +kernel
theorem d_Mo_pair_38 : decode b_Mo_pair 38 = .ok (.getfield 48, 3) := by decide +kernel
theorem d_Mo_pair_41 : decode b_Mo_pair 41 = .ok (.iload_n 2, 1) := by decide +kernel
theorem d_Mo_pair_42 : decode b_Mo_pair 42 = .ok (.iaload, 1) := by decide +kernel
theorem d_Mo_pair_43 : decode b_Mo_pair 43 = .ok (.ireturn, 1) := by decide +kernel
theorem d_Mo_changes_0 : decode b_Mo_changes 0 = .ok (.aload_n 0, 1) := by decide +kernel
theorem d_Mo_changes_1 : decode b_Mo_changes 1 = .ok (.iconst 0, 1) := by decide +kernel
theorem d_Mo_changes_2 : decode b_Mo_changes 2 = .ok (.putfield 51, 3) := by decide +kernel
theorem d_Mo_changes_5 : decode b_Mo_changes 5 = .ok (.iload_n 1, 1) := by decide +kernel
theorem d_Mo_changes_6 : decode b_Mo_changes 6 = .ok (.invokestatic 61, 3) := by decide +kernel
theorem d_Mo_changes_9 : decode b_Mo_changes 9 = .ok (.ifCond .eq 43, 3) := by decide +kernel
theorem d_Mo_changes_12 : decode b_Mo_changes 12 = .ok (.aload_n 0, 1) := by decide +kernel
theorem d_Mo_changes_13 : decode b_Mo_changes 13 = .ok (.iload_n 2, 1) := by decide +kernel
theorem d_Mo_changes_14 : decode b_Mo_changes 14 = .ok (.invokevirtual 57, 3) := by decide +kernel
theorem d_Mo_changes_17 : decode b_Mo_changes 17 = .ok (.ifCond .eq 35, 3) := by decide +kernel
theorem d_Mo_changes_20 : decode b_Mo_changes 20 = .ok (.iload_n 3, 1) := by decide +kernel
theorem d_Mo_changes_21 : decode b_Mo_changes 21 = .ok (.invokestatic 61, 3) := by decide +kernel
theorem d_Mo_changes_24 : decode b_Mo_changes 24 = .ok (.ifCond .eq 28, 3) := by decide +kernel
theorem d_Mo_changes_27 : decode b_Mo_changes 27 = .ok (.aload_n 0, 1) := by decide +kernel
theorem d_Mo_changes_28 : decode b_Mo_changes 28 = .ok (.getfield 23, 3) := by decide +kernel
theorem d_Mo_changes_31 : decode b_Mo_changes 31 = .ok (.bipush 120, 2) := by decide +kernel
theorem d_Mo_changes_33 : decode b_Mo_changes 33 = .ok (.iload_n 1, 1) := by decide +kernel
theorem d_Mo_changes_34 : decode b_Mo_changes 34 = .ok (.iadd, 1) := by decide +kernel
theorem d_Mo_changes_35 : decode b_Mo_changes 35 = .ok (.iaload, 1) := by decide +kernel
theorem d_Mo_changes_36 : decode b_Mo_changes 36 = .ok (.ifCond .eq 16, 3) := by decide +kernel
theorem d_Mo_changes_39 : decode b_Mo_changes 39 = .ok (.aload_n 0, 1) := by decide +kernel
theorem d_Mo_changes_40 : decode b_Mo_changes 40 = .ok (.getfield 23, 3) := by decide +kernel
theorem d_Mo_changes_43 : decode b_Mo_changes 43 = .ok (.iconst 3, 1) := by decide +kernel
theorem d_Mo_changes_44 : decode b_Mo_changes 44 = .ok (.iload_n 2, 1) := by decide +kernel
theorem d_Mo_changes_45 : decode b_Mo_changes 45 = .ok (.imul, 1) := by decide +kernel
theorem d_Mo_changes_46 : decode b_Mo_changes 46 = .ok (.iload_n 3, 1) := by decide +kernel
theorem d_Mo_changes_47 : decode b_Mo_changes 47 = .ok (.iadd, 1) := by decide +kernel
theorem d_Mo_changes_48 : decode b_Mo_changes 48 = .ok (.iaload, 1) := by decide +kernel
theorem d_Mo_changes_49 : decode b_Mo_changes 49 = .ok (.ifCond .ne 5, 3) := by decide +kernel
theorem d_Mo_changes_52 : decode b_Mo_changes 52 = .ok (.iconst (-1), 1) := by decide +kernel
theorem d_Mo_changes_53 : decode b_Mo_changes 53 = .ok (.ireturn, 1) := by decide +kernel
theorem d_Mo_changes_54 : decode b_Mo_changes 54 = .ok (.aload_n 0, 1) := by decide +kernel
theorem d_Mo_changes_55 : decode b_Mo_changes 55 = .ok (.bipush 120, 2) := by decide +kernel
theorem d_Mo_changes_57 : decode b_Mo_changes 57 = .ok (.iload_n 1, 1) := by decide +kernel
theorem d_Mo_changes_58 : decode b_Mo_changes 58 = .ok (.iadd, 1) := by decide +kernel
theorem d_Mo_changes_59 : decode b_Mo_changes 59 = .ok (.iconst 3, 1) := by decide +kernel
theorem d_Mo_changes_60 : decode b_Mo_changes 60 = .ok (.iload_n 2, 1) := by decide +kernel
theorem d_Mo_changes_61 : decode b_Mo_changes 61 = .ok (.imul, 1) := by decide +kernel
theorem d_Mo_changes_62 : decode b_Mo_changes 62 = .ok (.iload_n 3, 1) := by decide +kernel
theorem d_Mo_changes_63 : decode b_Mo_changes 63 = .ok (.iadd, 1) := by decide +kernel
theorem d_Mo_changes_64 : decode b_Mo_changes 64 = .ok (.invokevirtual 86, 3) := by decide +kernel
theorem d_Mo_changes_67 : decode b_Mo_changes 67 = .ok (.ireturn, 1) := by decide +kernel
theorem d_Mo_learned_0 : decode b_Mo_learned 0 = .ok (.aload_n 0, 1) := by decide +kernel
theorem d_Mo_learned_1 : decode b_Mo_learned 1 = .ok (.iconst 0, 1) := by decide +kernel
theorem d_Mo_learned_2 : decode b_Mo_learned 2 = .ok (.putfield 51, 3) := by decide +kernel
theorem d_Mo_learned_5 : decode b_Mo_learned 5 = .ok (.aload_n 0, 1) := by decide +kernel
theorem d_Mo_learned_6 : decode b_Mo_learned 6 = .ok (.iload_n 1, 1) := by decide +kernel
theorem d_Mo_learned_7 : decode b_Mo_learned 7 = .ok (.invokevirtual 57, 3) := by decide +kernel
theorem d_Mo_learned_10 : decode b_Mo_learned 10 = .ok (.ifCond .eq 13, 3) := by decide +kernel
theorem d_Mo_learned_13 : decode b_Mo_learned 13 = .ok (.iload_n 2, 1) := by decide +kernel
theorem d_Mo_learned_14 : decode b_Mo_learned 14 = .ok (.ifCond .lt 9, 3) := by decide +kernel
theorem d_Mo_learned_17 : decode b_Mo_learned 17 = .ok (.iload_n 2, 1) := by decide +kernel
theorem d_Mo_learned_18 : decode b_Mo_learned 18 = .ok (.ldc 126, 2) := by decide +kernel
theorem d_Mo_learned_20 : decode b_Mo_learned 20 = .ok (.if_icmp .le 5, 3) := by decide +kernel
theorem d_Mo_learned_23 : decode b_Mo_learned 23 = .ok (.iconst (-1), 1) := by decide +kernel
theorem d_Mo_learned_24 : decode b_Mo_learned 24 = .ok (.ireturn, 1) := by decide +kernel
theorem d_Mo_learned_25 : decode b_Mo_learned 25 = .ok (.aload_n 0, 1) := by decide +kernel
theorem d_Mo_learned_26 : decode b_Mo_learned 26 = .ok (.getfield 13, 3) := by decide +kernel
theorem d_Mo_learned_29 : decode b_Mo_learned 29 = .ok (.iload_n 1, 1) := by decide +kernel
theorem d_Mo_learned_30 : decode b_Mo_learned 30 = .ok (.iload_n 2, 1) := by decide +kernel
theorem d_Mo_learned_31 : decode b_Mo_learned 31 = .ok (.iastore, 1) := by decide +kernel
theorem d_Mo_learned_32 : decode b_Mo_learned 32 = .ok (.aload_n 0, 1) := by decide +kernel
theorem d_Mo_learned_33 : decode b_Mo_learned 33 = .ok (.getfield 16, 3) := by decide +kernel
theorem d_Mo_learned_36 : decode b_Mo_learned 36 = .ok (.iload_n 1, 1) := by decide +kernel
theorem d_Mo_learned_37 : decode b_Mo_learned 37 = .ok (.dup2, 1) := by decide +kernel
theorem d_Mo_learned_38 : decode b_Mo_learned 38 = .ok (.iaload, 1) := by decide +kernel
theorem d_Mo_learned_39 : decode b_Mo_learned 39 = .ok (.iconst 1, 1) := by decide +kernel
theorem d_Mo_learned_40 : decode b_Mo_learned 40 = .ok (.iadd, 1) := by decide +kernel
theorem d_Mo_learned_41 : decode b_Mo_learned 41 = .ok (.iastore, 1) := by decide +kernel
theorem d_Mo_learned_42 : decode b_Mo_learned 42 = .ok (.aload_n 0, 1) := by decide +kernel
theorem d_Mo_learned_43 : decode b_Mo_learned 43 = .ok (.getfield 16, 3) := by decide +kernel
theorem d_Mo_learned_46 : decode b_Mo_learned 46 = .ok (.iload_n 1, 1) := by decide +kernel
theorem d_Mo_learned_47 : decode b_Mo_learned 47 = .ok (.iaload, 1) := by decide +kernel
theorem d_Mo_learned_48 : decode b_Mo_learned 48 = .ok (.ireturn, 1) := by decide +kernel
theorem d_Mo_drop_0 : decode b_Mo_drop 0 = .ok (.aload_n 0, 1) := by decide +kernel
theorem d_Mo_drop_1 : decode b_Mo_drop 1 = .ok (.iconst 0, 1) := by decide +kernel
theorem d_Mo_drop_2 : decode b_Mo_drop 2 = .ok (.putfield 51, 3) := by decide +kernel
theorem d_Mo_drop_5 : decode b_Mo_drop 5 = .ok (.aload_n 0, 1) := by decide +kernel
theorem d_Mo_drop_6 : decode b_Mo_drop 6 = .ok (.iload_n 1, 1) := by decide +kernel
theorem d_Mo_drop_7 : decode b_Mo_drop 7 = .ok (.invokevirtual 57, 3) := by decide +kernel
theorem d_Mo_drop_10 : decode b_Mo_drop 10 = .ok (.ifCond .ne 5, 3) := by decide +kernel
theorem d_Mo_drop_13 : decode b_Mo_drop 13 = .ok (.iconst (-1), 1) := by decide +kernel
theorem d_Mo_drop_14 : decode b_Mo_drop 14 = .ok (.ireturn, 1) := by decide +kernel
theorem d_Mo_drop_15 : decode b_Mo_drop 15 = .ok (.aload_n 0, 1) := by decide +kernel
theorem d_Mo_drop_16 : decode b_Mo_drop 16 = .ok (.getfield 19, 3) := by decide +kernel
theorem d_Mo_drop_19 : decode b_Mo_drop 19 = .ok (.iload_n 1, 1) := by decide +kernel
theorem d_Mo_drop_20 : decode b_Mo_drop 20 = .ok (.baload, 1) := by decide +kernel
theorem d_Mo_drop_21 : decode b_Mo_drop 21 = .ok (.ifCond .eq 7, 3) := by decide +kernel
theorem d_Mo_drop_24 : decode b_Mo_drop 24 = .ok (.iconst 1, 1) := by decide +kernel
theorem d_Mo_drop_25 : decode b_Mo_drop 25 = .ok (.goto 4, 3) := by decide +kernel
theorem d_Mo_drop_28 : decode b_Mo_drop 28 = .ok (.iconst 0, 1) := by decide +kernel
theorem d_Mo_drop_29 : decode b_Mo_drop 29 = .ok (.istore_n 3, 1) := by decide +kernel
theorem d_Mo_drop_30 : decode b_Mo_drop 30 = .ok (.aload_n 0, 1) := by decide +kernel
theorem d_Mo_drop_31 : decode b_Mo_drop 31 = .ok (.getfield 19, 3) := by decide +kernel
theorem d_Mo_drop_34 : decode b_Mo_drop 34 = .ok (.iload_n 1, 1) := by decide +kernel
theorem d_Mo_drop_35 : decode b_Mo_drop 35 = .ok (.iload_n 2, 1) := by decide +kernel
theorem d_Mo_drop_36 : decode b_Mo_drop 36 = .ok (.bastore, 1) := by decide +kernel
theorem d_Mo_drop_37 : decode b_Mo_drop 37 = .ok (.iload_n 3, 1) := by decide +kernel
theorem d_Mo_drop_38 : decode b_Mo_drop 38 = .ok (.ireturn, 1) := by decide +kernel
theorem d_Mo_share_0 : decode b_Mo_share 0 = .ok (.aload_n 0, 1) := by decide +kernel
theorem d_Mo_share_1 : decode b_Mo_share 1 = .ok (.iload_n 2, 1) := by decide +kernel
theorem d_Mo_share_2 : decode b_Mo_share 2 = .ok (.ifCond .ne 7, 3) := by decide +kernel
theorem d_Mo_share_5 : decode b_Mo_share 5 = .ok (.iconst 1, 1) := by decide +kernel
theorem d_Mo_share_6 : decode b_Mo_share 6 = .ok (.goto 4, 3) := by decide +kernel
theorem d_Mo_share_9 : decode b_Mo_share 9 = .ok (.iconst 0, 1) := by decide +kernel
theorem d_Mo_share_10 : decode b_Mo_share 10 = .ok (.putfield 51, 3) := by decide +kernel
theorem d_Mo_share_13 : decode b_Mo_share 13 = .ok (.aload_n 0, 1) := by decide +kernel
theorem d_Mo_share_14 : decode b_Mo_share 14 = .ok (.getfield 51, 3) := by decide +kernel
theorem d_Mo_share_17 : decode b_Mo_share 17 = .ok (.iconst 1, 1) := by decide +kernel
theorem d_Mo_share_18 : decode b_Mo_share 18 = .ok (.if_icmp .ne 7, 3) := by decide +kernel
theorem d_Mo_share_21 : decode b_Mo_share 21 = .ok (.lconst 0, 1) := by decide +kernel
theorem d_Mo_share_22 : decode b_Mo_share 22 = .ok (.goto 12, 3) := by decide +kernel
theorem d_Mo_share_25 : decode b_Mo_share 25 = .ok (.ldc2_w 127, 3) := by decide +kernel
theorem d_Mo_share_28 : decode b_Mo_share 28 = .ok (.iload_n 1, 1) := by decide +kernel
theorem d_Mo_share_29 : decode b_Mo_share 29 = .ok (.i2l, 1) := by decide +kernel
theorem d_Mo_share_30 : decode b_Mo_share 30 = .ok (.lmul, 1) := by decide +kernel
theorem d_Mo_share_31 : decode b_Mo_share 31 = .ok (.iload_n 2, 1) := by decide +kernel
theorem d_Mo_share_32 : decode b_Mo_share 32 = .ok (.i2l, 1) := by decide +kernel
theorem d_Mo_share_33 : decode b_Mo_share 33 = .ok (.ldiv, 1) := by decide +kernel
theorem d_Mo_share_34 : decode b_Mo_share 34 = .ok (.lreturn, 1) := by decide +kernel
theorem d_Mo_count_0 : decode b_Mo_count 0 = .ok (.aload_n 0, 1) := by decide +kernel
theorem d_Mo_count_1 : decode b_Mo_count 1 = .ok (.iconst 0, 1) := by decide +kernel
theorem d_Mo_count_2 : decode b_Mo_count 2 = .ok (.putfield 51, 3) := by decide +kernel
theorem d_Mo_count_5 : decode b_Mo_count 5 = .ok (.iconst 0, 1) := by decide +kernel
theorem d_Mo_count_6 : decode b_Mo_count 6 = .ok (.istore_n 2, 1) := by decide +kernel
theorem d_Mo_count_7 : decode b_Mo_count 7 = .ok (.iload_n 1, 1) := by decide +kernel
theorem d_Mo_count_8 : decode b_Mo_count 8 = .ok (.tableswitch 130 0 4 #[36, 41, 66, 90, 95], 36) := by decide +kernel
theorem d_Mo_count_44 : decode b_Mo_count 44 = .ok (.aload_n 0, 1) := by decide +kernel
theorem d_Mo_count_45 : decode b_Mo_count 45 = .ok (.getfield 54, 3) := by decide +kernel
theorem d_Mo_count_48 : decode b_Mo_count 48 = .ok (.ireturn, 1) := by decide +kernel
theorem d_Mo_count_49 : decode b_Mo_count 49 = .ok (.iconst 0, 1) := by decide +kernel
theorem d_Mo_count_50 : decode b_Mo_count 50 = .ok (.istore_n 3, 1) := by decide +kernel
theorem d_Mo_count_51 : decode b_Mo_count 51 = .ok (.iload_n 3, 1) := by decide +kernel
theorem d_Mo_count_52 : decode b_Mo_count 52 = .ok (.bipush 120, 2) := by decide +kernel
theorem d_Mo_count_54 : decode b_Mo_count 54 = .ok (.if_icmp .ge 18, 3) := by decide +kernel
theorem d_Mo_count_57 : decode b_Mo_count 57 = .ok (.iload_n 2, 1) := by decide +kernel
theorem d_Mo_count_58 : decode b_Mo_count 58 = .ok (.aload_n 0, 1) := by decide +kernel
theorem d_Mo_count_59 : decode b_Mo_count 59 = .ok (.getfield 23, 3) := by decide +kernel
theorem d_Mo_count_62 : decode b_Mo_count 62 = .ok (.iload_n 3, 1) := by decide +kernel
theorem d_Mo_count_63 : decode b_Mo_count 63 = .ok (.iaload, 1) := by decide +kernel
theorem d_Mo_count_64 : decode b_Mo_count 64 = .ok (.iadd, 1) := by decide +kernel
theorem d_Mo_count_65 : decode b_Mo_count 65 = .ok (.istore_n 2, 1) := by decide +kernel
theorem d_Mo_count_66 : decode b_Mo_count 66 = .ok (.iinc 3 1, 3) := by decide +kernel
theorem d_Mo_count_69 : decode b_Mo_count 69 = .ok (.goto (-18), 3) := by decide +kernel
theorem d_Mo_count_72 : decode b_Mo_count 72 = .ok (.iload_n 2, 1) := by decide +kernel
theorem d_Mo_count_73 : decode b_Mo_count 73 = .ok (.ireturn, 1) := by decide +kernel
theorem d_Mo_count_74 : decode b_Mo_count 74 = .ok (.aload_n 0, 1) := by decide +kernel
theorem d_Mo_count_75 : decode b_Mo_count 75 = .ok (.getfield 23, 3) := by decide +kernel
theorem d_Mo_count_78 : decode b_Mo_count 78 = .ok (.bipush 120, 2) := by decide +kernel
theorem d_Mo_count_80 : decode b_Mo_count 80 = .ok (.iaload, 1) := by decide +kernel
theorem d_Mo_count_81 : decode b_Mo_count 81 = .ok (.aload_n 0, 1) := by decide +kernel
theorem d_Mo_count_82 : decode b_Mo_count 82 = .ok (.getfield 23, 3) := by decide +kernel
theorem d_Mo_count_85 : decode b_Mo_count 85 = .ok (.bipush 121, 2) := by decide +kernel
theorem d_Mo_count_87 : decode b_Mo_count 87 = .ok (.iaload, 1) := by decide +kernel
theorem d_Mo_count_88 : decode b_Mo_count 88 = .ok (.iadd, 1) := by decide +kernel
theorem d_Mo_count_89 : decode b_Mo_count 89 = .ok (.aload_n 0, 1) := by decide +kernel
theorem d_Mo_count_90 : decode b_Mo_count 90 = .ok (.getfield 23, 3) := by decide +kernel
theorem d_Mo_count_93 : decode b_Mo_count 93 = .ok (.bipush 122, 2) := by decide +kernel
theorem d_Mo_count_95 : decode b_Mo_count 95 = .ok (.iaload, 1) := by decide +kernel
theorem d_Mo_count_96 : decode b_Mo_count 96 = .ok (.iadd, 1) := by decide +kernel
theorem d_Mo_count_97 : decode b_Mo_count 97 = .ok (.ireturn, 1) := by decide +kernel
theorem d_Mo_count_98 : decode b_Mo_count 98 = .ok (.aload_n 0, 1) := by decide +kernel
theorem d_Mo_count_99 : decode b_Mo_count 99 = .ok (.getfield 102, 3) := by decide +kernel
theorem d_Mo_count_102 : decode b_Mo_count 102 = .ok (.ireturn, 1) := by decide +kernel
theorem d_Mo_count_103 : decode b_Mo_count 103 = .ok (.iconst 0, 1) := by decide +kernel
theorem d_Mo_count_104 : decode b_Mo_count 104 = .ok (.istore_n 3, 1) := by decide +kernel
theorem d_Mo_count_105 : decode b_Mo_count 105 = .ok (.iload_n 3, 1) := by decide +kernel
theorem d_Mo_count_106 : decode b_Mo_count 106 = .ok (.aload_n 0, 1) := by decide +kernel
theorem d_Mo_count_107 : decode b_Mo_count 107 = .ok (.getfield 54, 3) := by decide +kernel
theorem d_Mo_count_110 : decode b_Mo_count 110 = .ok (.if_icmp .ge 26, 3) := by decide +kernel
theorem d_Mo_count_113 : decode b_Mo_count 113 = .ok (.aload_n 0, 1) := by decide +kernel
theorem d_Mo_count_114 : decode b_Mo_count 114 = .ok (.getfield 19, 3) := by decide +kernel
theorem d_Mo_count_117 : decode b_Mo_count 117 = .ok (.iload_n 3, 1) := by decide +kernel
theorem d_Mo_count_118 : decode b_Mo_count 118 = .ok (.baload, 1) := by decide +kernel
theorem d_Mo_count_119 : decode b_Mo_count 119 = .ok (.ifCond .eq 9, 3) := by decide +kernel
theorem d_Mo_count_122 : decode b_Mo_count 122 = .ok (.iload_n 2, 1) := by decide +kernel
theorem d_Mo_count_123 : decode b_Mo_count 123 = .ok (.iconst 1, 1) := by decide +kernel
theorem d_Mo_count_124 : decode b_Mo_count 124 = .ok (.iadd, 1) := by decide +kernel
theorem d_Mo_count_125 : decode b_Mo_count 125 = .ok (.goto 4, 3) := by decide +kernel
theorem d_Mo_count_128 : decode b_Mo_count 128 = .ok (.iload_n 2, 1) := by decide +kernel
theorem d_Mo_count_129 : decode b_Mo_count 129 = .ok (.istore_n 2, 1) := by decide +kernel
theorem d_Mo_count_130 : decode b_Mo_count 130 = .ok (.iinc 3 1, 3) := by decide +kernel
theorem d_Mo_count_133 : decode b_Mo_count 133 = .ok (.goto (-28), 3) := by decide +kernel
theorem d_Mo_count_136 : decode b_Mo_count 136 = .ok (.iload_n 2, 1) := by decide +kernel
theorem d_Mo_count_137 : decode b_Mo_count 137 = .ok (.ireturn, 1) := by decide +kernel
theorem d_Mo_count_138 : decode b_Mo_count 138 = .ok (.iconst (-1), 1) := by decide +kernel
theorem d_Mo_count_139 : decode b_Mo_count 139 = .ok (.ireturn, 1) := by decide +kernel
theorem d_Bk_init_0 : decode b_Bk_init 0 = .ok (.aload_n 0, 1) := by decide +kernel
theorem d_Bk_init_1 : decode b_Bk_init 1 = .ok (.invokespecial 3, 3) := by decide +kernel
theorem d_Bk_init_4 : decode b_Bk_init 4 = .ok (.aload_n 0, 1) := by decide +kernel
theorem d_Bk_init_5 : decode b_Bk_init 5 = .ok (.new 9, 3) := by decide +kernel
theorem d_Bk_init_8 : decode b_Bk_init 8 = .ok (.dup, 1) := by decide +kernel
theorem d_Bk_init_9 : decode b_Bk_init 9 = .ok (.bipush 120, 2) := by decide +kernel
theorem d_Bk_init_11 : decode b_Bk_init 11 = .ok (.invokespecial 11, 3) := by decide +kernel
theorem d_Bk_init_14 : decode b_Bk_init 14 = .ok (.putfield 14, 3) := by decide +kernel
theorem d_Bk_init_17 : decode b_Bk_init 17 = .ok (.aload_n 0, 1) := by decide +kernel
theorem d_Bk_init_18 : decode b_Bk_init 18 = .ok (.bipush 40, 2) := by decide +kernel
theorem d_Bk_init_20 : decode b_Bk_init 20 = .ok (.newarray .int, 2) := by decide +kernel
theorem d_Bk_init_22 : decode b_Bk_init 22 = .ok (.putfield 20, 3) := by decide +kernel
theorem d_Bk_init_25 : decode b_Bk_init 25 = .ok (.aload_n 0, 1) := by decide +kernel
theorem d_Bk_init_26 : decode b_Bk_init 26 = .ok (.bipush 40, 2) := by decide +kernel
theorem d_Bk_init_28 : decode b_Bk_init 28 = .ok (.newarray .int, 2) := by decide +kernel
theorem d_Bk_init_30 : decode b_Bk_init 30 = .ok (.putfield 24, 3) := by decide +kernel
theorem d_Bk_init_33 : decode b_Bk_init 33 = .ok (.aload_n 0, 1) := by decide +kernel
theorem d_Bk_init_34 : decode b_Bk_init 34 = .ok (.bipush 40, 2) := by decide +kernel
theorem d_Bk_init_36 : decode b_Bk_init 36 = .ok (.newarray .int, 2) := by decide +kernel
theorem d_Bk_init_38 : decode b_Bk_init 38 = .ok (.putfield 27, 3) := by decide +kernel
theorem d_Bk_init_41 : decode b_Bk_init 41 = .ok (.aload_n 0, 1) := by decide +kernel
theorem d_Bk_init_42 : decode b_Bk_init 42 = .ok (.bipush 40, 2) := by decide +kernel
theorem d_Bk_init_44 : decode b_Bk_init 44 = .ok (.newarray .boolean, 2) := by decide +kernel
theorem d_Bk_init_46 : decode b_Bk_init 46 = .ok (.putfield 30, 3) := by decide +kernel
theorem d_Bk_init_49 : decode b_Bk_init 49 = .ok (.aload_n 0, 1) := by decide +kernel
theorem d_Bk_init_50 : decode b_Bk_init 50 = .ok (.iconst 0, 1) := by decide +kernel
theorem d_Bk_init_51 : decode b_Bk_init 51 = .ok (.putfield 34, 3) := by decide +kernel
theorem d_Bk_init_54 : decode b_Bk_init 54 = .ok (.return_, 1) := by decide +kernel
theorem d_Bk_wordAt_0 : decode b_Bk_wordAt 0 = .ok (.iload_n 0, 1) := by decide +kernel
theorem d_Bk_wordAt_1 : decode b_Bk_wordAt 1 = .ok (.iconst 3, 1) := by decide +kernel
theorem d_Bk_wordAt_2 : decode b_Bk_wordAt 2 = .ok (.imul, 1) := by decide +kernel
theorem d_Bk_wordAt_3 : decode b_Bk_wordAt 3 = .ok (.iload_n 1, 1) := by decide +kernel
theorem d_Bk_wordAt_4 : decode b_Bk_wordAt 4 = .ok (.iadd, 1) := by decide +kernel
theorem d_Bk_wordAt_5 : decode b_Bk_wordAt 5 = .ok (.ireturn, 1) := by decide +kernel
theorem d_Bk_has_0 : decode b_Bk_has 0 = .ok (.iload_n 1, 1) := by decide +kernel
theorem d_Bk_has_1 : decode b_Bk_has 1 = .ok (.ifCond .lt 15, 3) := by decide +kernel
theorem d_Bk_has_4 : decode b_Bk_has 4 = .ok (.iload_n 1, 1) := by decide +kernel
theorem d_Bk_has_5 : decode b_Bk_has 5 = .ok (.aload_n 0, 1) := by decide +kernel
theorem d_Bk_has_6 : decode b_Bk_has 6 = .ok (.getfield 34, 3) := by decide +kernel
theorem d_Bk_has_9 : decode b_Bk_has 9 = .ok (.if_icmp .ge 7, 3) := by decide +kernel
theorem d_Bk_has_12 : decode b_Bk_has 12 = .ok (.iconst 1, 1) := by decide +kernel
theorem d_Bk_has_13 : decode b_Bk_has 13 = .ok (.goto 4, 3) := by decide +kernel
theorem d_Bk_has_16 : decode b_Bk_has 16 = .ok (.iconst 0, 1) := by decide +kernel
theorem d_Bk_has_17 : decode b_Bk_has 17 = .ok (.ireturn, 1) := by decide +kernel
theorem d_Bk_isFull_0 : decode b_Bk_isFull 0 = .ok (.aload_n 0, 1) := by decide +kernel
theorem d_Bk_isFull_1 : decode b_Bk_isFull 1 = .ok (.getfield 34, 3) := by decide +kernel
theorem d_Bk_isFull_4 : decode b_Bk_isFull 4 = .ok (.bipush 40, 2) := by decide +kernel
theorem d_Bk_isFull_6 : decode b_Bk_isFull 6 = .ok (.if_icmp .lt 7, 3) := by decide +kernel
theorem d_Bk_isFull_9 : decode b_Bk_isFull 9 = .ok (.iconst 1, 1) := by decide +kernel
theorem d_Bk_isFull_10 : decode b_Bk_isFull 10 = .ok (.goto 4, 3) := by decide +kernel
theorem d_Bk_isFull_13 : decode b_Bk_isFull 13 = .ok (.iconst 0, 1) := by decide +kernel
theorem d_Bk_isFull_14 : decode b_Bk_isFull 14 = .ok (.ireturn, 1) := by decide +kernel
theorem d_Bk_addEntry_0 : decode b_Bk_addEntry 0 = .ok (.aload_n 0, 1) := by decide +kernel
theorem d_Bk_addEntry_1 : decode b_Bk_addEntry 1 = .ok (.getfield 34, 3) := by decide +kernel
theorem d_Bk_addEntry_4 : decode b_Bk_addEntry 4 = .ok (.istore_n 2, 1) := by decide +kernel
theorem d_Bk_addEntry_5 : decode b_Bk_addEntry 5 = .ok (.aload_n 0, 1) := by decide +kernel
theorem d_Bk_addEntry_6 : decode b_Bk_addEntry 6 = .ok (.getfield 20, 3) := by decide +kernel
theorem d_Bk_addEntry_9 : decode b_Bk_addEntry 9 = .ok (.iload_n 2, 1) := by decide +kernel
theorem d_Bk_addEntry_10 : decode b_Bk_addEntry 10 = .ok (.iload_n 1, 1) := by decide +kernel
theorem d_Bk_addEntry_11 : decode b_Bk_addEntry 11 = .ok (.iastore, 1) := by decide +kernel
theorem d_Bk_addEntry_12 : decode b_Bk_addEntry 12 = .ok (.aload_n 0, 1) := by decide +kernel
theorem d_Bk_addEntry_13 : decode b_Bk_addEntry 13 = .ok (.getfield 24, 3) := by decide +kernel
theorem d_Bk_addEntry_16 : decode b_Bk_addEntry 16 = .ok (.iload_n 2, 1) := by decide +kernel
theorem d_Bk_addEntry_17 : decode b_Bk_addEntry 17 = .ok (.iconst (-1), 1) := by decide +kernel
theorem d_Bk_addEntry_18 : decode b_Bk_addEntry 18 = .ok (.iastore, 1) := by decide +kernel
theorem d_Bk_addEntry_19 : decode b_Bk_addEntry 19 = .ok (.aload_n 0, 1) := by decide +kernel
theorem d_Bk_addEntry_20 : decode b_Bk_addEntry 20 = .ok (.dup, 1) := by decide +kernel
theorem d_Bk_addEntry_21 : decode b_Bk_addEntry 21 = .ok (.getfield 34, 3) := by decide +kernel
theorem d_Bk_addEntry_24 : decode b_Bk_addEntry 24 = .ok (.iconst 1, 1) := by decide +kernel
theorem d_Bk_addEntry_25 : decode b_Bk_addEntry 25 = .ok (.iadd, 1) := by decide +kernel
theorem d_Bk_addEntry_26 : decode b_Bk_addEntry 26 = .ok (.putfield 34, 3) := by decide +kernel
theorem d_Bk_addEntry_29 : decode b_Bk_addEntry 29 = .ok (.iload_n 2, 1) := by decide +kernel
theorem d_Bk_addEntry_30 : decode b_Bk_addEntry 30 = .ok (.ireturn, 1) := by decide +kernel
theorem d_Bk_learn_0 : decode b_Bk_learn 0 = .ok (.aload_n 0, 1) := by decide +kernel
theorem d_Bk_learn_1 : decode b_Bk_learn 1 = .ok (.getfield 24, 3) := by decide +kernel
theorem d_Bk_learn_4 : decode b_Bk_learn 4 = .ok (.iload_n 1, 1) := by decide +kernel
theorem d_Bk_learn_5 : decode b_Bk_learn 5 = .ok (.iload_n 2, 1) := by decide +kernel
theorem d_Bk_learn_6 : decode b_Bk_learn 6 = .ok (.iastore, 1) := by decide +kernel
theorem d_Bk_learn_7 : decode b_Bk_learn 7 = .ok (.aload_n 0, 1) := by decide +kernel
theorem d_Bk_learn_8 : decode b_Bk_learn 8 = .ok (.getfield 27, 3) := by decide +kernel
theorem d_Bk_learn_11 : decode b_Bk_learn 11 = .ok (.iload_n 1, 1) := by decide +kernel
theorem d_Bk_learn_12 : decode b_Bk_learn 12 = .ok (.dup2, 1) := by decide +kernel
theorem d_Bk_learn_13 : decode b_Bk_learn 13 = .ok (.iaload, 1) := by decide +kernel
theorem d_Bk_learn_14 : decode b_Bk_learn 14 = .ok (.iconst 1, 1) := by decide +kernel
theorem d_Bk_learn_15 : decode b_Bk_learn 15 = .ok (.iadd, 1) := by decide +kernel
theorem d_Bk_learn_16 : decode b_Bk_learn 16 = .ok (.iastore, 1) := by decide +kernel
theorem d_Bk_learn_17 : decode b_Bk_learn 17 = .ok (.aload_n 0, 1) := by decide +kernel
theorem d_Bk_learn_18 : decode b_Bk_learn 18 = .ok (.getfield 27, 3) := by decide +kernel
theorem d_Bk_learn_21 : decode b_Bk_learn 21 = .ok (.iload_n 1, 1) := by decide +kernel
theorem d_Bk_learn_22 : decode b_Bk_learn 22 = .ok (.iaload, 1) := by decide +kernel
theorem d_Bk_learn_23 : decode b_Bk_learn 23 = .ok (.ireturn, 1) := by decide +kernel
theorem d_Bk_droppedOnes_0 : decode b_Bk_droppedOnes 0 = .ok (.iconst 0, 1) := by decide +kernel
theorem d_Bk_droppedOnes_1 : decode b_Bk_droppedOnes 1 = .ok (.istore_n 1, 1) := by decide +kernel
theorem d_Bk_droppedOnes_2 : decode b_Bk_droppedOnes 2 = .ok (.iconst 0, 1) := by decide +kernel
theorem d_Bk_droppedOnes_3 : decode b_Bk_droppedOnes 3 = .ok (.istore_n 2, 1) := by decide +kernel
theorem d_Bk_droppedOnes_4 : decode b_Bk_droppedOnes 4 = .ok (.iload_n 2, 1) := by decide +kernel
theorem d_Bk_droppedOnes_5 : decode b_Bk_droppedOnes 5 = .ok (.aload_n 0, 1) := by decide +kernel
theorem d_Bk_droppedOnes_6 : decode b_Bk_droppedOnes 6 = .ok (.getfield 34, 3) := by decide +kernel
theorem d_Bk_droppedOnes_9 : decode b_Bk_droppedOnes 9 = .ok (.if_icmp .ge 21, 3) := by decide +kernel
theorem d_Bk_droppedOnes_12 : decode b_Bk_droppedOnes 12 = .ok (.aload_n 0, 1) := by decide +kernel
theorem d_Bk_droppedOnes_13 : decode b_Bk_droppedOnes 13 = .ok (.getfield 30, 3) := by decide +kernel
theorem d_Bk_droppedOnes_16 : decode b_Bk_droppedOnes 16 = .ok (.iload_n 2, 1) := by decide +kernel
theorem d_Bk_droppedOnes_17 : decode b_Bk_droppedOnes 17 = .ok (.baload, 1) := by decide +kernel
theorem d_Bk_droppedOnes_18 : decode b_Bk_droppedOnes 18 = .ok (.ifCond .eq 6, 3) := by decide +kernel
theorem d_Bk_droppedOnes_21 : decode b_Bk_droppedOnes 21 = .ok (.iinc 1 1, 3) := by decide +kernel
theorem d_Bk_droppedOnes_24 : decode b_Bk_droppedOnes 24 = .ok (.iinc 2 1, 3) := by decide +kernel
theorem d_Bk_droppedOnes_27 : decode b_Bk_droppedOnes 27 = .ok (.goto (-23), 3) := by decide +kernel
theorem d_Bk_droppedOnes_30 : decode b_Bk_droppedOnes 30 = .ok (.iload_n 1, 1) := by decide +kernel
theorem d_Bk_droppedOnes_31 : decode b_Bk_droppedOnes 31 = .ok (.ireturn, 1) := by decide +kernel
theorem d_Bc_init_0 : decode b_Bc_init 0 = .ok (.aload_n 0, 1) := by decide +kernel
theorem d_Bc_init_1 : decode b_Bc_init 1 = .ok (.invokespecial 3, 3) := by decide +kernel
theorem d_Bc_init_4 : decode b_Bc_init 4 = .ok (.aload_n 0, 1) := by decide +kernel
theorem d_Bc_init_5 : decode b_Bc_init 5 = .ok (.aload_n 1, 1) := by decide +kernel
theorem d_Bc_init_6 : decode b_Bc_init 6 = .ok (.putfield 9, 3) := by decide +kernel
theorem d_Bc_init_9 : decode b_Bc_init 9 = .ok (.aload_n 0, 1) := by decide +kernel
theorem d_Bc_init_10 : decode b_Bc_init 10 = .ok (.bipush 11, 2) := by decide +kernel
theorem d_Bc_init_12 : decode b_Bc_init 12 = .ok (.newarray .int, 2) := by decide +kernel
theorem d_Bc_init_14 : decode b_Bc_init 14 = .ok (.putfield 15, 3) := by decide +kernel
theorem d_Bc_init_17 : decode b_Bc_init 17 = .ok (.return_, 1) := by decide +kernel
theorem d_Bc_between_0 : decode b_Bc_between 0 = .ok (.aload_n 3, 1) := by decide +kernel
theorem d_Bc_between_1 : decode b_Bc_between 1 = .ok (.getfield 19, 3) := by decide +kernel
theorem d_Bc_between_4 : decode b_Bc_between 4 = .ok (.iload 4, 2) := by decide +kernel
theorem d_Bc_between_6 : decode b_Bc_between 6 = .ok (.iaload, 1) := by decide +kernel
theorem d_Bc_between_7 : decode b_Bc_between 7 = .ok (.istore 5, 2) := by decide +kernel
theorem d_Bc_between_9 : decode b_Bc_between 9 = .ok (.aload_n 0, 1) := by decide +kernel
theorem d_Bc_between_10 : decode b_Bc_between 10 = .ok (.getfield 9, 3) := by decide +kernel
theorem d_Bc_between_13 : decode b_Bc_between 13 = .ok (.invokevirtual 24, 3) := by decide +kernel
theorem d_Bc_between_16 : decode b_Bc_between 16 = .ok (.istore 6, 2) := by decide +kernel
theorem d_Bc_between_18 : decode b_Bc_between 18 = .ok (.iconst 0, 1) := by decide +kernel
theorem d_Bc_between_19 : decode b_Bc_between 19 = .ok (.istore 7, 2) := by decide +kernel
theorem d_Bc_between_21 : decode b_Bc_between 21 = .ok (.iload 7, 2) := by decide +kernel
theorem d_Bc_between_23 : decode b_Bc_between 23 = .ok (.iload 5, 2) := by decide +kernel
theorem d_Bc_between_25 : decode b_Bc_between 25 = .ok (.if_icmp .gt 21, 3) := by decide +kernel
theorem d_Bc_between_28 : decode b_Bc_between 28 = .ok (.aload_n 0, 1) := by decide +kernel
theorem d_Bc_between_29 : decode b_Bc_between 29 = .ok (.getfield 15, 3) := by decide +kernel
theorem d_Bc_between_32 : decode b_Bc_between 32 = .ok (.iload 7, 2) := by decide +kernel
theorem d_Bc_between_34 : decode b_Bc_between 34 = .ok (.iload 7, 2) := by decide +kernel
theorem d_Bc_between_36 : decode b_Bc_between 36 = .ok (.iload 6, 2) := by decide +kernel
theorem d_Bc_between_38 : decode b_Bc_between 38 = .ok (.imul, 1) := by decide +kernel
theorem d_Bc_between_39 : decode b_Bc_between 39 = .ok (.iastore, 1) := by decide +kernel
theorem d_Bc_between_40 : decode b_Bc_between 40 = .ok (.iinc 7 1, 3) := by decide +kernel
theorem d_Bc_between_43 : decode b_Bc_between 43 = .ok (.goto (-22), 3) := by decide +kernel
theorem d_Bc_between_46 : decode b_Bc_between 46 = .ok (.iload_n 2, 1) := by decide +kernel
theorem d_Bc_between_47 : decode b_Bc_between 47 = .ok (.invokestatic 30, 3) := by decide +kernel
theorem d_Bc_between_50 : decode b_Bc_between 50 = .ok (.istore 7, 2) := by decide +kernel
theorem d_Bc_between_52 : decode b_Bc_between 52 = .ok (.iconst 0, 1) := by decide +kernel
theorem d_Bc_between_53 : decode b_Bc_between 53 = .ok (.istore 8, 2) := by decide +kernel
theorem d_Bc_between_55 : decode b_Bc_between 55 = .ok (.iload 8, 2) := by decide +kernel
theorem d_Bc_between_57 : decode b_Bc_between 57 = .ok (.aload_n 1, 1) := by decide +kernel
theorem d_Bc_between_58 : decode b_Bc_between 58 = .ok (.getfield 19, 3) := by decide +kernel
theorem d_Bc_between_61 : decode b_Bc_between 61 = .ok (.iload_n 2, 1) := by decide +kernel
theorem d_Bc_between_62 : decode b_Bc_between 62 = .ok (.iaload, 1) := by decide +kernel
theorem d_Bc_between_63 : decode b_Bc_between 63 = .ok (.if_icmp .ge 34, 3) := by decide +kernel
theorem d_Bc_between_66 : decode b_Bc_between 66 = .ok (.aload_n 0, 1) := by decide +kernel
theorem d_Bc_between_67 : decode b_Bc_between 67 = .ok (.aload_n 1, 1) := by decide +kernel
theorem d_Bc_between_68 : decode b_Bc_between 68 = .ok (.getfield 34, 3) := by decide +kernel
theorem d_Bc_between_71 : decode b_Bc_between 71 = .ok (.iload 7, 2) := by decide +kernel
theorem d_Bc_between_73 : decode b_Bc_between 73 = .ok (.iload 8, 2) := by decide +kernel
theorem d_Bc_between_75 : decode b_Bc_between 75 = .ok (.iadd, 1) := by decide +kernel
theorem d_Bc_between_76 : decode b_Bc_between 76 = .ok (.iaload, 1) := by decide +kernel
theorem d_Bc_between_77 : decode b_Bc_between 77 = .ok (.aload_n 3, 1) := by decide +kernel
theorem d_Bc_between_78 : decode b_Bc_between 78 = .ok (.getfield 34, 3) := by decide +kernel
theorem d_Bc_between_81 : decode b_Bc_between 81 = .ok (.iload 4, 2) := by decide +kernel
theorem d_Bc_between_83 : decode b_Bc_between 83 = .ok (.invokestatic 30, 3) := by decide +kernel
theorem d_Bc_between_86 : decode b_Bc_between 86 = .ok (.iload 5, 2) := by decide +kernel
theorem d_Bc_between_88 : decode b_Bc_between 88 = .ok (.invokevirtual 37, 3) := by decide +kernel
theorem d_Bc_between_91 : decode b_Bc_between 91 = .ok (.iinc 8 1, 3) := by decide +kernel
theorem d_Bc_between_94 : decode b_Bc_between 94 = .ok (.goto (-39), 3) := by decide +kernel
theorem d_Bc_between_97 : decode b_Bc_between 97 = .ok (.aload_n 0, 1) := by decide +kernel
theorem d_Bc_between_98 : decode b_Bc_between 98 = .ok (.getfield 15, 3) := by decide +kernel
theorem d_Bc_between_101 : decode b_Bc_between 101 = .ok (.iload 5, 2) := by decide +kernel
theorem d_Bc_between_103 : decode b_Bc_between 103 = .ok (.iaload, 1) := by decide +kernel
theorem d_Bc_between_104 : decode b_Bc_between 104 = .ok (.ireturn, 1) := by decide +kernel
theorem d_Bc_nextRow_0 : decode b_Bc_nextRow 0 = .ok (.aload_n 0, 1) := by decide +kernel
theorem d_Bc_nextRow_1 : decode b_Bc_nextRow 1 = .ok (.getfield 9, 3) := by decide +kernel
theorem d_Bc_nextRow_4 : decode b_Bc_nextRow 4 = .ok (.invokevirtual 24, 3) := by decide +kernel
theorem d_Bc_nextRow_7 : decode b_Bc_nextRow 7 = .ok (.istore 5, 2) := by decide +kernel
theorem d_Bc_nextRow_9 : decode b_Bc_nextRow 9 = .ok (.aload_n 0, 1) := by decide +kernel
theorem d_Bc_nextRow_10 : decode b_Bc_nextRow 10 = .ok (.getfield 9, 3) := by decide +kernel
theorem d_Bc_nextRow_13 : decode b_Bc_nextRow 13 = .ok (.invokevirtual 41, 3) := by decide +kernel
theorem d_Bc_nextRow_16 : decode b_Bc_nextRow 16 = .ok (.istore 6, 2) := by decide +kernel
theorem d_Bc_nextRow_18 : decode b_Bc_nextRow 18 = .ok (.aload_n 0, 1) := by decide +kernel
theorem d_Bc_nextRow_19 : decode b_Bc_nextRow 19 = .ok (.getfield 9, 3) := by decide +kernel
theorem d_Bc_nextRow_22 : decode b_Bc_nextRow 22 = .ok (.invokevirtual 44, 3) := by decide +kernel
theorem d_Bc_nextRow_25 : decode b_Bc_nextRow 25 = .ok (.istore 7, 2) := by decide +kernel
theorem d_Bc_nextRow_27 : decode b_Bc_nextRow 27 = .ok (.aload_n 0, 1) := by decide +kernel
theorem d_Bc_nextRow_28 : decode b_Bc_nextRow 28 = .ok (.getfield 9, 3) := by decide +kernel
theorem d_Bc_nextRow_31 : decode b_Bc_nextRow 31 = .ok (.invokevirtual 47, 3) := by decide +kernel
theorem d_Bc_nextRow_34 : decode b_Bc_nextRow 34 = .ok (.istore 8, 2) := by decide +kernel
theorem d_Bc_nextRow_36 : decode b_Bc_nextRow 36 = .ok (.aload_n 0, 1) := by decide +kernel
theorem d_Bc_nextRow_37 : decode b_Bc_nextRow 37 = .ok (.getfield 15, 3) := by decide +kernel
theorem d_Bc_nextRow_40 : decode b_Bc_nextRow 40 = .ok (.iconst 0, 1) := by decide +kernel
theorem d_Bc_nextRow_41 : decode b_Bc_nextRow 41 = .ok (.iaload, 1) := by decide +kernel
theorem d_Bc_nextRow_42 : decode b_Bc_nextRow 42 = .ok (.istore 9, 2) := by decide +kernel
theorem d_Bc_nextRow_44 : decode b_Bc_nextRow 44 = .ok (.iload 9, 2) := by decide +kernel
theorem d_Bc_nextRow_46 : decode b_Bc_nextRow 46 = .ok (.iload 6, 2) := by decide +kernel
theorem d_Bc_nextRow_48 : decode b_Bc_nextRow 48 = .ok (.iadd, 1) := by decide +kernel
theorem d_Bc_nextRow_49 : decode b_Bc_nextRow 49 = .ok (.istore 10, 2) := by decide +kernel
theorem d_Bc_nextRow_51 : decode b_Bc_nextRow 51 = .ok (.aload_n 0, 1) := by decide +kernel
theorem d_Bc_nextRow_52 : decode b_Bc_nextRow 52 = .ok (.getfield 15, 3) := by decide +kernel
theorem d_Bc_nextRow_55 : decode b_Bc_nextRow 55 = .ok (.iconst 0, 1) := by decide +kernel
theorem d_Bc_nextRow_56 : decode b_Bc_nextRow 56 = .ok (.iload 10, 2) := by decide +kernel
theorem d_Bc_nextRow_58 : decode b_Bc_nextRow 58 = .ok (.iastore, 1) := by decide +kernel
theorem d_Bc_nextRow_59 : decode b_Bc_nextRow 59 = .ok (.iconst 1, 1) := by decide +kernel
theorem d_Bc_nextRow_60 : decode b_Bc_nextRow 60 = .ok (.istore 11, 2) := by decide +kernel
theorem d_Bc_nextRow_62 : decode b_Bc_nextRow 62 = .ok (.iload 11, 2) := by decide +kernel
theorem d_Bc_nextRow_64 : decode b_Bc_nextRow 64 = .ok (.iload 4, 2) := by decide +kernel
theorem d_Bc_nextRow_66 : decode b_Bc_nextRow 66 = .ok (.if_icmp .gt 93, 3) := by decide +kernel
theorem d_Bc_nextRow_69 : decode b_Bc_nextRow 69 = .ok (.aload_n 2, 1) := by decide +kernel
theorem d_Bc_nextRow_70 : decode b_Bc_nextRow 70 = .ok (.iload_n 3, 1) := by decide +kernel
theorem d_Bc_nextRow_71 : decode b_Bc_nextRow 71 = .ok (.iload 11, 2) := by decide +kernel
theorem d_Bc_nextRow_73 : decode b_Bc_nextRow 73 = .ok (.iadd, 1) := by decide +kernel
theorem d_Bc_nextRow_74 : decode b_Bc_nextRow 74 = .ok (.iconst 1, 1) := by decide +kernel
theorem d_Bc_nextRow_75 : decode b_Bc_nextRow 75 = .ok (.isub, 1) := by decide +kernel
theorem d_Bc_nextRow_76 : decode b_Bc_nextRow 76 = .ok (.iaload, 1) := by decide +kernel
theorem d_Bc_nextRow_77 : decode b_Bc_nextRow 77 = .ok (.istore 12, 2) := by decide +kernel
theorem d_Bc_nextRow_79 : decode b_Bc_nextRow 79 = .ok (.iload 9, 2) := by decide +kernel
theorem d_Bc_nextRow_81 : decode b_Bc_nextRow 81 = .ok (.istore 13, 2) := by decide +kernel
theorem d_Bc_nextRow_83 : decode b_Bc_nextRow 83 = .ok (.iload 12, 2) := by decide +kernel
theorem d_Bc_nextRow_85 : decode b_Bc_nextRow 85 = .ok (.iload_n 1, 1) := by decide +kernel
theorem d_Bc_nextRow_86 : decode b_Bc_nextRow 86 = .ok (.if_icmp .eq 29, 3) := by decide +kernel
theorem d_Bc_nextRow_89 : decode b_Bc_nextRow 89 = .ok (.iload 13, 2) := by decide +kernel
theorem d_Bc_nextRow_91 : decode b_Bc_nextRow 91 = .ok (.getstatic 50, 3) := by decide +kernel
theorem d_Bc_nextRow_94 : decode b_Bc_nextRow 94 = .ok (.iload 12, 2) := by decide +kernel
theorem d_Bc_nextRow_96 : decode b_Bc_nextRow 96 = .ok (.iaload, 1) := by decide +kernel
theorem d_Bc_nextRow_97 : decode b_Bc_nextRow 97 = .ok (.getstatic 50, 3) := by decide +kernel
theorem d_Bc_nextRow_100 : decode b_Bc_nextRow 100 = .ok (.iload_n 1, 1) := by decide +kernel
theorem d_Bc_nextRow_101 : decode b_Bc_nextRow 101 = .ok (.iaload, 1) := by decide +kernel
theorem d_Bc_nextRow_102 : decode b_Bc_nextRow 102 = .ok (.if_icmp .ne 8, 3) := by decide +kernel
theorem d_Bc_nextRow_105 : decode b_Bc_nextRow 105 = .ok (.iload 8, 2) := by decide +kernel
theorem d_Bc_nextRow_107 : decode b_Bc_nextRow 107 = .ok (.goto 5, 3) := by decide +kernel
theorem d_Bc_nextRow_110 : decode b_Bc_nextRow 110 = .ok (.iload 7, 2) := by decide +kernel
theorem d_Bc_nextRow_112 : decode b_Bc_nextRow 112 = .ok (.iadd, 1) := by decide +kernel
theorem d_Bc_nextRow_113 : decode b_Bc_nextRow 113 = .ok (.istore 13, 2) := by decide +kernel
theorem d_Bc_nextRow_115 : decode b_Bc_nextRow 115 = .ok (.aload_n 0, 1) := by decide +kernel
theorem d_Bc_nextRow_116 : decode b_Bc_nextRow 116 = .ok (.getfield 15, 3) := by decide +kernel
theorem d_Bc_nextRow_119 : decode b_Bc_nextRow 119 = .ok (.iload 11, 2) := by decide +kernel
theorem d_Bc_nextRow_121 : decode b_Bc_nextRow 121 = .ok (.iaload, 1) := by decide +kernel
theorem d_Bc_nextRow_122 : decode b_Bc_nextRow 122 = .ok (.istore 9, 2) := by decide +kernel
theorem d_Bc_nextRow_124 : decode b_Bc_nextRow 124 = .ok (.iload 13, 2) := by decide +kernel
theorem d_Bc_nextRow_126 : decode b_Bc_nextRow 126 = .ok (.iload 10, 2) := by decide +kernel
theorem d_Bc_nextRow_128 : decode b_Bc_nextRow 128 = .ok (.iload 5, 2) := by decide +kernel
theorem d_Bc_nextRow_130 : decode b_Bc_nextRow 130 = .ok (.iadd, 1) := by decide +kernel
theorem d_Bc_nextRow_131 : decode b_Bc_nextRow 131 = .ok (.iload 9, 2) := by decide +kernel
theorem d_Bc_nextRow_133 : decode b_Bc_nextRow 133 = .ok (.iload 6, 2) := by decide +kernel
theorem d_Bc_nextRow_135 : decode b_Bc_nextRow 135 = .ok (.iadd, 1) := by decide +kernel
theorem d_Bc_nextRow_136 : decode b_Bc_nextRow 136 = .ok (.invokestatic 53, 3) := by decide +kernel
theorem d_Bc_nextRow_139 : decode b_Bc_nextRow 139 = .ok (.invokestatic 53, 3) := by decide +kernel
theorem d_Bc_nextRow_142 : decode b_Bc_nextRow 142 = .ok (.istore 10, 2) := by decide +kernel
theorem d_Bc_nextRow_144 : decode b_Bc_nextRow 144 = .ok (.aload_n 0, 1) := by decide +kernel
theorem d_Bc_nextRow_145 : decode b_Bc_nextRow 145 = .ok (.getfield 15, 3) := by decide +kernel
theorem d_Bc_nextRow_148 : decode b_Bc_nextRow 148 = .ok (.iload 11, 2) := by decide +kernel
theorem d_Bc_nextRow_150 : decode b_Bc_nextRow 150 = .ok (.iload 10, 2) := by decide +kernel
theorem d_Bc_nextRow_152 : decode b_Bc_nextRow 152 = .ok (.iastore, 1) := by decide +kernel
theorem d_Bc_nextRow_153 : decode b_Bc_nextRow 153 = .ok (.iinc 11 1, 3) := by decide +kernel
theorem d_Bc_nextRow_156 : decode b_Bc_nextRow 156 = .ok (.goto (-94), 3) := by decide +kernel
theorem d_Bc_nextRow_159 : decode b_Bc_nextRow 159 = .ok (.return_, 1) := by decide +kernel
theorem d_Bn_init_0 : decode b_Bn_init 0 = .ok (.aload_n 0, 1) := by decide +kernel
theorem d_Bn_init_1 : decode b_Bn_init 1 = .ok (.invokespecial 3, 3) := by decide +kernel
theorem d_Bn_init_4 : decode b_Bn_init 4 = .ok (.aload_n 0, 1) := by decide +kernel
theorem d_Bn_init_5 : decode b_Bn_init 5 = .ok (.aload_n 1, 1) := by decide +kernel
theorem d_Bn_init_6 : decode b_Bn_init 6 = .ok (.putfield 9, 3) := by decide +kernel
theorem d_Bn_init_9 : decode b_Bn_init 9 = .ok (.aload_n 0, 1) := by decide +kernel
theorem d_Bn_init_10 : decode b_Bn_init 10 = .ok (.bipush 26, 2) := by decide +kernel
theorem d_Bn_init_12 : decode b_Bn_init 12 = .ok (.newarray .int, 2) := by decide +kernel
theorem d_Bn_init_14 : decode b_Bn_init 14 = .ok (.putfield 15, 3) := by decide +kernel
theorem d_Bn_init_17 : decode b_Bn_init 17 = .ok (.return_, 1) := by decide +kernel
theorem d_Bn_between_0 : decode b_Bn_between 0 = .ok (.aload_n 0, 1) := by decide +kernel
theorem d_Bn_between_1 : decode b_Bn_between 1 = .ok (.aload_n 1, 1) := by decide +kernel
theorem d_Bn_between_2 : decode b_Bn_between 2 = .ok (.iload_n 2, 1) := by decide +kernel
theorem d_Bn_between_3 : decode b_Bn_between 3 = .ok (.aload_n 3, 1) := by decide +kernel
theorem d_Bn_between_4 : decode b_Bn_between 4 = .ok (.iload 4, 2) := by decide +kernel
theorem d_Bn_between_6 : decode b_Bn_between 6 = .ok (.invokevirtual 19, 3) := by decide +kernel
theorem d_Bn_between_9 : decode b_Bn_between 9 = .ok (.istore 5, 2) := by decide +kernel
theorem d_Bn_between_11 : decode b_Bn_between 11 = .ok (.aload_n 0, 1) := by decide +kernel
theorem d_Bn_between_12 : decode b_Bn_between 12 = .ok (.getfield 9, 3) := by decide +kernel
theorem d_Bn_between_15 : decode b_Bn_between 15 = .ok (.invokevirtual 23, 3) := by decide +kernel
end
section
theorem d_Bn_between_18 : decode b_Bn_between 18 = .ok (.istore 6, 2) := by decide +kernel
theorem d_Bn_between_20 : decode b_Bn_between 20 = .ok (.aload_n 1, 1) := by decide +kernel
theorem d_Bn_between_21 : decode b_Bn_between 21 = .ok (.getfield 29, 3) := by decide +kernel
theorem d_Bn_between_24 : decode b_Bn_between 24 = .ok (.iload_n 2, 1) := by decide +kernel
theorem d_Bn_between_25 : decode b_Bn_between 25 = .ok (.iaload, 1) := by decide +kernel
theorem d_Bn_between_26 : decode b_Bn_between 26 = .ok (.iload 5, 2) := by decide +kernel
theorem d_Bn_between_28 : decode b_Bn_between 28 = .ok (.isub, 1) := by decide +kernel
theorem d_Bn_between_29 : decode b_Bn_between 29 = .ok (.istore 7, 2) := by decide +kernel
theorem d_Bn_between_31 : decode b_Bn_between 31 = .ok (.aload_n 3, 1) := by decide +kernel
theorem d_Bn_between_32 : decode b_Bn_between 32 = .ok (.getfield 29, 3) := by decide +kernel
theorem d_Bn_between_35 : decode b_Bn_between 35 = .ok (.iload 4, 2) := by decide +kernel
theorem d_Bn_between_37 : decode b_Bn_between 37 = .ok (.iaload, 1) := by decide +kernel
theorem d_Bn_between_38 : decode b_Bn_between 38 = .ok (.iload 5, 2) := by decide +kernel
theorem d_Bn_between_40 : decode b_Bn_between 40 = .ok (.isub, 1) := by decide +kernel
theorem d_Bn_between_41 : decode b_Bn_between 41 = .ok (.istore 8, 2) := by decide +kernel
theorem d_Bn_between_43 : decode b_Bn_between 43 = .ok (.iload 7, 2) := by decide +kernel
theorem d_Bn_between_45 : decode b_Bn_between 45 = .ok (.aload_n 0, 1) := by decide +kernel
theorem d_Bn_between_46 : decode b_Bn_between 46 = .ok (.getfield 9, 3) := by decide +kernel
theorem d_Bn_between_49 : decode b_Bn_between 49 = .ok (.invokevirtual 34, 3) := by decide +kernel
theorem d_Bn_between_52 : decode b_Bn_between 52 = .ok (.iload 6, 2) := by decide +kernel
theorem d_Bn_between_54 : decode b_Bn_between 54 = .ok (.invokestatic 37, 3) := by decide +kernel
theorem d_Bn_between_57 : decode b_Bn_between 57 = .ok (.imul, 1) := by decide +kernel
theorem d_Bn_between_58 : decode b_Bn_between 58 = .ok (.iload 8, 2) := by decide +kernel
theorem d_Bn_between_60 : decode b_Bn_between 60 = .ok (.aload_n 0, 1) := by decide +kernel
theorem d_Bn_between_61 : decode b_Bn_between 61 = .ok (.getfield 9, 3) := by decide +kernel
theorem d_Bn_between_64 : decode b_Bn_between 64 = .ok (.invokevirtual 43, 3) := by decide +kernel
theorem d_Bn_between_67 : decode b_Bn_between 67 = .ok (.iload 6, 2) := by decide +kernel
theorem d_Bn_between_69 : decode b_Bn_between 69 = .ok (.invokestatic 37, 3) := by decide +kernel
theorem d_Bn_between_72 : decode b_Bn_between 72 = .ok (.imul, 1) := by decide +kernel
theorem d_Bn_between_73 : decode b_Bn_between 73 = .ok (.invokestatic 46, 3) := by decide +kernel
theorem d_Bn_between_76 : decode b_Bn_between 76 = .ok (.ireturn, 1) := by decide +kernel
theorem d_Bn_sharedLetters_0 : decode b_Bn_sharedLetters 0 = .ok (.iload_n 2, 1) := by decide +kernel
theorem d_Bn_sharedLetters_1 : decode b_Bn_sharedLetters 1 = .ok (.invokestatic 49, 3) := by decide +kernel
theorem d_Bn_sharedLetters_4 : decode b_Bn_sharedLetters 4 = .ok (.istore 5, 2) := by decide +kernel
theorem d_Bn_sharedLetters_6 : decode b_Bn_sharedLetters 6 = .ok (.iload 4, 2) := by decide +kernel
theorem d_Bn_sharedLetters_8 : decode b_Bn_sharedLetters 8 = .ok (.invokestatic 49, 3) := by decide +kernel
theorem d_Bn_sharedLetters_11 : decode b_Bn_sharedLetters 11 = .ok (.istore 6, 2) := by decide +kernel
theorem d_Bn_sharedLetters_13 : decode b_Bn_sharedLetters 13 = .ok (.iconst 0, 1) := by decide +kernel
theorem d_Bn_sharedLetters_14 : decode b_Bn_sharedLetters 14 = .ok (.istore 7, 2) := by decide +kernel
theorem d_Bn_sharedLetters_16 : decode b_Bn_sharedLetters 16 = .ok (.iload 7, 2) := by decide +kernel
theorem d_Bn_sharedLetters_18 : decode b_Bn_sharedLetters 18 = .ok (.aload_n 1, 1) := by decide +kernel
theorem d_Bn_sharedLetters_19 : decode b_Bn_sharedLetters 19 = .ok (.getfield 29, 3) := by decide +kernel
theorem d_Bn_sharedLetters_22 : decode b_Bn_sharedLetters 22 = .ok (.iload_n 2, 1) := by decide +kernel
theorem d_Bn_sharedLetters_23 : decode b_Bn_sharedLetters 23 = .ok (.iaload, 1) := by decide +kernel
theorem d_Bn_sharedLetters_24 : decode b_Bn_sharedLetters 24 = .ok (.if_icmp .ge 28, 3) := by decide +kernel
theorem d_Bn_sharedLetters_27 : decode b_Bn_sharedLetters 27 = .ok (.aload_n 0, 1) := by decide +kernel
theorem d_Bn_sharedLetters_28 : decode b_Bn_sharedLetters 28 = .ok (.getfield 15, 3) := by decide +kernel
theorem d_Bn_sharedLetters_31 : decode b_Bn_sharedLetters 31 = .ok (.aload_n 1, 1) := by decide +kernel
theorem d_Bn_sharedLetters_32 : decode b_Bn_sharedLetters 32 = .ok (.getfield 53, 3) := by decide +kernel
theorem d_Bn_sharedLetters_35 : decode b_Bn_sharedLetters 35 = .ok (.iload 5, 2) := by decide +kernel
theorem d_Bn_sharedLetters_37 : decode b_Bn_sharedLetters 37 = .ok (.iload 7, 2) := by decide +kernel
theorem d_Bn_sharedLetters_39 : decode b_Bn_sharedLetters 39 = .ok (.iadd, 1) := by decide +kernel
theorem d_Bn_sharedLetters_40 : decode b_Bn_sharedLetters 40 = .ok (.iaload, 1) := by decide +kernel
theorem d_Bn_sharedLetters_41 : decode b_Bn_sharedLetters 41 = .ok (.dup2, 1) := by decide +kernel
theorem d_Bn_sharedLetters_42 : decode b_Bn_sharedLetters 42 = .ok (.iaload, 1) := by decide +kernel
theorem d_Bn_sharedLetters_43 : decode b_Bn_sharedLetters 43 = .ok (.iconst 1, 1) := by decide +kernel
theorem d_Bn_sharedLetters_44 : decode b_Bn_sharedLetters 44 = .ok (.iadd, 1) := by decide +kernel
theorem d_Bn_sharedLetters_45 : decode b_Bn_sharedLetters 45 = .ok (.iastore, 1) := by decide +kernel
theorem d_Bn_sharedLetters_46 : decode b_Bn_sharedLetters 46 = .ok (.iinc 7 1, 3) := by decide +kernel
theorem d_Bn_sharedLetters_49 : decode b_Bn_sharedLetters 49 = .ok (.goto (-33), 3) := by decide +kernel
theorem d_Bn_sharedLetters_52 : decode b_Bn_sharedLetters 52 = .ok (.iconst 0, 1) := by decide +kernel
theorem d_Bn_sharedLetters_53 : decode b_Bn_sharedLetters 53 = .ok (.istore 7, 2) := by decide +kernel
theorem d_Bn_sharedLetters_55 : decode b_Bn_sharedLetters 55 = .ok (.iconst 0, 1) := by decide +kernel
theorem d_Bn_sharedLetters_56 : decode b_Bn_sharedLetters 56 = .ok (.istore 8, 2) := by decide +kernel
theorem d_Bn_sharedLetters_58 : decode b_Bn_sharedLetters 58 = .ok (.iload 8, 2) := by decide +kernel
theorem d_Bn_sharedLetters_60 : decode b_Bn_sharedLetters 60 = .ok (.aload_n 3, 1) := by decide +kernel
theorem d_Bn_sharedLetters_61 : decode b_Bn_sharedLetters 61 = .ok (.getfield 29, 3) := by decide +kernel
theorem d_Bn_sharedLetters_64 : decode b_Bn_sharedLetters 64 = .ok (.iload 4, 2) := by decide +kernel
theorem d_Bn_sharedLetters_66 : decode b_Bn_sharedLetters 66 = .ok (.iaload, 1) := by decide +kernel
theorem d_Bn_sharedLetters_67 : decode b_Bn_sharedLetters 67 = .ok (.if_icmp .ge 45, 3) := by decide +kernel
theorem d_Bn_sharedLetters_70 : decode b_Bn_sharedLetters 70 = .ok (.aload_n 3, 1) := by decide +kernel
theorem d_Bn_sharedLetters_71 : decode b_Bn_sharedLetters 71 = .ok (.getfield 53, 3) := by decide +kernel
theorem d_Bn_sharedLetters_74 : decode b_Bn_sharedLetters 74 = .ok (.iload 6, 2) := by decide +kernel
theorem d_Bn_sharedLetters_76 : decode b_Bn_sharedLetters 76 = .ok (.iload 8, 2) := by decide +kernel
theorem d_Bn_sharedLetters_78 : decode b_Bn_sharedLetters 78 = .ok (.iadd, 1) := by decide +kernel
theorem d_Bn_sharedLetters_79 : decode b_Bn_sharedLetters 79 = .ok (.iaload, 1) := by decide +kernel
theorem d_Bn_sharedLetters_80 : decode b_Bn_sharedLetters 80 = .ok (.istore 9, 2) := by decide +kernel
theorem d_Bn_sharedLetters_82 : decode b_Bn_sharedLetters 82 = .ok (.aload_n 0, 1) := by decide +kernel
theorem d_Bn_sharedLetters_83 : decode b_Bn_sharedLetters 83 = .ok (.getfield 15, 3) := by decide +kernel
theorem d_Bn_sharedLetters_86 : decode b_Bn_sharedLetters 86 = .ok (.iload 9, 2) := by decide +kernel
theorem d_Bn_sharedLetters_88 : decode b_Bn_sharedLetters 88 = .ok (.iaload, 1) := by decide +kernel
theorem d_Bn_sharedLetters_89 : decode b_Bn_sharedLetters 89 = .ok (.ifCond .le 17, 3) := by decide +kernel
theorem d_Bn_sharedLetters_92 : decode b_Bn_sharedLetters 92 = .ok (.aload_n 0, 1) := by decide +kernel
theorem d_Bn_sharedLetters_93 : decode b_Bn_sharedLetters 93 = .ok (.getfield 15, 3) := by decide +kernel
theorem d_Bn_sharedLetters_96 : decode b_Bn_sharedLetters 96 = .ok (.iload 9, 2) := by decide +kernel
theorem d_Bn_sharedLetters_98 : decode b_Bn_sharedLetters 98 = .ok (.dup2, 1) := by decide +kernel
theorem d_Bn_sharedLetters_99 : decode b_Bn_sharedLetters 99 = .ok (.iaload, 1) := by decide +kernel
theorem d_Bn_sharedLetters_100 : decode b_Bn_sharedLetters 100 = .ok (.iconst 1, 1) := by decide +kernel
theorem d_Bn_sharedLetters_101 : decode b_Bn_sharedLetters 101 = .ok (.isub, 1) := by decide +kernel
theorem d_Bn_sharedLetters_102 : decode b_Bn_sharedLetters 102 = .ok (.iastore, 1) := by decide +kernel
theorem d_Bn_sharedLetters_103 : decode b_Bn_sharedLetters 103 = .ok (.iinc 7 1, 3) := by decide +kernel
theorem d_Bn_sharedLetters_106 : decode b_Bn_sharedLetters 106 = .ok (.iinc 8 1, 3) := by decide +kernel
theorem d_Bn_sharedLetters_109 : decode b_Bn_sharedLetters 109 = .ok (.goto (-51), 3) := by decide +kernel
theorem d_Bn_sharedLetters_112 : decode b_Bn_sharedLetters 112 = .ok (.iconst 0, 1) := by decide +kernel
theorem d_Bn_sharedLetters_113 : decode b_Bn_sharedLetters 113 = .ok (.istore 8, 2) := by decide +kernel
theorem d_Bn_sharedLetters_115 : decode b_Bn_sharedLetters 115 = .ok (.iload 8, 2) := by decide +kernel
theorem d_Bn_sharedLetters_117 : decode b_Bn_sharedLetters 117 = .ok (.aload_n 1, 1) := by decide +kernel
theorem d_Bn_sharedLetters_118 : decode b_Bn_sharedLetters 118 = .ok (.getfield 29, 3) := by decide +kernel
theorem d_Bn_sharedLetters_121 : decode b_Bn_sharedLetters 121 = .ok (.iload_n 2, 1) := by decide +kernel
theorem d_Bn_sharedLetters_122 : decode b_Bn_sharedLetters 122 = .ok (.iaload, 1) := by decide +kernel
theorem d_Bn_sharedLetters_123 : decode b_Bn_sharedLetters 123 = .ok (.if_icmp .ge 25, 3) := by decide +kernel
theorem d_Bn_sharedLetters_126 : decode b_Bn_sharedLetters 126 = .ok (.aload_n 0, 1) := by decide +kernel
theorem d_Bn_sharedLetters_127 : decode b_Bn_sharedLetters 127 = .ok (.getfield 15, 3) := by decide +kernel
theorem d_Bn_sharedLetters_130 : decode b_Bn_sharedLetters 130 = .ok (.aload_n 1, 1) := by decide +kernel
theorem d_Bn_sharedLetters_131 : decode b_Bn_sharedLetters 131 = .ok (.getfield 53, 3) := by decide +kernel
theorem d_Bn_sharedLetters_134 : decode b_Bn_sharedLetters 134 = .ok (.iload 5, 2) := by decide +kernel
theorem d_Bn_sharedLetters_136 : decode b_Bn_sharedLetters 136 = .ok (.iload 8, 2) := by decide +kernel
theorem d_Bn_sharedLetters_138 : decode b_Bn_sharedLetters 138 = .ok (.iadd, 1) := by decide +kernel
theorem d_Bn_sharedLetters_139 : decode b_Bn_sharedLetters 139 = .ok (.iaload, 1) := by decide +kernel
theorem d_Bn_sharedLetters_140 : decode b_Bn_sharedLetters 140 = .ok (.iconst 0, 1) := by decide +kernel
theorem d_Bn_sharedLetters_141 : decode b_Bn_sharedLetters 141 = .ok (.iastore, 1) := by decide +kernel
theorem d_Bn_sharedLetters_142 : decode b_Bn_sharedLetters 142 = .ok (.iinc 8 1, 3) := by decide +kernel
theorem d_Bn_sharedLetters_145 : decode b_Bn_sharedLetters 145 = .ok (.goto (-30), 3) := by decide +kernel
theorem d_Bn_sharedLetters_148 : decode b_Bn_sharedLetters 148 = .ok (.iload 7, 2) := by decide +kernel
theorem d_Bn_sharedLetters_150 : decode b_Bn_sharedLetters 150 = .ok (.ireturn, 1) := by decide +kernel
theorem d_Hi_init_0 : decode b_Hi_init 0 = .ok (.aload_n 0, 1) := by decide +kernel
theorem d_Hi_init_1 : decode b_Hi_init 1 = .ok (.invokespecial 3, 3) := by decide +kernel
theorem d_Hi_init_4 : decode b_Hi_init 4 = .ok (.aload_n 0, 1) := by decide +kernel
theorem d_Hi_init_5 : decode b_Hi_init 5 = .ok (.bipush 40, 2) := by decide +kernel
theorem d_Hi_init_7 : decode b_Hi_init 7 = .ok (.newarray .int, 2) := by decide +kernel
theorem d_Hi_init_9 : decode b_Hi_init 9 = .ok (.putfield 9, 3) := by decide +kernel
theorem d_Hi_init_12 : decode b_Hi_init 12 = .ok (.aload_n 0, 1) := by decide +kernel
theorem d_Hi_init_13 : decode b_Hi_init 13 = .ok (.bipush 40, 2) := by decide +kernel
theorem d_Hi_init_15 : decode b_Hi_init 15 = .ok (.newarray .int, 2) := by decide +kernel
theorem d_Hi_init_17 : decode b_Hi_init 17 = .ok (.putfield 15, 3) := by decide +kernel
theorem d_Hi_init_20 : decode b_Hi_init 20 = .ok (.aload_n 0, 1) := by decide +kernel
theorem d_Hi_init_21 : decode b_Hi_init 21 = .ok (.bipush 40, 2) := by decide +kernel
theorem d_Hi_init_23 : decode b_Hi_init 23 = .ok (.newarray .int, 2) := by decide +kernel
theorem d_Hi_init_25 : decode b_Hi_init 25 = .ok (.putfield 18, 3) := by decide +kernel
theorem d_Hi_init_28 : decode b_Hi_init 28 = .ok (.aload_n 0, 1) := by decide +kernel
theorem d_Hi_init_29 : decode b_Hi_init 29 = .ok (.iconst 0, 1) := by decide +kernel
theorem d_Hi_init_30 : decode b_Hi_init 30 = .ok (.putfield 21, 3) := by decide +kernel
theorem d_Hi_init_33 : decode b_Hi_init 33 = .ok (.aload_n 0, 1) := by decide +kernel
theorem d_Hi_init_34 : decode b_Hi_init 34 = .ok (.iconst 0, 1) := by decide +kernel
theorem d_Hi_init_35 : decode b_Hi_init 35 = .ok (.putfield 25, 3) := by decide +kernel
theorem d_Hi_init_38 : decode b_Hi_init 38 = .ok (.aload_n 0, 1) := by decide +kernel
theorem d_Hi_init_39 : decode b_Hi_init 39 = .ok (.iconst 0, 1) := by decide +kernel
theorem d_Hi_init_40 : decode b_Hi_init 40 = .ok (.putfield 28, 3) := by decide +kernel
theorem d_Hi_init_43 : decode b_Hi_init 43 = .ok (.return_, 1) := by decide +kernel
theorem d_Hi_start_0 : decode b_Hi_start 0 = .ok (.aload_n 0, 1) := by decide +kernel
theorem d_Hi_start_1 : decode b_Hi_start 1 = .ok (.iload_n 1, 1) := by decide +kernel
theorem d_Hi_start_2 : decode b_Hi_start 2 = .ok (.putfield 21, 3) := by decide +kernel
theorem d_Hi_start_5 : decode b_Hi_start 5 = .ok (.aload_n 0, 1) := by decide +kernel
theorem d_Hi_start_6 : decode b_Hi_start 6 = .ok (.iload_n 2, 1) := by decide +kernel
theorem d_Hi_start_7 : decode b_Hi_start 7 = .ok (.putfield 25, 3) := by decide +kernel
theorem d_Hi_start_10 : decode b_Hi_start 10 = .ok (.aload_n 0, 1) := by decide +kernel
theorem d_Hi_start_11 : decode b_Hi_start 11 = .ok (.iconst 0, 1) := by decide +kernel
theorem d_Hi_start_12 : decode b_Hi_start 12 = .ok (.putfield 28, 3) := by decide +kernel
theorem d_Hi_start_15 : decode b_Hi_start 15 = .ok (.return_, 1) := by decide +kernel
theorem d_Hi_has_0 : decode b_Hi_has 0 = .ok (.iload_n 1, 1) := by decide +kernel
theorem d_Hi_has_1 : decode b_Hi_has 1 = .ok (.ifCond .lt 15, 3) := by decide +kernel
theorem d_Hi_has_4 : decode b_Hi_has 4 = .ok (.iload_n 1, 1) := by decide +kernel
theorem d_Hi_has_5 : decode b_Hi_has 5 = .ok (.aload_n 0, 1) := by decide +kernel
theorem d_Hi_has_6 : decode b_Hi_has 6 = .ok (.getfield 28, 3) := by decide +kernel
theorem d_Hi_has_9 : decode b_Hi_has 9 = .ok (.if_icmp .ge 7, 3) := by decide +kernel
theorem d_Hi_has_12 : decode b_Hi_has 12 = .ok (.iconst 1, 1) := by decide +kernel
theorem d_Hi_has_13 : decode b_Hi_has 13 = .ok (.goto 4, 3) := by decide +kernel
theorem d_Hi_has_16 : decode b_Hi_has 16 = .ok (.iconst 0, 1) := by decide +kernel
theorem d_Hi_has_17 : decode b_Hi_has 17 = .ok (.ireturn, 1) := by decide +kernel
theorem d_Hi_limit_0 : decode b_Hi_limit 0 = .ok (.aload_n 0, 1) := by decide +kernel
theorem d_Hi_limit_1 : decode b_Hi_limit 1 = .ok (.getfield 28, 3) := by decide +kernel
theorem d_Hi_limit_4 : decode b_Hi_limit 4 = .ok (.ifCond .le 28, 3) := by decide +kernel
theorem d_Hi_limit_7 : decode b_Hi_limit 7 = .ok (.aload_n 0, 1) := by decide +kernel
theorem d_Hi_limit_8 : decode b_Hi_limit 8 = .ok (.getfield 28, 3) := by decide +kernel
theorem d_Hi_limit_11 : decode b_Hi_limit 11 = .ok (.aload_n 0, 1) := by decide +kernel
theorem d_Hi_limit_12 : decode b_Hi_limit 12 = .ok (.getfield 21, 3) := by decide +kernel
theorem d_Hi_limit_15 : decode b_Hi_limit 15 = .ok (.if_icmp .lt 17, 3) := by decide +kernel
theorem d_Hi_limit_18 : decode b_Hi_limit 18 = .ok (.aload_n 0, 1) := by decide +kernel
theorem d_Hi_limit_19 : decode b_Hi_limit 19 = .ok (.getfield 15, 3) := by decide +kernel
theorem d_Hi_limit_22 : decode b_Hi_limit 22 = .ok (.aload_n 0, 1) := by decide +kernel
theorem d_Hi_limit_23 : decode b_Hi_limit 23 = .ok (.getfield 28, 3) := by decide +kernel
theorem d_Hi_limit_26 : decode b_Hi_limit 26 = .ok (.iconst 1, 1) := by decide +kernel
theorem d_Hi_limit_27 : decode b_Hi_limit 27 = .ok (.isub, 1) := by decide +kernel
theorem d_Hi_limit_28 : decode b_Hi_limit 28 = .ok (.iaload, 1) := by decide +kernel
theorem d_Hi_limit_29 : decode b_Hi_limit 29 = .ok (.goto 7, 3) := by decide +kernel
theorem d_Hi_limit_32 : decode b_Hi_limit 32 = .ok (.aload_n 0, 1) := by decide +kernel
theorem d_Hi_limit_33 : decode b_Hi_limit 33 = .ok (.getfield 25, 3) := by decide +kernel
theorem d_Hi_limit_36 : decode b_Hi_limit 36 = .ok (.ireturn, 1) := by decide +kernel
theorem d_Hi_offer_0 : decode b_Hi_offer 0 = .ok (.iload_n 2, 1) := by decide +kernel
theorem d_Hi_offer_1 : decode b_Hi_offer 1 = .ok (.aload_n 0, 1) := by decide +kernel
theorem d_Hi_offer_2 : decode b_Hi_offer 2 = .ok (.getfield 25, 3) := by decide +kernel
theorem d_Hi_offer_5 : decode b_Hi_offer 5 = .ok (.if_icmp .le 4, 3) := by decide +kernel
theorem d_Hi_offer_8 : decode b_Hi_offer 8 = .ok (.return_, 1) := by decide +kernel
theorem d_Hi_offer_9 : decode b_Hi_offer 9 = .ok (.aload_n 0, 1) := by decide +kernel
theorem d_Hi_offer_10 : decode b_Hi_offer 10 = .ok (.getfield 28, 3) := by decide +kernel
theorem d_Hi_offer_13 : decode b_Hi_offer 13 = .ok (.istore 4, 2) := by decide +kernel
theorem d_Hi_offer_15 : decode b_Hi_offer 15 = .ok (.iload 4, 2) := by decide +kernel
theorem d_Hi_offer_17 : decode b_Hi_offer 17 = .ok (.ifCond .le 22, 3) := by decide +kernel
theorem d_Hi_offer_20 : decode b_Hi_offer 20 = .ok (.aload_n 0, 1) := by decide +kernel
theorem d_Hi_offer_21 : decode b_Hi_offer 21 = .ok (.iload_n 2, 1) := by decide +kernel
theorem d_Hi_offer_22 : decode b_Hi_offer 22 = .ok (.iload_n 3, 1) := by decide +kernel
theorem d_Hi_offer_23 : decode b_Hi_offer 23 = .ok (.iload 4, 2) := by decide +kernel
theorem d_Hi_offer_25 : decode b_Hi_offer 25 = .ok (.iconst 1, 1) := by decide +kernel
theorem d_Hi_offer_26 : decode b_Hi_offer 26 = .ok (.isub, 1) := by decide +kernel
theorem d_Hi_offer_27 : decode b_Hi_offer 27 = .ok (.invokevirtual 31, 3) := by decide +kernel
theorem d_Hi_offer_30 : decode b_Hi_offer 30 = .ok (.ifCond .eq 9, 3) := by decide +kernel
theorem d_Hi_offer_33 : decode b_Hi_offer 33 = .ok (.iinc 4 (-1), 3) := by decide +kernel
theorem d_Hi_offer_36 : decode b_Hi_offer 36 = .ok (.goto (-21), 3) := by decide +kernel
theorem d_Hi_offer_39 : decode b_Hi_offer 39 = .ok (.iload 4, 2) := by decide +kernel
theorem d_Hi_offer_41 : decode b_Hi_offer 41 = .ok (.aload_n 0, 1) := by decide +kernel
theorem d_Hi_offer_42 : decode b_Hi_offer 42 = .ok (.getfield 21, 3) := by decide +kernel
theorem d_Hi_offer_45 : decode b_Hi_offer 45 = .ok (.if_icmp .lt 4, 3) := by decide +kernel
theorem d_Hi_offer_48 : decode b_Hi_offer 48 = .ok (.return_, 1) := by decide +kernel
theorem d_Hi_offer_49 : decode b_Hi_offer 49 = .ok (.aload_n 0, 1) := by decide +kernel
theorem d_Hi_offer_50 : decode b_Hi_offer 50 = .ok (.getfield 28, 3) := by decide +kernel
theorem d_Hi_offer_53 : decode b_Hi_offer 53 = .ok (.aload_n 0, 1) := by decide +kernel
theorem d_Hi_offer_54 : decode b_Hi_offer 54 = .ok (.getfield 21, 3) := by decide +kernel
theorem d_Hi_offer_57 : decode b_Hi_offer 57 = .ok (.if_icmp .ge 13, 3) := by decide +kernel
theorem d_Hi_offer_60 : decode b_Hi_offer 60 = .ok (.aload_n 0, 1) := by decide +kernel
theorem d_Hi_offer_61 : decode b_Hi_offer 61 = .ok (.dup, 1) := by decide +kernel
theorem d_Hi_offer_62 : decode b_Hi_offer 62 = .ok (.getfield 28, 3) := by decide +kernel
theorem d_Hi_offer_65 : decode b_Hi_offer 65 = .ok (.iconst 1, 1) := by decide +kernel
theorem d_Hi_offer_66 : decode b_Hi_offer 66 = .ok (.iadd, 1) := by decide +kernel
theorem d_Hi_offer_67 : decode b_Hi_offer 67 = .ok (.putfield 28, 3) := by decide +kernel
theorem d_Hi_offer_70 : decode b_Hi_offer 70 = .ok (.aload_n 0, 1) := by decide +kernel
theorem d_Hi_offer_71 : decode b_Hi_offer 71 = .ok (.getfield 28, 3) := by decide +kernel
theorem d_Hi_offer_74 : decode b_Hi_offer 74 = .ok (.iconst 1, 1) := by decide +kernel
theorem d_Hi_offer_75 : decode b_Hi_offer 75 = .ok (.isub, 1) := by decide +kernel
theorem d_Hi_offer_76 : decode b_Hi_offer 76 = .ok (.istore 5, 2) := by decide +kernel
theorem d_Hi_offer_78 : decode b_Hi_offer 78 = .ok (.iload 5, 2) := by decide +kernel
theorem d_Hi_offer_80 : decode b_Hi_offer 80 = .ok (.iload 4, 2) := by decide +kernel
theorem d_Hi_offer_82 : decode b_Hi_offer 82 = .ok (.if_icmp .le 19, 3) := by decide +kernel
theorem d_Hi_offer_85 : decode b_Hi_offer 85 = .ok (.aload_n 0, 1) := by decide +kernel
theorem d_Hi_offer_86 : decode b_Hi_offer 86 = .ok (.iload 5, 2) := by decide +kernel
theorem d_Hi_offer_88 : decode b_Hi_offer 88 = .ok (.iconst 1, 1) := by decide +kernel
theorem d_Hi_offer_89 : decode b_Hi_offer 89 = .ok (.isub, 1) := by decide +kernel
theorem d_Hi_offer_90 : decode b_Hi_offer 90 = .ok (.iload 5, 2) := by decide +kernel
theorem d_Hi_offer_92 : decode b_Hi_offer 92 = .ok (.invokevirtual 35, 3) := by decide +kernel
theorem d_Hi_offer_95 : decode b_Hi_offer 95 = .ok (.iinc 5 (-1), 3) := by decide +kernel
theorem d_Hi_offer_98 : decode b_Hi_offer 98 = .ok (.goto (-20), 3) := by decide +kernel
theorem d_Hi_offer_101 : decode b_Hi_offer 101 = .ok (.aload_n 0, 1) := by decide +kernel
theorem d_Hi_offer_102 : decode b_Hi_offer 102 = .ok (.getfield 9, 3) := by decide +kernel
theorem d_Hi_offer_105 : decode b_Hi_offer 105 = .ok (.iload 4, 2) := by decide +kernel
theorem d_Hi_offer_107 : decode b_Hi_offer 107 = .ok (.iload_n 1, 1) := by decide +kernel
theorem d_Hi_offer_108 : decode b_Hi_offer 108 = .ok (.iastore, 1) := by decide +kernel
theorem d_Hi_offer_109 : decode b_Hi_offer 109 = .ok (.aload_n 0, 1) := by decide +kernel
theorem d_Hi_offer_110 : decode b_Hi_offer 110 = .ok (.getfield 15, 3) := by decide +kernel
theorem d_Hi_offer_113 : decode b_Hi_offer 113 = .ok (.iload 4, 2) := by decide +kernel
theorem d_Hi_offer_115 : decode b_Hi_offer 115 = .ok (.iload_n 2, 1) := by decide +kernel
theorem d_Hi_offer_116 : decode b_Hi_offer 116 = .ok (.iastore, 1) := by decide +kernel
theorem d_Hi_offer_117 : decode b_Hi_offer 117 = .ok (.aload_n 0, 1) := by decide +kernel
theorem d_Hi_offer_118 : decode b_Hi_offer 118 = .ok (.getfield 18, 3) := by decide +kernel
theorem d_Hi_offer_121 : decode b_Hi_offer 121 = .ok (.iload 4, 2) := by decide +kernel
theorem d_Hi_offer_123 : decode b_Hi_offer 123 = .ok (.iload_n 3, 1) := by decide +kernel
theorem d_Hi_offer_124 : decode b_Hi_offer 124 = .ok (.iastore, 1) := by decide +kernel
theorem d_Hi_offer_125 : decode b_Hi_offer 125 = .ok (.return_, 1) := by decide +kernel
theorem d_Hi_isNearer_0 : decode b_Hi_isNearer 0 = .ok (.iload_n 1, 1) := by decide +kernel
theorem d_Hi_isNearer_1 : decode b_Hi_isNearer 1 = .ok (.aload_n 0, 1) := by decide +kernel
theorem d_Hi_isNearer_2 : decode b_Hi_isNearer 2 = .ok (.getfield 15, 3) := by decide +kernel
theorem d_Hi_isNearer_5 : decode b_Hi_isNearer 5 = .ok (.iload_n 3, 1) := by decide +kernel
theorem d_Hi_isNearer_6 : decode b_Hi_isNearer 6 = .ok (.iaload, 1) := by decide +kernel
theorem d_Hi_isNearer_7 : decode b_Hi_isNearer 7 = .ok (.if_icmp .lt 23, 3) := by decide +kernel
theorem d_Hi_isNearer_10 : decode b_Hi_isNearer 10 = .ok (.iload_n 1, 1) := by decide +kernel
theorem d_Hi_isNearer_11 : decode b_Hi_isNearer 11 = .ok (.aload_n 0, 1) := by decide +kernel
theorem d_Hi_isNearer_12 : decode b_Hi_isNearer 12 = .ok (.getfield 15, 3) := by decide +kernel
theorem d_Hi_isNearer_15 : decode b_Hi_isNearer 15 = .ok (.iload_n 3, 1) := by decide +kernel
theorem d_Hi_isNearer_16 : decode b_Hi_isNearer 16 = .ok (.iaload, 1) := by decide +kernel
theorem d_Hi_isNearer_17 : decode b_Hi_isNearer 17 = .ok (.if_icmp .ne 17, 3) := by decide +kernel
theorem d_Hi_isNearer_20 : decode b_Hi_isNearer 20 = .ok (.iload_n 2, 1) := by decide +kernel
theorem d_Hi_isNearer_21 : decode b_Hi_isNearer 21 = .ok (.aload_n 0, 1) := by decide +kernel
theorem d_Hi_isNearer_22 : decode b_Hi_isNearer 22 = .ok (.getfield 18, 3) := by decide +kernel
theorem d_Hi_isNearer_25 : decode b_Hi_isNearer 25 = .ok (.iload_n 3, 1) := by decide +kernel
theorem d_Hi_isNearer_26 : decode b_Hi_isNearer 26 = .ok (.iaload, 1) := by decide +kernel
theorem d_Hi_isNearer_27 : decode b_Hi_isNearer 27 = .ok (.if_icmp .le 7, 3) := by decide +kernel
theorem d_Hi_isNearer_30 : decode b_Hi_isNearer 30 = .ok (.iconst 1, 1) := by decide +kernel
theorem d_Hi_isNearer_31 : decode b_Hi_isNearer 31 = .ok (.goto 4, 3) := by decide +kernel
theorem d_Hi_isNearer_34 : decode b_Hi_isNearer 34 = .ok (.iconst 0, 1) := by decide +kernel
theorem d_Hi_isNearer_35 : decode b_Hi_isNearer 35 = .ok (.ireturn, 1) := by decide +kernel
theorem d_Hi_copy_0 : decode b_Hi_copy 0 = .ok (.aload_n 0, 1) := by decide +kernel
theorem d_Hi_copy_1 : decode b_Hi_copy 1 = .ok (.getfield 9, 3) := by decide +kernel
theorem d_Hi_copy_4 : decode b_Hi_copy 4 = .ok (.iload_n 2, 1) := by decide +kernel
theorem d_Hi_copy_5 : decode b_Hi_copy 5 = .ok (.aload_n 0, 1) := by decide +kernel
theorem d_Hi_copy_6 : decode b_Hi_copy 6 = .ok (.getfield 9, 3) := by decide +kernel
theorem d_Hi_copy_9 : decode b_Hi_copy 9 = .ok (.iload_n 1, 1) := by decide +kernel
theorem d_Hi_copy_10 : decode b_Hi_copy 10 = .ok (.iaload, 1) := by decide +kernel
theorem d_Hi_copy_11 : decode b_Hi_copy 11 = .ok (.iastore, 1) := by decide +kernel
theorem d_Hi_copy_12 : decode b_Hi_copy 12 = .ok (.aload_n 0, 1) := by decide +kernel
theorem d_Hi_copy_13 : decode b_Hi_copy 13 = .ok (.getfield 15, 3) := by decide +kernel
theorem d_Hi_copy_16 : decode b_Hi_copy 16 = .ok (.iload_n 2, 1) := by decide +kernel
theorem d_Hi_copy_17 : decode b_Hi_copy 17 = .ok (.aload_n 0, 1) := by decide +kernel
theorem d_Hi_copy_18 : decode b_Hi_copy 18 = .ok (.getfield 15, 3) := by decide +kernel
theorem d_Hi_copy_21 : decode b_Hi_copy 21 = .ok (.iload_n 1, 1) := by decide +kernel
theorem d_Hi_copy_22 : decode b_Hi_copy 22 = .ok (.iaload, 1) := by decide +kernel
theorem d_Hi_copy_23 : decode b_Hi_copy 23 = .ok (.iastore, 1) := by decide +kernel
theorem d_Hi_copy_24 : decode b_Hi_copy 24 = .ok (.aload_n 0, 1) := by decide +kernel
theorem d_Hi_copy_25 : decode b_Hi_copy 25 = .ok (.getfield 18, 3) := by decide +kernel
theorem d_Hi_copy_28 : decode b_Hi_copy 28 = .ok (.iload_n 2, 1) := by decide +kernel
theorem d_Hi_copy_29 : decode b_Hi_copy 29 = .ok (.aload_n 0, 1) := by decide +kernel
theorem d_Hi_copy_30 : decode b_Hi_copy 30 = .ok (.getfield 18, 3) := by decide +kernel
theorem d_Hi_copy_33 : decode b_Hi_copy 33 = .ok (.iload_n 1, 1) := by decide +kernel
theorem d_Hi_copy_34 : decode b_Hi_copy 34 = .ok (.iaload, 1) := by decide +kernel
theorem d_Hi_copy_35 : decode b_Hi_copy 35 = .ok (.iastore, 1) := by decide +kernel
theorem d_Hi_copy_36 : decode b_Hi_copy 36 = .ok (.return_, 1) := by decide +kernel
theorem d_Pa_init_0 : decode b_Pa_init 0 = .ok (.aload_n 0, 1) := by decide +kernel
theorem d_Pa_init_1 : decode b_Pa_init 1 = .ok (.invokespecial 3, 3) := by decide +kernel
theorem d_Pa_init_4 : decode b_Pa_init 4 = .ok (.aload_n 0, 1) := by decide +kernel
theorem d_Pa_init_5 : decode b_Pa_init 5 = .ok (.aload_n 1, 1) := by decide +kernel
theorem d_Pa_init_6 : decode b_Pa_init 6 = .ok (.putfield 9, 3) := by decide +kernel
theorem d_Pa_init_9 : decode b_Pa_init 9 = .ok (.aload_n 0, 1) := by decide +kernel
theorem d_Pa_init_10 : decode b_Pa_init 10 = .ok (.bipush 9, 2) := by decide +kernel
theorem d_Pa_init_12 : decode b_Pa_init 12 = .ok (.newarray .int, 2) := by decide +kernel
theorem d_Pa_init_14 : decode b_Pa_init 14 = .ok (.putfield 15, 3) := by decide +kernel
theorem d_Pa_init_17 : decode b_Pa_init 17 = .ok (.aload_n 0, 1) := by decide +kernel
theorem d_Pa_init_18 : decode b_Pa_init 18 = .ok (.iconst 0, 1) := by decide +kernel
theorem d_Pa_init_19 : decode b_Pa_init 19 = .ok (.putfield 19, 3) := by decide +kernel
theorem d_Pa_init_22 : decode b_Pa_init 22 = .ok (.aload_n 0, 1) := by decide +kernel
theorem d_Pa_init_23 : decode b_Pa_init 23 = .ok (.iconst 0, 1) := by decide +kernel
theorem d_Pa_init_24 : decode b_Pa_init 24 = .ok (.putfield 23, 3) := by decide +kernel
theorem d_Pa_init_27 : decode b_Pa_init 27 = .ok (.return_, 1) := by decide +kernel
theorem d_Pa_partner_0 : decode b_Pa_partner 0 = .ok (.iload_n 0, 1) := by decide +kernel
theorem d_Pa_partner_1 : decode b_Pa_partner 1 = .ok (.iconst 2, 1) := by decide +kernel
theorem d_Pa_partner_2 : decode b_Pa_partner 2 = .ok (.iconst 2, 1) := by decide +kernel
theorem d_Pa_partner_3 : decode b_Pa_partner 3 = .ok (.iload_n 1, 1) := by decide +kernel
theorem d_Pa_partner_4 : decode b_Pa_partner 4 = .ok (.isub, 1) := by decide +kernel
theorem d_Pa_partner_5 : decode b_Pa_partner 5 = .ok (.imul, 1) := by decide +kernel
theorem d_Pa_partner_6 : decode b_Pa_partner 6 = .ok (.ishr, 1) := by decide +kernel
theorem d_Pa_partner_7 : decode b_Pa_partner 7 = .ok (.iconst 3, 1) := by decide +kernel
theorem d_Pa_partner_8 : decode b_Pa_partner 8 = .ok (.iand, 1) := by decide +kernel
theorem d_Pa_partner_9 : decode b_Pa_partner 9 = .ok (.iconst 1, 1) := by decide +kernel
theorem d_Pa_partner_10 : decode b_Pa_partner 10 = .ok (.isub, 1) := by decide +kernel
theorem d_Pa_partner_11 : decode b_Pa_partner 11 = .ok (.ireturn, 1) := by decide +kernel
theorem d_Pa_start_0 : decode b_Pa_start 0 = .ok (.aload_n 0, 1) := by decide +kernel
theorem d_Pa_start_1 : decode b_Pa_start 1 = .ok (.iconst 0, 1) := by decide +kernel
theorem d_Pa_start_2 : decode b_Pa_start 2 = .ok (.putfield 19, 3) := by decide +kernel
theorem d_Pa_start_5 : decode b_Pa_start 5 = .ok (.return_, 1) := by decide +kernel
theorem d_Pa_countWord_0 : decode b_Pa_countWord 0 = .ok (.iload_n 1, 1) := by decide +kernel
theorem d_Pa_countWord_1 : decode b_Pa_countWord 1 = .ok (.ifCond .eq 13, 3) := by decide +kernel
theorem d_Pa_countWord_4 : decode b_Pa_countWord 4 = .ok (.aload_n 0, 1) := by decide +kernel
theorem d_Pa_countWord_5 : decode b_Pa_countWord 5 = .ok (.dup, 1) := by decide +kernel
theorem d_Pa_countWord_6 : decode b_Pa_countWord 6 = .ok (.getfield 19, 3) := by decide +kernel
theorem d_Pa_countWord_9 : decode b_Pa_countWord 9 = .ok (.iconst 1, 1) := by decide +kernel
theorem d_Pa_countWord_10 : decode b_Pa_countWord 10 = .ok (.iadd, 1) := by decide +kernel
theorem d_Pa_countWord_11 : decode b_Pa_countWord 11 = .ok (.putfield 19, 3) := by decide +kernel
theorem d_Pa_countWord_14 : decode b_Pa_countWord 14 = .ok (.return_, 1) := by decide +kernel
theorem d_Pa_setCost_0 : decode b_Pa_setCost 0 = .ok (.aload_n 0, 1) := by decide +kernel
theorem d_Pa_setCost_1 : decode b_Pa_setCost 1 = .ok (.getfield 15, 3) := by decide +kernel
theorem d_Pa_setCost_4 : decode b_Pa_setCost 4 = .ok (.iload_n 1, 1) := by decide +kernel
theorem d_Pa_setCost_5 : decode b_Pa_setCost 5 = .ok (.iconst 3, 1) := by decide +kernel
theorem d_Pa_setCost_6 : decode b_Pa_setCost 6 = .ok (.imul, 1) := by decide +kernel
theorem d_Pa_setCost_7 : decode b_Pa_setCost 7 = .ok (.iload_n 2, 1) := by decide +kernel
theorem d_Pa_setCost_8 : decode b_Pa_setCost 8 = .ok (.iadd, 1) := by decide +kernel
theorem d_Pa_setCost_9 : decode b_Pa_setCost 9 = .ok (.iload_n 3, 1) := by decide +kernel
theorem d_Pa_setCost_10 : decode b_Pa_setCost 10 = .ok (.iastore, 1) := by decide +kernel
theorem d_Pa_setCost_11 : decode b_Pa_setCost 11 = .ok (.return_, 1) := by decide +kernel
theorem d_Pa_choose_0 : decode b_Pa_choose 0 = .ok (.ldc 26, 2) := by decide +kernel
theorem d_Pa_choose_2 : decode b_Pa_choose 2 = .ok (.istore_n 1, 1) := by decide +kernel
theorem d_Pa_choose_3 : decode b_Pa_choose 3 = .ok (.iconst 0, 1) := by decide +kernel
theorem d_Pa_choose_4 : decode b_Pa_choose 4 = .ok (.istore_n 2, 1) := by decide +kernel
theorem d_Pa_choose_5 : decode b_Pa_choose 5 = .ok (.iload_n 2, 1) := by decide +kernel
theorem d_Pa_choose_6 : decode b_Pa_choose 6 = .ok (.bipush 64, 2) := by decide +kernel
theorem d_Pa_choose_8 : decode b_Pa_choose 8 = .ok (.if_icmp .ge 27, 3) := by decide +kernel
theorem d_Pa_choose_11 : decode b_Pa_choose 11 = .ok (.aload_n 0, 1) := by decide +kernel
theorem d_Pa_choose_12 : decode b_Pa_choose 12 = .ok (.iload_n 2, 1) := by decide +kernel
theorem d_Pa_choose_13 : decode b_Pa_choose 13 = .ok (.invokevirtual 27, 3) := by decide +kernel
theorem d_Pa_choose_16 : decode b_Pa_choose 16 = .ok (.istore_n 3, 1) := by decide +kernel
theorem d_Pa_choose_17 : decode b_Pa_choose 17 = .ok (.iload_n 3, 1) := by decide +kernel
theorem d_Pa_choose_18 : decode b_Pa_choose 18 = .ok (.iload_n 1, 1) := by decide +kernel
theorem d_Pa_choose_19 : decode b_Pa_choose 19 = .ok (.if_icmp .ge 10, 3) := by decide +kernel
theorem d_Pa_choose_22 : decode b_Pa_choose 22 = .ok (.iload_n 3, 1) := by decide +kernel
theorem d_Pa_choose_23 : decode b_Pa_choose 23 = .ok (.istore_n 1, 1) := by decide +kernel
theorem d_Pa_choose_24 : decode b_Pa_choose 24 = .ok (.aload_n 0, 1) := by decide +kernel
theorem d_Pa_choose_25 : decode b_Pa_choose 25 = .ok (.iload_n 2, 1) := by decide +kernel
theorem d_Pa_choose_26 : decode b_Pa_choose 26 = .ok (.putfield 23, 3) := by decide +kernel
theorem d_Pa_choose_29 : decode b_Pa_choose 29 = .ok (.iinc 2 1, 3) := by decide +kernel
theorem d_Pa_choose_32 : decode b_Pa_choose 32 = .ok (.goto (-27), 3) := by decide +kernel
theorem d_Pa_choose_35 : decode b_Pa_choose 35 = .ok (.iload_n 1, 1) := by decide +kernel
theorem d_Pa_choose_36 : decode b_Pa_choose 36 = .ok (.ireturn, 1) := by decide +kernel
theorem d_Pa_totalOf_0 : decode b_Pa_totalOf 0 = .ok (.iconst 0, 1) := by decide +kernel
theorem d_Pa_totalOf_1 : decode b_Pa_totalOf 1 = .ok (.istore_n 2, 1) := by decide +kernel
theorem d_Pa_totalOf_2 : decode b_Pa_totalOf 2 = .ok (.aload_n 0, 1) := by decide +kernel
theorem d_Pa_totalOf_3 : decode b_Pa_totalOf 3 = .ok (.getfield 19, 3) := by decide +kernel
theorem d_Pa_totalOf_6 : decode b_Pa_totalOf 6 = .ok (.istore_n 3, 1) := by decide +kernel
theorem d_Pa_totalOf_7 : decode b_Pa_totalOf 7 = .ok (.iconst 0, 1) := by decide +kernel
theorem d_Pa_totalOf_8 : decode b_Pa_totalOf 8 = .ok (.istore 4, 2) := by decide +kernel
theorem d_Pa_totalOf_10 : decode b_Pa_totalOf 10 = .ok (.iload 4, 2) := by decide +kernel
theorem d_Pa_totalOf_12 : decode b_Pa_totalOf 12 = .ok (.iconst 3, 1) := by decide +kernel
theorem d_Pa_totalOf_13 : decode b_Pa_totalOf 13 = .ok (.if_icmp .ge 81, 3) := by decide +kernel
theorem d_Pa_totalOf_16 : decode b_Pa_totalOf 16 = .ok (.iload_n 1, 1) := by decide +kernel
theorem d_Pa_totalOf_17 : decode b_Pa_totalOf 17 = .ok (.iload 4, 2) := by decide +kernel
theorem d_Pa_totalOf_19 : decode b_Pa_totalOf 19 = .ok (.invokestatic 31, 3) := by decide +kernel
theorem d_Pa_totalOf_22 : decode b_Pa_totalOf 22 = .ok (.istore 5, 2) := by decide +kernel
theorem d_Pa_totalOf_24 : decode b_Pa_totalOf 24 = .ok (.iload 5, 2) := by decide +kernel
theorem d_Pa_totalOf_26 : decode b_Pa_totalOf 26 = .ok (.ifCond .lt 62, 3) := by decide +kernel
theorem d_Pa_totalOf_29 : decode b_Pa_totalOf 29 = .ok (.aload_n 0, 1) := by decide +kernel
theorem d_Pa_totalOf_30 : decode b_Pa_totalOf 30 = .ok (.getfield 15, 3) := by decide +kernel
theorem d_Pa_totalOf_33 : decode b_Pa_totalOf 33 = .ok (.iload 4, 2) := by decide +kernel
theorem d_Pa_totalOf_35 : decode b_Pa_totalOf 35 = .ok (.iconst 3, 1) := by decide +kernel
theorem d_Pa_totalOf_36 : decode b_Pa_totalOf 36 = .ok (.imul, 1) := by decide +kernel
theorem d_Pa_totalOf_37 : decode b_Pa_totalOf 37 = .ok (.iload 5, 2) := by decide +kernel
theorem d_Pa_totalOf_39 : decode b_Pa_totalOf 39 = .ok (.iadd, 1) := by decide +kernel
theorem d_Pa_totalOf_40 : decode b_Pa_totalOf 40 = .ok (.iaload, 1) := by decide +kernel
theorem d_Pa_totalOf_41 : decode b_Pa_totalOf 41 = .ok (.istore 6, 2) := by decide +kernel
theorem d_Pa_totalOf_43 : decode b_Pa_totalOf 43 = .ok (.iload 6, 2) := by decide +kernel
theorem d_Pa_totalOf_45 : decode b_Pa_totalOf 45 = .ok (.iconst (-1), 1) := by decide +kernel
theorem d_Pa_totalOf_46 : decode b_Pa_totalOf 46 = .ok (.if_icmp .eq 14, 3) := by decide +kernel
theorem d_Pa_totalOf_49 : decode b_Pa_totalOf 49 = .ok (.iload_n 1, 1) := by decide +kernel
theorem d_Pa_totalOf_50 : decode b_Pa_totalOf 50 = .ok (.iload 4, 2) := by decide +kernel
theorem d_Pa_totalOf_52 : decode b_Pa_totalOf 52 = .ok (.iload 5, 2) := by decide +kernel
theorem d_Pa_totalOf_54 : decode b_Pa_totalOf 54 = .ok (.invokestatic 35, 3) := by decide +kernel
theorem d_Pa_totalOf_57 : decode b_Pa_totalOf 57 = .ok (.ifCond .eq 6, 3) := by decide +kernel
theorem d_Pa_totalOf_60 : decode b_Pa_totalOf 60 = .ok (.ldc 26, 2) := by decide +kernel
theorem d_Pa_totalOf_62 : decode b_Pa_totalOf 62 = .ok (.ireturn, 1) := by decide +kernel
theorem d_Pa_totalOf_63 : decode b_Pa_totalOf 63 = .ok (.iload_n 2, 1) := by decide +kernel
theorem d_Pa_totalOf_64 : decode b_Pa_totalOf 64 = .ok (.iload 6, 2) := by decide +kernel
theorem d_Pa_totalOf_66 : decode b_Pa_totalOf 66 = .ok (.iload_n 1, 1) := by decide +kernel
theorem d_Pa_totalOf_67 : decode b_Pa_totalOf 67 = .ok (.iload 4, 2) := by decide +kernel
theorem d_Pa_totalOf_69 : decode b_Pa_totalOf 69 = .ok (.iload 5, 2) := by decide +kernel
theorem d_Pa_totalOf_71 : decode b_Pa_totalOf 71 = .ok (.invokestatic 39, 3) := by decide +kernel
theorem d_Pa_totalOf_74 : decode b_Pa_totalOf 74 = .ok (.aload_n 0, 1) := by decide +kernel
theorem d_Pa_totalOf_75 : decode b_Pa_totalOf 75 = .ok (.getfield 9, 3) := by decide +kernel
theorem d_Pa_totalOf_78 : decode b_Pa_totalOf 78 = .ok (.invokevirtual 43, 3) := by decide +kernel
theorem d_Pa_totalOf_81 : decode b_Pa_totalOf 81 = .ok (.imul, 1) := by decide +kernel
theorem d_Pa_totalOf_82 : decode b_Pa_totalOf 82 = .ok (.iadd, 1) := by decide +kernel
theorem d_Pa_totalOf_83 : decode b_Pa_totalOf 83 = .ok (.iadd, 1) := by decide +kernel
theorem d_Pa_totalOf_84 : decode b_Pa_totalOf 84 = .ok (.istore_n 2, 1) := by decide +kernel
theorem d_Pa_totalOf_85 : decode b_Pa_totalOf 85 = .ok (.iinc 3 (-2), 3) := by decide +kernel
theorem d_Pa_totalOf_88 : decode b_Pa_totalOf 88 = .ok (.iinc 4 1, 3) := by decide +kernel
theorem d_Pa_totalOf_91 : decode b_Pa_totalOf 91 = .ok (.goto (-81), 3) := by decide +kernel
theorem d_Pa_totalOf_94 : decode b_Pa_totalOf 94 = .ok (.iload_n 2, 1) := by decide +kernel
theorem d_Pa_totalOf_95 : decode b_Pa_totalOf 95 = .ok (.iload_n 3, 1) := by decide +kernel
theorem d_Pa_totalOf_96 : decode b_Pa_totalOf 96 = .ok (.aload_n 0, 1) := by decide +kernel
theorem d_Pa_totalOf_97 : decode b_Pa_totalOf 97 = .ok (.getfield 9, 3) := by decide +kernel
theorem d_Pa_totalOf_100 : decode b_Pa_totalOf 100 = .ok (.invokevirtual 49, 3) := by decide +kernel
theorem d_Pa_totalOf_103 : decode b_Pa_totalOf 103 = .ok (.imul, 1) := by decide +kernel
theorem d_Pa_totalOf_104 : decode b_Pa_totalOf 104 = .ok (.iadd, 1) := by decide +kernel
theorem d_Pa_totalOf_105 : decode b_Pa_totalOf 105 = .ok (.ireturn, 1) := by decide +kernel
theorem d_Pa_isTaken_0 : decode b_Pa_isTaken 0 = .ok (.iconst 0, 1) := by decide +kernel
theorem d_Pa_isTaken_1 : decode b_Pa_isTaken 1 = .ok (.istore_n 3, 1) := by decide +kernel
theorem d_Pa_isTaken_2 : decode b_Pa_isTaken 2 = .ok (.iload_n 3, 1) := by decide +kernel
theorem d_Pa_isTaken_3 : decode b_Pa_isTaken 3 = .ok (.iload_n 1, 1) := by decide +kernel
theorem d_Pa_isTaken_4 : decode b_Pa_isTaken 4 = .ok (.if_icmp .ge 20, 3) := by decide +kernel
theorem d_Pa_isTaken_7 : decode b_Pa_isTaken 7 = .ok (.iload_n 0, 1) := by decide +kernel
theorem d_Pa_isTaken_8 : decode b_Pa_isTaken 8 = .ok (.iload_n 3, 1) := by decide +kernel
theorem d_Pa_isTaken_9 : decode b_Pa_isTaken 9 = .ok (.invokestatic 31, 3) := by decide +kernel
theorem d_Pa_isTaken_12 : decode b_Pa_isTaken 12 = .ok (.iload_n 2, 1) := by decide +kernel
theorem d_Pa_isTaken_13 : decode b_Pa_isTaken 13 = .ok (.if_icmp .ne 5, 3) := by decide +kernel
theorem d_Pa_isTaken_16 : decode b_Pa_isTaken 16 = .ok (.iconst 1, 1) := by decide +kernel
theorem d_Pa_isTaken_17 : decode b_Pa_isTaken 17 = .ok (.ireturn, 1) := by decide +kernel
theorem d_Pa_isTaken_18 : decode b_Pa_isTaken 18 = .ok (.iinc 3 1, 3) := by decide +kernel
theorem d_Pa_isTaken_21 : decode b_Pa_isTaken 21 = .ok (.goto (-19), 3) := by decide +kernel
theorem d_Pa_isTaken_24 : decode b_Pa_isTaken 24 = .ok (.iconst 0, 1) := by decide +kernel
theorem d_Pa_isTaken_25 : decode b_Pa_isTaken 25 = .ok (.ireturn, 1) := by decide +kernel
theorem d_Pa_turnedBefore_0 : decode b_Pa_turnedBefore 0 = .ok (.iconst 0, 1) := by decide +kernel
theorem d_Pa_turnedBefore_1 : decode b_Pa_turnedBefore 1 = .ok (.istore_n 3, 1) := by decide +kernel
theorem d_Pa_turnedBefore_2 : decode b_Pa_turnedBefore 2 = .ok (.iconst 0, 1) := by decide +kernel
theorem d_Pa_turnedBefore_3 : decode b_Pa_turnedBefore 3 = .ok (.istore 4, 2) := by decide +kernel
theorem d_Pa_turnedBefore_5 : decode b_Pa_turnedBefore 5 = .ok (.iload 4, 2) := by decide +kernel
theorem d_Pa_turnedBefore_7 : decode b_Pa_turnedBefore 7 = .ok (.iload_n 1, 1) := by decide +kernel
theorem d_Pa_turnedBefore_8 : decode b_Pa_turnedBefore 8 = .ok (.if_icmp .ge 22, 3) := by decide +kernel
theorem d_Pa_turnedBefore_11 : decode b_Pa_turnedBefore 11 = .ok (.iload_n 0, 1) := by decide +kernel
theorem d_Pa_turnedBefore_12 : decode b_Pa_turnedBefore 12 = .ok (.iload 4, 2) := by decide +kernel
theorem d_Pa_turnedBefore_14 : decode b_Pa_turnedBefore 14 = .ok (.invokestatic 31, 3) := by decide +kernel
theorem d_Pa_turnedBefore_17 : decode b_Pa_turnedBefore 17 = .ok (.iload_n 2, 1) := by decide +kernel
theorem d_Pa_turnedBefore_18 : decode b_Pa_turnedBefore 18 = .ok (.if_icmp .le 6, 3) := by decide +kernel
theorem d_Pa_turnedBefore_21 : decode b_Pa_turnedBefore 21 = .ok (.iinc 3 1, 3) := by decide +kernel
theorem d_Pa_turnedBefore_24 : decode b_Pa_turnedBefore 24 = .ok (.iinc 4 1, 3) := by decide +kernel
theorem d_Pa_turnedBefore_27 : decode b_Pa_turnedBefore 27 = .ok (.goto (-22), 3) := by decide +kernel
theorem d_Pa_turnedBefore_30 : decode b_Pa_turnedBefore 30 = .ok (.iload_n 3, 1) := by decide +kernel
theorem d_Pa_turnedBefore_31 : decode b_Pa_turnedBefore 31 = .ok (.ireturn, 1) := by decide +kernel
theorem d_We_init_0 : decode b_We_init 0 = .ok (.aload_n 0, 1) := by decide +kernel
theorem d_We_init_1 : decode b_We_init 1 = .ok (.invokespecial 1, 3) := by decide +kernel
theorem d_We_init_4 : decode b_We_init 4 = .ok (.aload_n 0, 1) := by decide +kernel
theorem d_We_init_5 : decode b_We_init 5 = .ok (.bipush 6, 2) := by decide +kernel
theorem d_We_init_7 : decode b_We_init 7 = .ok (.newarray .int, 2) := by decide +kernel
theorem d_We_init_9 : decode b_We_init 9 = .ok (.dup, 1) := by decide +kernel
theorem d_We_init_10 : decode b_We_init 10 = .ok (.iconst 0, 1) := by decide +kernel
theorem d_We_init_11 : decode b_We_init 11 = .ok (.bipush 10, 2) := by decide +kernel
theorem d_We_init_13 : decode b_We_init 13 = .ok (.iastore, 1) := by decide +kernel
theorem d_We_init_14 : decode b_We_init 14 = .ok (.dup, 1) := by decide +kernel
theorem d_We_init_15 : decode b_We_init 15 = .ok (.iconst 1, 1) := by decide +kernel
theorem d_We_init_16 : decode b_We_init 16 = .ok (.bipush 10, 2) := by decide +kernel
theorem d_We_init_18 : decode b_We_init 18 = .ok (.iastore, 1) := by decide +kernel
theorem d_We_init_19 : decode b_We_init 19 = .ok (.dup, 1) := by decide +kernel
theorem d_We_init_20 : decode b_We_init 20 = .ok (.iconst 2, 1) := by decide +kernel
theorem d_We_init_21 : decode b_We_init 21 = .ok (.bipush 15, 2) := by decide +kernel
theorem d_We_init_23 : decode b_We_init 23 = .ok (.iastore, 1) := by decide +kernel
theorem d_We_init_24 : decode b_We_init 24 = .ok (.dup, 1) := by decide +kernel
theorem d_We_init_25 : decode b_We_init 25 = .ok (.iconst 3, 1) := by decide +kernel
theorem d_We_init_26 : decode b_We_init 26 = .ok (.iconst 5, 1) := by decide +kernel
theorem d_We_init_27 : decode b_We_init 27 = .ok (.iastore, 1) := by decide +kernel
theorem d_We_init_28 : decode b_We_init 28 = .ok (.dup, 1) := by decide +kernel
theorem d_We_init_29 : decode b_We_init 29 = .ok (.iconst 4, 1) := by decide +kernel
theorem d_We_init_30 : decode b_We_init 30 = .ok (.bipush 60, 2) := by decide +kernel
theorem d_We_init_32 : decode b_We_init 32 = .ok (.iastore, 1) := by decide +kernel
theorem d_We_init_33 : decode b_We_init 33 = .ok (.dup, 1) := by decide +kernel
theorem d_We_init_34 : decode b_We_init 34 = .ok (.iconst 5, 1) := by decide +kernel
theorem d_We_init_35 : decode b_We_init 35 = .ok (.bipush 20, 2) := by decide +kernel
theorem d_We_init_37 : decode b_We_init 37 = .ok (.iastore, 1) := by decide +kernel
theorem d_We_init_38 : decode b_We_init 38 = .ok (.putfield 7, 3) := by decide +kernel
theorem d_We_init_41 : decode b_We_init 41 = .ok (.return_, 1) := by decide +kernel
theorem d_We_isKind_0 : decode b_We_isKind 0 = .ok (.iload_n 0, 1) := by decide +kernel
theorem d_We_isKind_1 : decode b_We_isKind 1 = .ok (.ifCond .lt 13, 3) := by decide +kernel
theorem d_We_isKind_4 : decode b_We_isKind 4 = .ok (.iload_n 0, 1) := by decide +kernel
theorem d_We_isKind_5 : decode b_We_isKind 5 = .ok (.bipush 6, 2) := by decide +kernel
theorem d_We_isKind_7 : decode b_We_isKind 7 = .ok (.if_icmp .ge 7, 3) := by decide +kernel
theorem d_We_isKind_10 : decode b_We_isKind 10 = .ok (.iconst 1, 1) := by decide +kernel
theorem d_We_isKind_11 : decode b_We_isKind 11 = .ok (.goto 4, 3) := by decide +kernel
theorem d_We_isKind_14 : decode b_We_isKind 14 = .ok (.iconst 0, 1) := by decide +kernel
theorem d_We_isKind_15 : decode b_We_isKind 15 = .ok (.ireturn, 1) := by decide +kernel
theorem d_We_isWeight_0 : decode b_We_isWeight 0 = .ok (.iload_n 0, 1) := by decide +kernel
theorem d_We_isWeight_1 : decode b_We_isWeight 1 = .ok (.ifCond .lt 14, 3) := by decide +kernel
theorem d_We_isWeight_4 : decode b_We_isWeight 4 = .ok (.iload_n 0, 1) := by decide +kernel
theorem d_We_isWeight_5 : decode b_We_isWeight 5 = .ok (.sipush 1000, 3) := by decide +kernel
theorem d_We_isWeight_8 : decode b_We_isWeight 8 = .ok (.if_icmp .gt 7, 3) := by decide +kernel
theorem d_We_isWeight_11 : decode b_We_isWeight 11 = .ok (.iconst 1, 1) := by decide +kernel
theorem d_We_isWeight_12 : decode b_We_isWeight 12 = .ok (.goto 4, 3) := by decide +kernel
theorem d_We_isWeight_15 : decode b_We_isWeight 15 = .ok (.iconst 0, 1) := by decide +kernel
theorem d_We_isWeight_16 : decode b_We_isWeight 16 = .ok (.ireturn, 1) := by decide +kernel
theorem d_We_replace_0 : decode b_We_replace 0 = .ok (.aload_n 0, 1) := by decide +kernel
theorem d_We_replace_1 : decode b_We_replace 1 = .ok (.getfield 7, 3) := by decide +kernel
theorem d_We_replace_4 : decode b_We_replace 4 = .ok (.iload_n 1, 1) := by decide +kernel
theorem d_We_replace_5 : decode b_We_replace 5 = .ok (.iaload, 1) := by decide +kernel
theorem d_We_replace_6 : decode b_We_replace 6 = .ok (.istore_n 3, 1) := by decide +kernel
theorem d_We_replace_7 : decode b_We_replace 7 = .ok (.aload_n 0, 1) := by decide +kernel
theorem d_We_replace_8 : decode b_We_replace 8 = .ok (.getfield 7, 3) := by decide +kernel
theorem d_We_replace_11 : decode b_We_replace 11 = .ok (.iload_n 1, 1) := by decide +kernel
theorem d_We_replace_12 : decode b_We_replace 12 = .ok (.iload_n 2, 1) := by decide +kernel
theorem d_We_replace_13 : decode b_We_replace 13 = .ok (.iastore, 1) := by decide +kernel
theorem d_We_replace_14 : decode b_We_replace 14 = .ok (.iload_n 3, 1) := by decide +kernel
theorem d_We_replace_15 : decode b_We_replace 15 = .ok (.ireturn, 1) := by decide +kernel
theorem d_We_putIn_0 : decode b_We_putIn 0 = .ok (.aload_n 0, 1) := by decide +kernel
theorem d_We_putIn_1 : decode b_We_putIn 1 = .ok (.getfield 7, 3) := by decide +kernel
theorem d_We_putIn_4 : decode b_We_putIn 4 = .ok (.iconst 0, 1) := by decide +kernel
theorem d_We_putIn_5 : decode b_We_putIn 5 = .ok (.iaload, 1) := by decide +kernel
theorem d_We_putIn_6 : decode b_We_putIn 6 = .ok (.ireturn, 1) := by decide +kernel
theorem d_We_leftOut_0 : decode b_We_leftOut 0 = .ok (.aload_n 0, 1) := by decide +kernel
theorem d_We_leftOut_1 : decode b_We_leftOut 1 = .ok (.getfield 7, 3) := by decide +kernel
theorem d_We_leftOut_4 : decode b_We_leftOut 4 = .ok (.iconst 1, 1) := by decide +kernel
theorem d_We_leftOut_5 : decode b_We_leftOut 5 = .ok (.iaload, 1) := by decide +kernel
theorem d_We_leftOut_6 : decode b_We_leftOut 6 = .ok (.ireturn, 1) := by decide +kernel
theorem d_We_exchanged_0 : decode b_We_exchanged 0 = .ok (.aload_n 0, 1) := by decide +kernel
theorem d_We_exchanged_1 : decode b_We_exchanged 1 = .ok (.getfield 7, 3) := by decide +kernel
theorem d_We_exchanged_4 : decode b_We_exchanged 4 = .ok (.iconst 2, 1) := by decide +kernel
theorem d_We_exchanged_5 : decode b_We_exchanged 5 = .ok (.iaload, 1) := by decide +kernel
theorem d_We_exchanged_6 : decode b_We_exchanged 6 = .ok (.ireturn, 1) := by decide +kernel
theorem d_We_exchangedAlike_0 : decode b_We_exchangedAlike 0 = .ok (.aload_n 0, 1) := by decide +kernel
theorem d_We_exchangedAlike_1 : decode b_We_exchangedAlike 1 = .ok (.getfield 7, 3) := by decide +kernel
theorem d_We_exchangedAlike_4 : decode b_We_exchangedAlike 4 = .ok (.iconst 2, 1) := by decide +kernel
theorem d_We_exchangedAlike_5 : decode b_We_exchangedAlike 5 = .ok (.iaload, 1) := by decide +kernel
theorem d_We_exchangedAlike_6 : decode b_We_exchangedAlike 6 = .ok (.aload_n 0, 1) := by decide +kernel
theorem d_We_exchangedAlike_7 : decode b_We_exchangedAlike 7 = .ok (.getfield 7, 3) := by decide +kernel
theorem d_We_exchangedAlike_10 : decode b_We_exchangedAlike 10 = .ok (.iconst 3, 1) := by decide +kernel
theorem d_We_exchangedAlike_11 : decode b_We_exchangedAlike 11 = .ok (.iaload, 1) := by decide +kernel
theorem d_We_exchangedAlike_12 : decode b_We_exchangedAlike 12 = .ok (.invokestatic 13, 3) := by decide +kernel
theorem d_We_exchangedAlike_15 : decode b_We_exchangedAlike 15 = .ok (.ireturn, 1) := by decide +kernel
theorem d_We_missing_0 : decode b_We_missing 0 = .ok (.aload_n 0, 1) := by decide +kernel
theorem d_We_missing_1 : decode b_We_missing 1 = .ok (.getfield 7, 3) := by decide +kernel
theorem d_We_missing_4 : decode b_We_missing 4 = .ok (.iconst 4, 1) := by decide +kernel
theorem d_We_missing_5 : decode b_We_missing 5 = .ok (.iaload, 1) := by decide +kernel
theorem d_We_missing_6 : decode b_We_missing 6 = .ok (.ireturn, 1) := by decide +kernel
theorem d_We_turned_0 : decode b_We_turned 0 = .ok (.aload_n 0, 1) := by decide +kernel
theorem d_We_turned_1 : decode b_We_turned 1 = .ok (.getfield 7, 3) := by decide +kernel
end
section
theorem d_We_turned_4 : decode b_We_turned 4 = .ok (.iconst 5, 1) := by decide +kernel
theorem d_We_turned_5 : decode b_We_turned 5 = .ok (.iaload, 1) := by decide +kernel
theorem d_We_turned_6 : decode b_We_turned 6 = .ok (.ireturn, 1) := by decide +kernel
theorem d_Wo_init_0 : decode b_Wo_init 0 = .ok (.aload_n 0, 1) := by decide +kernel
theorem d_Wo_init_1 : decode b_Wo_init 1 = .ok (.invokespecial 3, 3) := by decide +kernel
theorem d_Wo_init_4 : decode b_Wo_init 4 = .ok (.aload_n 0, 1) := by decide +kernel
theorem d_Wo_init_5 : decode b_Wo_init 5 = .ok (.iload_n 1, 1) := by decide +kernel
theorem d_Wo_init_6 : decode b_Wo_init 6 = .ok (.bipush 10, 2) := by decide +kernel
theorem d_Wo_init_8 : decode b_Wo_init 8 = .ok (.imul, 1) := by decide +kernel
theorem d_Wo_init_9 : decode b_Wo_init 9 = .ok (.newarray .int, 2) := by decide +kernel
theorem d_Wo_init_11 : decode b_Wo_init 11 = .ok (.putfield 9, 3) := by decide +kernel
theorem d_Wo_init_14 : decode b_Wo_init 14 = .ok (.aload_n 0, 1) := by decide +kernel
theorem d_Wo_init_15 : decode b_Wo_init 15 = .ok (.iload_n 1, 1) := by decide +kernel
theorem d_Wo_init_16 : decode b_Wo_init 16 = .ok (.newarray .int, 2) := by decide +kernel
theorem d_Wo_init_18 : decode b_Wo_init 18 = .ok (.putfield 15, 3) := by decide +kernel
theorem d_Wo_init_21 : decode b_Wo_init 21 = .ok (.aload_n 0, 1) := by decide +kernel
theorem d_Wo_init_22 : decode b_Wo_init 22 = .ok (.iconst 0, 1) := by decide +kernel
theorem d_Wo_init_23 : decode b_Wo_init 23 = .ok (.putfield 18, 3) := by decide +kernel
theorem d_Wo_init_26 : decode b_Wo_init 26 = .ok (.return_, 1) := by decide +kernel
theorem d_Wo_append_0 : decode b_Wo_append 0 = .ok (.aload_n 0, 1) := by decide +kernel
theorem d_Wo_append_1 : decode b_Wo_append 1 = .ok (.getfield 15, 3) := by decide +kernel
theorem d_Wo_append_4 : decode b_Wo_append 4 = .ok (.iload_n 1, 1) := by decide +kernel
theorem d_Wo_append_5 : decode b_Wo_append 5 = .ok (.iaload, 1) := by decide +kernel
theorem d_Wo_append_6 : decode b_Wo_append 6 = .ok (.bipush 10, 2) := by decide +kernel
theorem d_Wo_append_8 : decode b_Wo_append 8 = .ok (.if_icmp .lt 5, 3) := by decide +kernel
theorem d_Wo_append_11 : decode b_Wo_append 11 = .ok (.iconst 0, 1) := by decide +kernel
theorem d_Wo_append_12 : decode b_Wo_append 12 = .ok (.ireturn, 1) := by decide +kernel
theorem d_Wo_append_13 : decode b_Wo_append 13 = .ok (.aload_n 0, 1) := by decide +kernel
theorem d_Wo_append_14 : decode b_Wo_append 14 = .ok (.getfield 9, 3) := by decide +kernel
theorem d_Wo_append_17 : decode b_Wo_append 17 = .ok (.iload_n 1, 1) := by decide +kernel
theorem d_Wo_append_18 : decode b_Wo_append 18 = .ok (.invokestatic 22, 3) := by decide +kernel
theorem d_Wo_append_21 : decode b_Wo_append 21 = .ok (.aload_n 0, 1) := by decide +kernel
theorem d_Wo_append_22 : decode b_Wo_append 22 = .ok (.getfield 15, 3) := by decide +kernel
theorem d_Wo_append_25 : decode b_Wo_append 25 = .ok (.iload_n 1, 1) := by decide +kernel
theorem d_Wo_append_26 : decode b_Wo_append 26 = .ok (.iaload, 1) := by decide +kernel
theorem d_Wo_append_27 : decode b_Wo_append 27 = .ok (.iadd, 1) := by decide +kernel
theorem d_Wo_append_28 : decode b_Wo_append 28 = .ok (.iload_n 2, 1) := by decide +kernel
theorem d_Wo_append_29 : decode b_Wo_append 29 = .ok (.iastore, 1) := by decide +kernel
theorem d_Wo_append_30 : decode b_Wo_append 30 = .ok (.aload_n 0, 1) := by decide +kernel
theorem d_Wo_append_31 : decode b_Wo_append 31 = .ok (.getfield 15, 3) := by decide +kernel
theorem d_Wo_append_34 : decode b_Wo_append 34 = .ok (.iload_n 1, 1) := by decide +kernel
theorem d_Wo_append_35 : decode b_Wo_append 35 = .ok (.dup2, 1) := by decide +kernel
theorem d_Wo_append_36 : decode b_Wo_append 36 = .ok (.iaload, 1) := by decide +kernel
theorem d_Wo_append_37 : decode b_Wo_append 37 = .ok (.iconst 1, 1) := by decide +kernel
theorem d_Wo_append_38 : decode b_Wo_append 38 = .ok (.iadd, 1) := by decide +kernel
theorem d_Wo_append_39 : decode b_Wo_append 39 = .ok (.iastore, 1) := by decide +kernel
theorem d_Wo_append_40 : decode b_Wo_append 40 = .ok (.aload_n 0, 1) := by decide +kernel
theorem d_Wo_append_41 : decode b_Wo_append 41 = .ok (.dup, 1) := by decide +kernel
theorem d_Wo_append_42 : decode b_Wo_append 42 = .ok (.getfield 18, 3) := by decide +kernel
theorem d_Wo_append_45 : decode b_Wo_append 45 = .ok (.iconst 1, 1) := by decide +kernel
theorem d_Wo_append_46 : decode b_Wo_append 46 = .ok (.iadd, 1) := by decide +kernel
theorem d_Wo_append_47 : decode b_Wo_append 47 = .ok (.putfield 18, 3) := by decide +kernel
theorem d_Wo_append_50 : decode b_Wo_append 50 = .ok (.iconst 1, 1) := by decide +kernel
theorem d_Wo_append_51 : decode b_Wo_append 51 = .ok (.ireturn, 1) := by decide +kernel
theorem d_Wo_isNone_0 : decode b_Wo_isNone 0 = .ok (.aload_n 0, 1) := by decide +kernel
theorem d_Wo_isNone_1 : decode b_Wo_isNone 1 = .ok (.getfield 15, 3) := by decide +kernel
theorem d_Wo_isNone_4 : decode b_Wo_isNone 4 = .ok (.iload_n 1, 1) := by decide +kernel
theorem d_Wo_isNone_5 : decode b_Wo_isNone 5 = .ok (.iaload, 1) := by decide +kernel
theorem d_Wo_isNone_6 : decode b_Wo_isNone 6 = .ok (.ifCond .ne 7, 3) := by decide +kernel
theorem d_Wo_isNone_9 : decode b_Wo_isNone 9 = .ok (.iconst 1, 1) := by decide +kernel
theorem d_Wo_isNone_10 : decode b_Wo_isNone 10 = .ok (.goto 4, 3) := by decide +kernel
theorem d_Wo_isNone_13 : decode b_Wo_isNone 13 = .ok (.iconst 0, 1) := by decide +kernel
theorem d_Wo_isNone_14 : decode b_Wo_isNone 14 = .ok (.ireturn, 1) := by decide +kernel
theorem d_Wo_clear_0 : decode b_Wo_clear 0 = .ok (.iconst 0, 1) := by decide +kernel
theorem d_Wo_clear_1 : decode b_Wo_clear 1 = .ok (.istore_n 1, 1) := by decide +kernel
theorem d_Wo_clear_2 : decode b_Wo_clear 2 = .ok (.iload_n 1, 1) := by decide +kernel
theorem d_Wo_clear_3 : decode b_Wo_clear 3 = .ok (.aload_n 0, 1) := by decide +kernel
theorem d_Wo_clear_4 : decode b_Wo_clear 4 = .ok (.getfield 15, 3) := by decide +kernel
theorem d_Wo_clear_7 : decode b_Wo_clear 7 = .ok (.arraylength, 1) := by decide +kernel
theorem d_Wo_clear_8 : decode b_Wo_clear 8 = .ok (.if_icmp .ge 16, 3) := by decide +kernel
theorem d_Wo_clear_11 : decode b_Wo_clear 11 = .ok (.aload_n 0, 1) := by decide +kernel
theorem d_Wo_clear_12 : decode b_Wo_clear 12 = .ok (.getfield 15, 3) := by decide +kernel
theorem d_Wo_clear_15 : decode b_Wo_clear 15 = .ok (.iload_n 1, 1) := by decide +kernel
theorem d_Wo_clear_16 : decode b_Wo_clear 16 = .ok (.iconst 0, 1) := by decide +kernel
theorem d_Wo_clear_17 : decode b_Wo_clear 17 = .ok (.iastore, 1) := by decide +kernel
theorem d_Wo_clear_18 : decode b_Wo_clear 18 = .ok (.iinc 1 1, 3) := by decide +kernel
theorem d_Wo_clear_21 : decode b_Wo_clear 21 = .ok (.goto (-19), 3) := by decide +kernel
theorem d_Wo_clear_24 : decode b_Wo_clear 24 = .ok (.aload_n 0, 1) := by decide +kernel
theorem d_Wo_clear_25 : decode b_Wo_clear 25 = .ok (.iconst 0, 1) := by decide +kernel
theorem d_Wo_clear_26 : decode b_Wo_clear 26 = .ok (.putfield 18, 3) := by decide +kernel
theorem d_Wo_clear_29 : decode b_Wo_clear 29 = .ok (.return_, 1) := by decide +kernel
theorem d_Wo_startOf_0 : decode b_Wo_startOf 0 = .ok (.iload_n 0, 1) := by decide +kernel
theorem d_Wo_startOf_1 : decode b_Wo_startOf 1 = .ok (.bipush 10, 2) := by decide +kernel
theorem d_Wo_startOf_3 : decode b_Wo_startOf 3 = .ok (.imul, 1) := by decide +kernel
theorem d_Wo_startOf_4 : decode b_Wo_startOf 4 = .ok (.ireturn, 1) := by decide +kernel
theorem d_La_share_0 : decode b_La_share 0 = .ok (.aload_n 3, 1) := by decide +kernel
theorem d_La_share_1 : decode b_La_share 1 = .ok (.iconst 0, 1) := by decide +kernel
theorem d_La_share_2 : decode b_La_share 2 = .ok (.aload_n 0, 1) := by decide +kernel
theorem d_La_share_3 : decode b_La_share 3 = .ok (.iload_n 1, 1) := by decide +kernel
theorem d_La_share_4 : decode b_La_share 4 = .ok (.iload_n 2, 1) := by decide +kernel
theorem d_La_share_5 : decode b_La_share 5 = .ok (.invokevirtual 7, 3) := by decide +kernel
theorem d_La_share_8 : decode b_La_share 8 = .ok (.lastore, 1) := by decide +kernel
theorem d_La_share_9 : decode b_La_share 9 = .ok (.goto 7, 3) := by decide +kernel
theorem d_La_share_12 : decode b_La_share 12 = .ok (.astore 4, 2) := by decide +kernel
theorem d_La_share_14 : decode b_La_share 14 = .ok (.iconst 1, 1) := by decide +kernel
theorem d_La_share_15 : decode b_La_share 15 = .ok (.ireturn, 1) := by decide +kernel
theorem d_La_share_16 : decode b_La_share 16 = .ok (.iconst 0, 1) := by decide +kernel
theorem d_La_share_17 : decode b_La_share 17 = .ok (.ireturn, 1) := by decide +kernel
theorem d_La_law_0 : decode code 0 = .ok (.new 8, 3) := by decide +kernel
theorem d_La_law_3 : decode code 3 = .ok (.dup, 1) := by decide +kernel
theorem d_La_law_4 : decode code 4 = .ok (.invokespecial 15, 3) := by decide +kernel
theorem d_La_law_7 : decode code 7 = .ok (.astore_n 1, 1) := by decide +kernel
theorem d_La_law_8 : decode code 8 = .ok (.new 16, 3) := by decide +kernel
theorem d_La_law_11 : decode code 11 = .ok (.dup, 1) := by decide +kernel
theorem d_La_law_12 : decode code 12 = .ok (.invokespecial 18, 3) := by decide +kernel
theorem d_La_law_15 : decode code 15 = .ok (.astore_n 2, 1) := by decide +kernel
theorem d_La_law_16 : decode code 16 = .ok (.iconst 1, 1) := by decide +kernel
theorem d_La_law_17 : decode code 17 = .ok (.newarray .long, 2) := by decide +kernel
theorem d_La_law_19 : decode code 19 = .ok (.astore_n 3, 1) := by decide +kernel
theorem d_La_law_20 : decode code 20 = .ok (.iconst 0, 1) := by decide +kernel
theorem d_La_law_21 : decode code 21 = .ok (.istore 4, 2) := by decide +kernel
theorem d_La_law_23 : decode code 23 = .ok (.iload 4, 2) := by decide +kernel
theorem d_La_law_25 : decode code 25 = .ok (.aload_n 0, 1) := by decide +kernel
theorem d_La_law_26 : decode code 26 = .ok (.arraylength, 1) := by decide +kernel
theorem d_La_law_27 : decode code 27 = .ok (.iconst 4, 1) := by decide +kernel
theorem d_La_law_28 : decode code 28 = .ok (.isub, 1) := by decide +kernel
theorem d_La_law_29 : decode code 29 = .ok (.if_icmp .gt 700, 3) := by decide +kernel
theorem d_La_law_32 : decode code 32 = .ok (.aload_n 0, 1) := by decide +kernel
theorem d_La_law_33 : decode code 33 = .ok (.iload 4, 2) := by decide +kernel
theorem d_La_law_35 : decode code 35 = .ok (.iaload, 1) := by decide +kernel
theorem d_La_law_36 : decode code 36 = .ok (.bipush 31, 2) := by decide +kernel
theorem d_La_law_38 : decode code 38 = .ok (.iand, 1) := by decide +kernel
theorem d_La_law_39 : decode code 39 = .ok (.tableswitch 684 0 16 #[81, 106, 155, 192, 217, 254, 291, 328, 341, 366, 391, 416, 453, 502, 539, 592, 659], 81) := by decide +kernel
theorem d_La_law_120 : decode code 120 = .ok (.aload_n 1, 1) := by decide +kernel
theorem d_La_law_121 : decode code 121 = .ok (.aload_n 0, 1) := by decide +kernel
theorem d_La_law_122 : decode code 122 = .ok (.iload 4, 2) := by decide +kernel
theorem d_La_law_124 : decode code 124 = .ok (.iconst 1, 1) := by decide +kernel
theorem d_La_law_125 : decode code 125 = .ok (.iadd, 1) := by decide +kernel
theorem d_La_law_126 : decode code 126 = .ok (.iaload, 1) := by decide +kernel
theorem d_La_law_127 : decode code 127 = .ok (.invokevirtual 19, 3) := by decide +kernel
theorem d_La_law_130 : decode code 130 = .ok (.aload_n 2, 1) := by decide +kernel
theorem d_La_law_131 : decode code 131 = .ok (.aload_n 0, 1) := by decide +kernel
theorem d_La_law_132 : decode code 132 = .ok (.iload 4, 2) := by decide +kernel
theorem d_La_law_134 : decode code 134 = .ok (.iconst 1, 1) := by decide +kernel
theorem d_La_law_135 : decode code 135 = .ok (.iadd, 1) := by decide +kernel
theorem d_La_law_136 : decode code 136 = .ok (.iaload, 1) := by decide +kernel
theorem d_La_law_137 : decode code 137 = .ok (.invokevirtual 23, 3) := by decide +kernel
theorem d_La_law_140 : decode code 140 = .ok (.if_icmp .eq 583, 3) := by decide +kernel
theorem d_La_law_143 : decode code 143 = .ok (.iconst 0, 1) := by decide +kernel
theorem d_La_law_144 : decode code 144 = .ok (.ireturn, 1) := by decide +kernel
theorem d_La_law_145 : decode code 145 = .ok (.aload_n 1, 1) := by decide +kernel
theorem d_La_law_146 : decode code 146 = .ok (.aload_n 0, 1) := by decide +kernel
theorem d_La_law_147 : decode code 147 = .ok (.iload 4, 2) := by decide +kernel
theorem d_La_law_149 : decode code 149 = .ok (.iconst 1, 1) := by decide +kernel
theorem d_La_law_150 : decode code 150 = .ok (.iadd, 1) := by decide +kernel
theorem d_La_law_151 : decode code 151 = .ok (.iaload, 1) := by decide +kernel
theorem d_La_law_152 : decode code 152 = .ok (.aload_n 0, 1) := by decide +kernel
theorem d_La_law_153 : decode code 153 = .ok (.iload 4, 2) := by decide +kernel
theorem d_La_law_155 : decode code 155 = .ok (.iconst 2, 1) := by decide +kernel
theorem d_La_law_156 : decode code 156 = .ok (.iadd, 1) := by decide +kernel
theorem d_La_law_157 : decode code 157 = .ok (.iaload, 1) := by decide +kernel
theorem d_La_law_158 : decode code 158 = .ok (.aload_n 0, 1) := by decide +kernel
theorem d_La_law_159 : decode code 159 = .ok (.iload 4, 2) := by decide +kernel
theorem d_La_law_161 : decode code 161 = .ok (.iconst 3, 1) := by decide +kernel
theorem d_La_law_162 : decode code 162 = .ok (.iadd, 1) := by decide +kernel
theorem d_La_law_163 : decode code 163 = .ok (.iaload, 1) := by decide +kernel
theorem d_La_law_164 : decode code 164 = .ok (.invokevirtual 24, 3) := by decide +kernel
theorem d_La_law_167 : decode code 167 = .ok (.aload_n 2, 1) := by decide +kernel
theorem d_La_law_168 : decode code 168 = .ok (.aload_n 0, 1) := by decide +kernel
theorem d_La_law_169 : decode code 169 = .ok (.iload 4, 2) := by decide +kernel
theorem d_La_law_171 : decode code 171 = .ok (.iconst 1, 1) := by decide +kernel
theorem d_La_law_172 : decode code 172 = .ok (.iadd, 1) := by decide +kernel
theorem d_La_law_173 : decode code 173 = .ok (.iaload, 1) := by decide +kernel
theorem d_La_law_174 : decode code 174 = .ok (.aload_n 0, 1) := by decide +kernel
theorem d_La_law_175 : decode code 175 = .ok (.iload 4, 2) := by decide +kernel
theorem d_La_law_177 : decode code 177 = .ok (.iconst 2, 1) := by decide +kernel
theorem d_La_law_178 : decode code 178 = .ok (.iadd, 1) := by decide +kernel
theorem d_La_law_179 : decode code 179 = .ok (.iaload, 1) := by decide +kernel
theorem d_La_law_180 : decode code 180 = .ok (.aload_n 0, 1) := by decide +kernel
theorem d_La_law_181 : decode code 181 = .ok (.iload 4, 2) := by decide +kernel
theorem d_La_law_183 : decode code 183 = .ok (.iconst 3, 1) := by decide +kernel
theorem d_La_law_184 : decode code 184 = .ok (.iadd, 1) := by decide +kernel
theorem d_La_law_185 : decode code 185 = .ok (.iaload, 1) := by decide +kernel
theorem d_La_law_186 : decode code 186 = .ok (.invokevirtual 28, 3) := by decide +kernel
theorem d_La_law_189 : decode code 189 = .ok (.if_icmp .eq 534, 3) := by decide +kernel
theorem d_La_law_192 : decode code 192 = .ok (.iconst 0, 1) := by decide +kernel
theorem d_La_law_193 : decode code 193 = .ok (.ireturn, 1) := by decide +kernel
theorem d_La_law_194 : decode code 194 = .ok (.aload_n 1, 1) := by decide +kernel
theorem d_La_law_195 : decode code 195 = .ok (.aload_n 0, 1) := by decide +kernel
theorem d_La_law_196 : decode code 196 = .ok (.iload 4, 2) := by decide +kernel
theorem d_La_law_198 : decode code 198 = .ok (.iconst 1, 1) := by decide +kernel
theorem d_La_law_199 : decode code 199 = .ok (.iadd, 1) := by decide +kernel
theorem d_La_law_200 : decode code 200 = .ok (.iaload, 1) := by decide +kernel
theorem d_La_law_201 : decode code 201 = .ok (.aload_n 0, 1) := by decide +kernel
theorem d_La_law_202 : decode code 202 = .ok (.iload 4, 2) := by decide +kernel
theorem d_La_law_204 : decode code 204 = .ok (.iconst 2, 1) := by decide +kernel
theorem d_La_law_205 : decode code 205 = .ok (.iadd, 1) := by decide +kernel
theorem d_La_law_206 : decode code 206 = .ok (.iaload, 1) := by decide +kernel
theorem d_La_law_207 : decode code 207 = .ok (.invokevirtual 29, 3) := by decide +kernel
theorem d_La_law_210 : decode code 210 = .ok (.aload_n 2, 1) := by decide +kernel
theorem d_La_law_211 : decode code 211 = .ok (.aload_n 0, 1) := by decide +kernel
theorem d_La_law_212 : decode code 212 = .ok (.iload 4, 2) := by decide +kernel
theorem d_La_law_214 : decode code 214 = .ok (.iconst 1, 1) := by decide +kernel
theorem d_La_law_215 : decode code 215 = .ok (.iadd, 1) := by decide +kernel
theorem d_La_law_216 : decode code 216 = .ok (.iaload, 1) := by decide +kernel
theorem d_La_law_217 : decode code 217 = .ok (.aload_n 0, 1) := by decide +kernel
theorem d_La_law_218 : decode code 218 = .ok (.iload 4, 2) := by decide +kernel
theorem d_La_law_220 : decode code 220 = .ok (.iconst 2, 1) := by decide +kernel
theorem d_La_law_221 : decode code 221 = .ok (.iadd, 1) := by decide +kernel
theorem d_La_law_222 : decode code 222 = .ok (.iaload, 1) := by decide +kernel
theorem d_La_law_223 : decode code 223 = .ok (.invokevirtual 33, 3) := by decide +kernel
theorem d_La_law_226 : decode code 226 = .ok (.if_icmp .eq 497, 3) := by decide +kernel
theorem d_La_law_229 : decode code 229 = .ok (.iconst 0, 1) := by decide +kernel
theorem d_La_law_230 : decode code 230 = .ok (.ireturn, 1) := by decide +kernel
theorem d_La_law_231 : decode code 231 = .ok (.aload_n 1, 1) := by decide +kernel
theorem d_La_law_232 : decode code 232 = .ok (.aload_n 0, 1) := by decide +kernel
theorem d_La_law_233 : decode code 233 = .ok (.iload 4, 2) := by decide +kernel
theorem d_La_law_235 : decode code 235 = .ok (.iconst 1, 1) := by decide +kernel
theorem d_La_law_236 : decode code 236 = .ok (.iadd, 1) := by decide +kernel
theorem d_La_law_237 : decode code 237 = .ok (.iaload, 1) := by decide +kernel
theorem d_La_law_238 : decode code 238 = .ok (.invokevirtual 34, 3) := by decide +kernel
theorem d_La_law_241 : decode code 241 = .ok (.aload_n 2, 1) := by decide +kernel
theorem d_La_law_242 : decode code 242 = .ok (.aload_n 0, 1) := by decide +kernel
theorem d_La_law_243 : decode code 243 = .ok (.iload 4, 2) := by decide +kernel
theorem d_La_law_245 : decode code 245 = .ok (.iconst 1, 1) := by decide +kernel
theorem d_La_law_246 : decode code 246 = .ok (.iadd, 1) := by decide +kernel
theorem d_La_law_247 : decode code 247 = .ok (.iaload, 1) := by decide +kernel
theorem d_La_law_248 : decode code 248 = .ok (.invokevirtual 38, 3) := by decide +kernel
theorem d_La_law_251 : decode code 251 = .ok (.if_icmp .eq 472, 3) := by decide +kernel
theorem d_La_law_254 : decode code 254 = .ok (.iconst 0, 1) := by decide +kernel
theorem d_La_law_255 : decode code 255 = .ok (.ireturn, 1) := by decide +kernel
theorem d_La_law_256 : decode code 256 = .ok (.aload_n 1, 1) := by decide +kernel
theorem d_La_law_257 : decode code 257 = .ok (.aload_n 0, 1) := by decide +kernel
theorem d_La_law_258 : decode code 258 = .ok (.iload 4, 2) := by decide +kernel
theorem d_La_law_260 : decode code 260 = .ok (.iconst 1, 1) := by decide +kernel
theorem d_La_law_261 : decode code 261 = .ok (.iadd, 1) := by decide +kernel
theorem d_La_law_262 : decode code 262 = .ok (.iaload, 1) := by decide +kernel
theorem d_La_law_263 : decode code 263 = .ok (.aload_n 0, 1) := by decide +kernel
theorem d_La_law_264 : decode code 264 = .ok (.iload 4, 2) := by decide +kernel
theorem d_La_law_266 : decode code 266 = .ok (.iconst 2, 1) := by decide +kernel
theorem d_La_law_267 : decode code 267 = .ok (.iadd, 1) := by decide +kernel
theorem d_La_law_268 : decode code 268 = .ok (.iaload, 1) := by decide +kernel
theorem d_La_law_269 : decode code 269 = .ok (.invokevirtual 39, 3) := by decide +kernel
theorem d_La_law_272 : decode code 272 = .ok (.aload_n 2, 1) := by decide +kernel
theorem d_La_law_273 : decode code 273 = .ok (.aload_n 0, 1) := by decide +kernel
theorem d_La_law_274 : decode code 274 = .ok (.iload 4, 2) := by decide +kernel
theorem d_La_law_276 : decode code 276 = .ok (.iconst 1, 1) := by decide +kernel
theorem d_La_law_277 : decode code 277 = .ok (.iadd, 1) := by decide +kernel
theorem d_La_law_278 : decode code 278 = .ok (.iaload, 1) := by decide +kernel
theorem d_La_law_279 : decode code 279 = .ok (.aload_n 0, 1) := by decide +kernel
theorem d_La_law_280 : decode code 280 = .ok (.iload 4, 2) := by decide +kernel
theorem d_La_law_282 : decode code 282 = .ok (.iconst 2, 1) := by decide +kernel
theorem d_La_law_283 : decode code 283 = .ok (.iadd, 1) := by decide +kernel
theorem d_La_law_284 : decode code 284 = .ok (.iaload, 1) := by decide +kernel
theorem d_La_law_285 : decode code 285 = .ok (.invokevirtual 43, 3) := by decide +kernel
theorem d_La_law_288 : decode code 288 = .ok (.if_icmp .eq 435, 3) := by decide +kernel
theorem d_La_law_291 : decode code 291 = .ok (.iconst 0, 1) := by decide +kernel
theorem d_La_law_292 : decode code 292 = .ok (.ireturn, 1) := by decide +kernel
theorem d_La_law_293 : decode code 293 = .ok (.aload_n 1, 1) := by decide +kernel
theorem d_La_law_294 : decode code 294 = .ok (.aload_n 0, 1) := by decide +kernel
theorem d_La_law_295 : decode code 295 = .ok (.iload 4, 2) := by decide +kernel
theorem d_La_law_297 : decode code 297 = .ok (.iconst 1, 1) := by decide +kernel
theorem d_La_law_298 : decode code 298 = .ok (.iadd, 1) := by decide +kernel
theorem d_La_law_299 : decode code 299 = .ok (.iaload, 1) := by decide +kernel
theorem d_La_law_300 : decode code 300 = .ok (.aload_n 0, 1) := by decide +kernel
theorem d_La_law_301 : decode code 301 = .ok (.iload 4, 2) := by decide +kernel
theorem d_La_law_303 : decode code 303 = .ok (.iconst 2, 1) := by decide +kernel
theorem d_La_law_304 : decode code 304 = .ok (.iadd, 1) := by decide +kernel
theorem d_La_law_305 : decode code 305 = .ok (.iaload, 1) := by decide +kernel
theorem d_La_law_306 : decode code 306 = .ok (.invokevirtual 44, 3) := by decide +kernel
theorem d_La_law_309 : decode code 309 = .ok (.aload_n 2, 1) := by decide +kernel
theorem d_La_law_310 : decode code 310 = .ok (.aload_n 0, 1) := by decide +kernel
theorem d_La_law_311 : decode code 311 = .ok (.iload 4, 2) := by decide +kernel
theorem d_La_law_313 : decode code 313 = .ok (.iconst 1, 1) := by decide +kernel
theorem d_La_law_314 : decode code 314 = .ok (.iadd, 1) := by decide +kernel
theorem d_La_law_315 : decode code 315 = .ok (.iaload, 1) := by decide +kernel
theorem d_La_law_316 : decode code 316 = .ok (.aload_n 0, 1) := by decide +kernel
theorem d_La_law_317 : decode code 317 = .ok (.iload 4, 2) := by decide +kernel
theorem d_La_law_319 : decode code 319 = .ok (.iconst 2, 1) := by decide +kernel
theorem d_La_law_320 : decode code 320 = .ok (.iadd, 1) := by decide +kernel
theorem d_La_law_321 : decode code 321 = .ok (.iaload, 1) := by decide +kernel
theorem d_La_law_322 : decode code 322 = .ok (.invokevirtual 47, 3) := by decide +kernel
theorem d_La_law_325 : decode code 325 = .ok (.if_icmp .eq 398, 3) := by decide +kernel
theorem d_La_law_328 : decode code 328 = .ok (.iconst 0, 1) := by decide +kernel
theorem d_La_law_329 : decode code 329 = .ok (.ireturn, 1) := by decide +kernel
theorem d_La_law_330 : decode code 330 = .ok (.aload_n 1, 1) := by decide +kernel
theorem d_La_law_331 : decode code 331 = .ok (.aload_n 0, 1) := by decide +kernel
theorem d_La_law_332 : decode code 332 = .ok (.iload 4, 2) := by decide +kernel
theorem d_La_law_334 : decode code 334 = .ok (.iconst 1, 1) := by decide +kernel
theorem d_La_law_335 : decode code 335 = .ok (.iadd, 1) := by decide +kernel
theorem d_La_law_336 : decode code 336 = .ok (.iaload, 1) := by decide +kernel
theorem d_La_law_337 : decode code 337 = .ok (.aload_n 0, 1) := by decide +kernel
theorem d_La_law_338 : decode code 338 = .ok (.iload 4, 2) := by decide +kernel
theorem d_La_law_340 : decode code 340 = .ok (.iconst 2, 1) := by decide +kernel
theorem d_La_law_341 : decode code 341 = .ok (.iadd, 1) := by decide +kernel
theorem d_La_law_342 : decode code 342 = .ok (.iaload, 1) := by decide +kernel
theorem d_La_law_343 : decode code 343 = .ok (.invokevirtual 48, 3) := by decide +kernel
theorem d_La_law_346 : decode code 346 = .ok (.aload_n 2, 1) := by decide +kernel
theorem d_La_law_347 : decode code 347 = .ok (.aload_n 0, 1) := by decide +kernel
theorem d_La_law_348 : decode code 348 = .ok (.iload 4, 2) := by decide +kernel
theorem d_La_law_350 : decode code 350 = .ok (.iconst 1, 1) := by decide +kernel
theorem d_La_law_351 : decode code 351 = .ok (.iadd, 1) := by decide +kernel
theorem d_La_law_352 : decode code 352 = .ok (.iaload, 1) := by decide +kernel
theorem d_La_law_353 : decode code 353 = .ok (.aload_n 0, 1) := by decide +kernel
theorem d_La_law_354 : decode code 354 = .ok (.iload 4, 2) := by decide +kernel
theorem d_La_law_356 : decode code 356 = .ok (.iconst 2, 1) := by decide +kernel
theorem d_La_law_357 : decode code 357 = .ok (.iadd, 1) := by decide +kernel
theorem d_La_law_358 : decode code 358 = .ok (.iaload, 1) := by decide +kernel
theorem d_La_law_359 : decode code 359 = .ok (.invokevirtual 51, 3) := by decide +kernel
theorem d_La_law_362 : decode code 362 = .ok (.if_icmp .eq 361, 3) := by decide +kernel
theorem d_La_law_365 : decode code 365 = .ok (.iconst 0, 1) := by decide +kernel
theorem d_La_law_366 : decode code 366 = .ok (.ireturn, 1) := by decide +kernel
theorem d_La_law_367 : decode code 367 = .ok (.aload_n 1, 1) := by decide +kernel
theorem d_La_law_368 : decode code 368 = .ok (.invokevirtual 52, 3) := by decide +kernel
theorem d_La_law_371 : decode code 371 = .ok (.aload_n 2, 1) := by decide +kernel
theorem d_La_law_372 : decode code 372 = .ok (.invokevirtual 56, 3) := by decide +kernel
theorem d_La_law_375 : decode code 375 = .ok (.if_icmp .eq 348, 3) := by decide +kernel
theorem d_La_law_378 : decode code 378 = .ok (.iconst 0, 1) := by decide +kernel
theorem d_La_law_379 : decode code 379 = .ok (.ireturn, 1) := by decide +kernel
theorem d_La_law_380 : decode code 380 = .ok (.aload_n 1, 1) := by decide +kernel
theorem d_La_law_381 : decode code 381 = .ok (.aload_n 0, 1) := by decide +kernel
theorem d_La_law_382 : decode code 382 = .ok (.iload 4, 2) := by decide +kernel
theorem d_La_law_384 : decode code 384 = .ok (.iconst 1, 1) := by decide +kernel
theorem d_La_law_385 : decode code 385 = .ok (.iadd, 1) := by decide +kernel
theorem d_La_law_386 : decode code 386 = .ok (.iaload, 1) := by decide +kernel
theorem d_La_law_387 : decode code 387 = .ok (.invokevirtual 57, 3) := by decide +kernel
theorem d_La_law_390 : decode code 390 = .ok (.aload_n 2, 1) := by decide +kernel
theorem d_La_law_391 : decode code 391 = .ok (.aload_n 0, 1) := by decide +kernel
theorem d_La_law_392 : decode code 392 = .ok (.iload 4, 2) := by decide +kernel
theorem d_La_law_394 : decode code 394 = .ok (.iconst 1, 1) := by decide +kernel
theorem d_La_law_395 : decode code 395 = .ok (.iadd, 1) := by decide +kernel
theorem d_La_law_396 : decode code 396 = .ok (.iaload, 1) := by decide +kernel
theorem d_La_law_397 : decode code 397 = .ok (.invokevirtual 60, 3) := by decide +kernel
theorem d_La_law_400 : decode code 400 = .ok (.if_icmp .eq 323, 3) := by decide +kernel
theorem d_La_law_403 : decode code 403 = .ok (.iconst 0, 1) := by decide +kernel
theorem d_La_law_404 : decode code 404 = .ok (.ireturn, 1) := by decide +kernel
theorem d_La_law_405 : decode code 405 = .ok (.aload_n 1, 1) := by decide +kernel
theorem d_La_law_406 : decode code 406 = .ok (.aload_n 0, 1) := by decide +kernel
theorem d_La_law_407 : decode code 407 = .ok (.iload 4, 2) := by decide +kernel
theorem d_La_law_409 : decode code 409 = .ok (.iconst 1, 1) := by decide +kernel
theorem d_La_law_410 : decode code 410 = .ok (.iadd, 1) := by decide +kernel
theorem d_La_law_411 : decode code 411 = .ok (.iaload, 1) := by decide +kernel
theorem d_La_law_412 : decode code 412 = .ok (.invokevirtual 61, 3) := by decide +kernel
theorem d_La_law_415 : decode code 415 = .ok (.aload_n 2, 1) := by decide +kernel
theorem d_La_law_416 : decode code 416 = .ok (.aload_n 0, 1) := by decide +kernel
theorem d_La_law_417 : decode code 417 = .ok (.iload 4, 2) := by decide +kernel
theorem d_La_law_419 : decode code 419 = .ok (.iconst 1, 1) := by decide +kernel
theorem d_La_law_420 : decode code 420 = .ok (.iadd, 1) := by decide +kernel
theorem d_La_law_421 : decode code 421 = .ok (.iaload, 1) := by decide +kernel
theorem d_La_law_422 : decode code 422 = .ok (.invokevirtual 64, 3) := by decide +kernel
theorem d_La_law_425 : decode code 425 = .ok (.if_icmp .eq 298, 3) := by decide +kernel
theorem d_La_law_428 : decode code 428 = .ok (.iconst 0, 1) := by decide +kernel
theorem d_La_law_429 : decode code 429 = .ok (.ireturn, 1) := by decide +kernel
theorem d_La_law_430 : decode code 430 = .ok (.aload_n 1, 1) := by decide +kernel
theorem d_La_law_431 : decode code 431 = .ok (.aload_n 0, 1) := by decide +kernel
theorem d_La_law_432 : decode code 432 = .ok (.iload 4, 2) := by decide +kernel
theorem d_La_law_434 : decode code 434 = .ok (.iconst 1, 1) := by decide +kernel
theorem d_La_law_435 : decode code 435 = .ok (.iadd, 1) := by decide +kernel
theorem d_La_law_436 : decode code 436 = .ok (.iaload, 1) := by decide +kernel
theorem d_La_law_437 : decode code 437 = .ok (.invokevirtual 65, 3) := by decide +kernel
theorem d_La_law_440 : decode code 440 = .ok (.aload_n 2, 1) := by decide +kernel
theorem d_La_law_441 : decode code 441 = .ok (.aload_n 0, 1) := by decide +kernel
theorem d_La_law_442 : decode code 442 = .ok (.iload 4, 2) := by decide +kernel
theorem d_La_law_444 : decode code 444 = .ok (.iconst 1, 1) := by decide +kernel
theorem d_La_law_445 : decode code 445 = .ok (.iadd, 1) := by decide +kernel
theorem d_La_law_446 : decode code 446 = .ok (.iaload, 1) := by decide +kernel
theorem d_La_law_447 : decode code 447 = .ok (.invokevirtual 68, 3) := by decide +kernel
theorem d_La_law_450 : decode code 450 = .ok (.if_icmp .eq 273, 3) := by decide +kernel
theorem d_La_law_453 : decode code 453 = .ok (.iconst 0, 1) := by decide +kernel
theorem d_La_law_454 : decode code 454 = .ok (.ireturn, 1) := by decide +kernel
theorem d_La_law_455 : decode code 455 = .ok (.aload_n 1, 1) := by decide +kernel
theorem d_La_law_456 : decode code 456 = .ok (.aload_n 0, 1) := by decide +kernel
theorem d_La_law_457 : decode code 457 = .ok (.iload 4, 2) := by decide +kernel
theorem d_La_law_459 : decode code 459 = .ok (.iconst 1, 1) := by decide +kernel
theorem d_La_law_460 : decode code 460 = .ok (.iadd, 1) := by decide +kernel
theorem d_La_law_461 : decode code 461 = .ok (.iaload, 1) := by decide +kernel
theorem d_La_law_462 : decode code 462 = .ok (.aload_n 0, 1) := by decide +kernel
theorem d_La_law_463 : decode code 463 = .ok (.iload 4, 2) := by decide +kernel
theorem d_La_law_465 : decode code 465 = .ok (.iconst 2, 1) := by decide +kernel
theorem d_La_law_466 : decode code 466 = .ok (.iadd, 1) := by decide +kernel
theorem d_La_law_467 : decode code 467 = .ok (.iaload, 1) := by decide +kernel
theorem d_La_law_468 : decode code 468 = .ok (.invokevirtual 69, 3) := by decide +kernel
theorem d_La_law_471 : decode code 471 = .ok (.aload_n 2, 1) := by decide +kernel
theorem d_La_law_472 : decode code 472 = .ok (.aload_n 0, 1) := by decide +kernel
theorem d_La_law_473 : decode code 473 = .ok (.iload 4, 2) := by decide +kernel
theorem d_La_law_475 : decode code 475 = .ok (.iconst 1, 1) := by decide +kernel
theorem d_La_law_476 : decode code 476 = .ok (.iadd, 1) := by decide +kernel
theorem d_La_law_477 : decode code 477 = .ok (.iaload, 1) := by decide +kernel
theorem d_La_law_478 : decode code 478 = .ok (.aload_n 0, 1) := by decide +kernel
theorem d_La_law_479 : decode code 479 = .ok (.iload 4, 2) := by decide +kernel
theorem d_La_law_481 : decode code 481 = .ok (.iconst 2, 1) := by decide +kernel
theorem d_La_law_482 : decode code 482 = .ok (.iadd, 1) := by decide +kernel
theorem d_La_law_483 : decode code 483 = .ok (.iaload, 1) := by decide +kernel
theorem d_La_law_484 : decode code 484 = .ok (.invokevirtual 72, 3) := by decide +kernel
theorem d_La_law_487 : decode code 487 = .ok (.if_icmp .eq 236, 3) := by decide +kernel
theorem d_La_law_490 : decode code 490 = .ok (.iconst 0, 1) := by decide +kernel
theorem d_La_law_491 : decode code 491 = .ok (.ireturn, 1) := by decide +kernel
theorem d_La_law_492 : decode code 492 = .ok (.aload_n 1, 1) := by decide +kernel
theorem d_La_law_493 : decode code 493 = .ok (.aload_n 0, 1) := by decide +kernel
theorem d_La_law_494 : decode code 494 = .ok (.iload 4, 2) := by decide +kernel
theorem d_La_law_496 : decode code 496 = .ok (.iconst 1, 1) := by decide +kernel
theorem d_La_law_497 : decode code 497 = .ok (.iadd, 1) := by decide +kernel
theorem d_La_law_498 : decode code 498 = .ok (.iaload, 1) := by decide +kernel
theorem d_La_law_499 : decode code 499 = .ok (.aload_n 0, 1) := by decide +kernel
theorem d_La_law_500 : decode code 500 = .ok (.iload 4, 2) := by decide +kernel
theorem d_La_law_502 : decode code 502 = .ok (.iconst 2, 1) := by decide +kernel
theorem d_La_law_503 : decode code 503 = .ok (.iadd, 1) := by decide +kernel
theorem d_La_law_504 : decode code 504 = .ok (.iaload, 1) := by decide +kernel
theorem d_La_law_505 : decode code 505 = .ok (.aload_n 0, 1) := by decide +kernel
theorem d_La_law_506 : decode code 506 = .ok (.iload 4, 2) := by decide +kernel
theorem d_La_law_508 : decode code 508 = .ok (.iconst 3, 1) := by decide +kernel
theorem d_La_law_509 : decode code 509 = .ok (.iadd, 1) := by decide +kernel
theorem d_La_law_510 : decode code 510 = .ok (.iaload, 1) := by decide +kernel
theorem d_La_law_511 : decode code 511 = .ok (.invokevirtual 73, 3) := by decide +kernel
theorem d_La_law_514 : decode code 514 = .ok (.aload_n 2, 1) := by decide +kernel
theorem d_La_law_515 : decode code 515 = .ok (.aload_n 0, 1) := by decide +kernel
theorem d_La_law_516 : decode code 516 = .ok (.iload 4, 2) := by decide +kernel
theorem d_La_law_518 : decode code 518 = .ok (.iconst 1, 1) := by decide +kernel
theorem d_La_law_519 : decode code 519 = .ok (.iadd, 1) := by decide +kernel
theorem d_La_law_520 : decode code 520 = .ok (.iaload, 1) := by decide +kernel
theorem d_La_law_521 : decode code 521 = .ok (.aload_n 0, 1) := by decide +kernel
theorem d_La_law_522 : decode code 522 = .ok (.iload 4, 2) := by decide +kernel
theorem d_La_law_524 : decode code 524 = .ok (.iconst 2, 1) := by decide +kernel
theorem d_La_law_525 : decode code 525 = .ok (.iadd, 1) := by decide +kernel
theorem d_La_law_526 : decode code 526 = .ok (.iaload, 1) := by decide +kernel
theorem d_La_law_527 : decode code 527 = .ok (.aload_n 0, 1) := by decide +kernel
theorem d_La_law_528 : decode code 528 = .ok (.iload 4, 2) := by decide +kernel
theorem d_La_law_530 : decode code 530 = .ok (.iconst 3, 1) := by decide +kernel
theorem d_La_law_531 : decode code 531 = .ok (.iadd, 1) := by decide +kernel
theorem d_La_law_532 : decode code 532 = .ok (.iaload, 1) := by decide +kernel
theorem d_La_law_533 : decode code 533 = .ok (.invokevirtual 77, 3) := by decide +kernel
theorem d_La_law_536 : decode code 536 = .ok (.if_icmp .eq 187, 3) := by decide +kernel
theorem d_La_law_539 : decode code 539 = .ok (.iconst 0, 1) := by decide +kernel
theorem d_La_law_540 : decode code 540 = .ok (.ireturn, 1) := by decide +kernel
theorem d_La_law_541 : decode code 541 = .ok (.aload_n 1, 1) := by decide +kernel
theorem d_La_law_542 : decode code 542 = .ok (.aload_n 0, 1) := by decide +kernel
theorem d_La_law_543 : decode code 543 = .ok (.iload 4, 2) := by decide +kernel
theorem d_La_law_545 : decode code 545 = .ok (.iconst 1, 1) := by decide +kernel
theorem d_La_law_546 : decode code 546 = .ok (.iadd, 1) := by decide +kernel
theorem d_La_law_547 : decode code 547 = .ok (.iaload, 1) := by decide +kernel
theorem d_La_law_548 : decode code 548 = .ok (.aload_n 0, 1) := by decide +kernel
theorem d_La_law_549 : decode code 549 = .ok (.iload 4, 2) := by decide +kernel
theorem d_La_law_551 : decode code 551 = .ok (.iconst 2, 1) := by decide +kernel
theorem d_La_law_552 : decode code 552 = .ok (.iadd, 1) := by decide +kernel
theorem d_La_law_553 : decode code 553 = .ok (.iaload, 1) := by decide +kernel
theorem d_La_law_554 : decode code 554 = .ok (.invokevirtual 78, 3) := by decide +kernel
theorem d_La_law_557 : decode code 557 = .ok (.aload_n 2, 1) := by decide +kernel
theorem d_La_law_558 : decode code 558 = .ok (.aload_n 0, 1) := by decide +kernel
theorem d_La_law_559 : decode code 559 = .ok (.iload 4, 2) := by decide +kernel
theorem d_La_law_561 : decode code 561 = .ok (.iconst 1, 1) := by decide +kernel
theorem d_La_law_562 : decode code 562 = .ok (.iadd, 1) := by decide +kernel
theorem d_La_law_563 : decode code 563 = .ok (.iaload, 1) := by decide +kernel
theorem d_La_law_564 : decode code 564 = .ok (.aload_n 0, 1) := by decide +kernel
theorem d_La_law_565 : decode code 565 = .ok (.iload 4, 2) := by decide +kernel
theorem d_La_law_567 : decode code 567 = .ok (.iconst 2, 1) := by decide +kernel
theorem d_La_law_568 : decode code 568 = .ok (.iadd, 1) := by decide +kernel
theorem d_La_law_569 : decode code 569 = .ok (.iaload, 1) := by decide +kernel
theorem d_La_law_570 : decode code 570 = .ok (.invokevirtual 81, 3) := by decide +kernel
theorem d_La_law_573 : decode code 573 = .ok (.if_icmp .eq 150, 3) := by decide +kernel
theorem d_La_law_576 : decode code 576 = .ok (.iconst 0, 1) := by decide +kernel
theorem d_La_law_577 : decode code 577 = .ok (.ireturn, 1) := by decide +kernel
theorem d_La_law_578 : decode code 578 = .ok (.aload_n 1, 1) := by decide +kernel
theorem d_La_law_579 : decode code 579 = .ok (.aload_n 0, 1) := by decide +kernel
theorem d_La_law_580 : decode code 580 = .ok (.iload 4, 2) := by decide +kernel
theorem d_La_law_582 : decode code 582 = .ok (.iconst 1, 1) := by decide +kernel
theorem d_La_law_583 : decode code 583 = .ok (.iadd, 1) := by decide +kernel
theorem d_La_law_584 : decode code 584 = .ok (.iaload, 1) := by decide +kernel
theorem d_La_law_585 : decode code 585 = .ok (.aload_n 0, 1) := by decide +kernel
theorem d_La_law_586 : decode code 586 = .ok (.iload 4, 2) := by decide +kernel
theorem d_La_law_588 : decode code 588 = .ok (.iconst 2, 1) := by decide +kernel
theorem d_La_law_589 : decode code 589 = .ok (.iadd, 1) := by decide +kernel
theorem d_La_law_590 : decode code 590 = .ok (.iaload, 1) := by decide +kernel
theorem d_La_law_591 : decode code 591 = .ok (.ifCond .eq 7, 3) := by decide +kernel
theorem d_La_law_594 : decode code 594 = .ok (.iconst 1, 1) := by decide +kernel
theorem d_La_law_595 : decode code 595 = .ok (.goto 4, 3) := by decide +kernel
theorem d_La_law_598 : decode code 598 = .ok (.iconst 0, 1) := by decide +kernel
theorem d_La_law_599 : decode code 599 = .ok (.invokevirtual 82, 3) := by decide +kernel
theorem d_La_law_602 : decode code 602 = .ok (.aload_n 2, 1) := by decide +kernel
theorem d_La_law_603 : decode code 603 = .ok (.aload_n 0, 1) := by decide +kernel
theorem d_La_law_604 : decode code 604 = .ok (.iload 4, 2) := by decide +kernel
theorem d_La_law_606 : decode code 606 = .ok (.iconst 1, 1) := by decide +kernel
theorem d_La_law_607 : decode code 607 = .ok (.iadd, 1) := by decide +kernel
theorem d_La_law_608 : decode code 608 = .ok (.iaload, 1) := by decide +kernel
theorem d_La_law_609 : decode code 609 = .ok (.aload_n 0, 1) := by decide +kernel
theorem d_La_law_610 : decode code 610 = .ok (.iload 4, 2) := by decide +kernel
theorem d_La_law_612 : decode code 612 = .ok (.iconst 2, 1) := by decide +kernel
theorem d_La_law_613 : decode code 613 = .ok (.iadd, 1) := by decide +kernel
theorem d_La_law_614 : decode code 614 = .ok (.iaload, 1) := by decide +kernel
theorem d_La_law_615 : decode code 615 = .ok (.ifCond .eq 7, 3) := by decide +kernel
theorem d_La_law_618 : decode code 618 = .ok (.iconst 1, 1) := by decide +kernel
theorem d_La_law_619 : decode code 619 = .ok (.goto 4, 3) := by decide +kernel
theorem d_La_law_622 : decode code 622 = .ok (.iconst 0, 1) := by decide +kernel
theorem d_La_law_623 : decode code 623 = .ok (.invokevirtual 86, 3) := by decide +kernel
theorem d_La_law_626 : decode code 626 = .ok (.if_icmp .eq 97, 3) := by decide +kernel
theorem d_La_law_629 : decode code 629 = .ok (.iconst 0, 1) := by decide +kernel
theorem d_La_law_630 : decode code 630 = .ok (.ireturn, 1) := by decide +kernel
theorem d_La_law_631 : decode code 631 = .ok (.aload_n 1, 1) := by decide +kernel
theorem d_La_law_632 : decode code 632 = .ok (.aload_n 0, 1) := by decide +kernel
theorem d_La_law_633 : decode code 633 = .ok (.iload 4, 2) := by decide +kernel
theorem d_La_law_635 : decode code 635 = .ok (.iconst 1, 1) := by decide +kernel
theorem d_La_law_636 : decode code 636 = .ok (.iadd, 1) := by decide +kernel
theorem d_La_law_637 : decode code 637 = .ok (.iaload, 1) := by decide +kernel
theorem d_La_law_638 : decode code 638 = .ok (.aload_n 0, 1) := by decide +kernel
theorem d_La_law_639 : decode code 639 = .ok (.iload 4, 2) := by decide +kernel
theorem d_La_law_641 : decode code 641 = .ok (.iconst 2, 1) := by decide +kernel
theorem d_La_law_642 : decode code 642 = .ok (.iadd, 1) := by decide +kernel
theorem d_La_law_643 : decode code 643 = .ok (.iaload, 1) := by decide +kernel
theorem d_La_law_644 : decode code 644 = .ok (.aload_n 3, 1) := by decide +kernel
theorem d_La_law_645 : decode code 645 = .ok (.invokestatic 87, 3) := by decide +kernel
theorem d_La_law_648 : decode code 648 = .ok (.istore 5, 2) := by decide +kernel
theorem d_La_law_650 : decode code 650 = .ok (.aload_n 2, 1) := by decide +kernel
theorem d_La_law_651 : decode code 651 = .ok (.aload_n 0, 1) := by decide +kernel
theorem d_La_law_652 : decode code 652 = .ok (.iload 4, 2) := by decide +kernel
theorem d_La_law_654 : decode code 654 = .ok (.iconst 1, 1) := by decide +kernel
theorem d_La_law_655 : decode code 655 = .ok (.iadd, 1) := by decide +kernel
theorem d_La_law_656 : decode code 656 = .ok (.iaload, 1) := by decide +kernel
theorem d_La_law_657 : decode code 657 = .ok (.aload_n 0, 1) := by decide +kernel
theorem d_La_law_658 : decode code 658 = .ok (.iload 4, 2) := by decide +kernel
theorem d_La_law_660 : decode code 660 = .ok (.iconst 2, 1) := by decide +kernel
theorem d_La_law_661 : decode code 661 = .ok (.iadd, 1) := by decide +kernel
theorem d_La_law_662 : decode code 662 = .ok (.iaload, 1) := by decide +kernel
theorem d_La_law_663 : decode code 663 = .ok (.invokevirtual 92, 3) := by decide +kernel
theorem d_La_law_666 : decode code 666 = .ok (.lstore 6, 2) := by decide +kernel
theorem d_La_law_668 : decode code 668 = .ok (.aload_n 2, 1) := by decide +kernel
theorem d_La_law_669 : decode code 669 = .ok (.invokevirtual 93, 3) := by decide +kernel
theorem d_La_law_672 : decode code 672 = .ok (.iload 5, 2) := by decide +kernel
theorem d_La_law_674 : decode code 674 = .ok (.if_icmp .eq 5, 3) := by decide +kernel
theorem d_La_law_677 : decode code 677 = .ok (.iconst 0, 1) := by decide +kernel
theorem d_La_law_678 : decode code 678 = .ok (.ireturn, 1) := by decide +kernel
theorem d_La_law_679 : decode code 679 = .ok (.iload 5, 2) := by decide +kernel
theorem d_La_law_681 : decode code 681 = .ok (.ifCond .ne 14, 3) := by decide +kernel
theorem d_La_law_684 : decode code 684 = .ok (.aload_n 3, 1) := by decide +kernel
theorem d_La_law_685 : decode code 685 = .ok (.iconst 0, 1) := by decide +kernel
theorem d_La_law_686 : decode code 686 = .ok (.laload, 1) := by decide +kernel
theorem d_La_law_687 : decode code 687 = .ok (.lload 6, 2) := by decide +kernel
theorem d_La_law_689 : decode code 689 = .ok (.lcmp, 1) := by decide +kernel
theorem d_La_law_690 : decode code 690 = .ok (.ifCond .eq 5, 3) := by decide +kernel
theorem d_La_law_693 : decode code 693 = .ok (.iconst 0, 1) := by decide +kernel
theorem d_La_law_694 : decode code 694 = .ok (.ireturn, 1) := by decide +kernel
theorem d_La_law_695 : decode code 695 = .ok (.goto 28, 3) := by decide +kernel
theorem d_La_law_698 : decode code 698 = .ok (.aload_n 1, 1) := by decide +kernel
theorem d_La_law_699 : decode code 699 = .ok (.aload_n 0, 1) := by decide +kernel
theorem d_La_law_700 : decode code 700 = .ok (.iload 4, 2) := by decide +kernel
theorem d_La_law_702 : decode code 702 = .ok (.iconst 1, 1) := by decide +kernel
theorem d_La_law_703 : decode code 703 = .ok (.iadd, 1) := by decide +kernel
theorem d_La_law_704 : decode code 704 = .ok (.iaload, 1) := by decide +kernel
theorem d_La_law_705 : decode code 705 = .ok (.invokevirtual 96, 3) := by decide +kernel
theorem d_La_law_708 : decode code 708 = .ok (.aload_n 2, 1) := by decide +kernel
theorem d_La_law_709 : decode code 709 = .ok (.aload_n 0, 1) := by decide +kernel
theorem d_La_law_710 : decode code 710 = .ok (.iload 4, 2) := by decide +kernel
theorem d_La_law_712 : decode code 712 = .ok (.iconst 1, 1) := by decide +kernel
theorem d_La_law_713 : decode code 713 = .ok (.iadd, 1) := by decide +kernel
theorem d_La_law_714 : decode code 714 = .ok (.iaload, 1) := by decide +kernel
theorem d_La_law_715 : decode code 715 = .ok (.invokevirtual 99, 3) := by decide +kernel
theorem d_La_law_718 : decode code 718 = .ok (.if_icmp .eq 5, 3) := by decide +kernel
theorem d_La_law_721 : decode code 721 = .ok (.iconst 0, 1) := by decide +kernel
theorem d_La_law_722 : decode code 722 = .ok (.ireturn, 1) := by decide +kernel
theorem d_La_law_723 : decode code 723 = .ok (.iinc 4 4, 3) := by decide +kernel
theorem d_La_law_726 : decode code 726 = .ok (.goto (-703), 3) := by decide +kernel
theorem d_La_law_729 : decode code 729 = .ok (.iconst 1, 1) := by decide +kernel
theorem d_La_law_730 : decode code 730 = .ok (.ireturn, 1) := by decide +kernel
end
section
/-! numbers: an int is J z, z an Int in range -/
def J (z : Int) : Int32 := Int32.ofInt z
abbrev rg (z : Int) : Prop := -2147483648 ≤ z ∧ z ≤ 2147483647
theorem J_toInt {z : Int} (h : rg z) : (J z).toInt = z := Int32.toInt_ofInt_of_le (by have := h.1; omega) (by have := h.2; omega)
theorem J_of (x : Int32) : J x.toInt = x := Int32.ofInt_toInt x
theorem J_rg (x : Int32) : rg x.toInt := ⟨by have := x.le_toInt; omega, by have := x.toInt_lt; omega⟩
theorem J_ex (x : Int32) : ∃ z : Int, rg z ∧ x = J z := ⟨x.toInt, J_rg x, (J_of x).symm⟩
theorem J_add (a b : Int) : J a + J b = J (a + b) := (Int32.ofInt_add a b).symm
theorem J_sub (a b : Int) : J a - J b = J (a - b) := (Int32.ofInt_sub a b).symm
theorem J_mul (a b : Int) : J a * J b = J (a * b) := (Int32.ofInt_mul a b).symm
theorem J_eq {a b : Int} (ha : rg a) (hb : rg b) : J a = J b ↔ a = b := ⟨fun h => by rw [← J_toInt ha, ← J_toInt hb, h], fun h => by rw [h]⟩
theorem J_le {a b : Int} (ha : rg a) (hb : rg b) : J a ≤ J b ↔ a ≤ b := by rw [Int32.le_iff_toInt_le, J_toInt ha, J_toInt hb]
theorem J_lt {a b : Int} (ha : rg a) (hb : rg b) : J a < J b ↔ a < b := by rw [Int32.lt_iff_toInt_lt, J_toInt ha, J_toInt hb]
theorem J_0 : (0 : Int32) = J 0 := by decide
theorem J_nat (n : Nat) : J (n : Int) = nI n := Int32.ofInt_eq_ofNat
theorem J_cl {n : Nat} (h : n < 2147483648) : (J (n : Int)).toNatClampNeg = n := by rw [J_nat]; exact nI_clamp h
theorem J_in {n N : Nat} (h : n < N) (hN : N < 2147483648) : vp_in (J (n : Int)) N := by rw [J_nat]; exact vp_in_nI h hN
theorem J_div {a d : Int} (ha : 0 ≤ a) (ha2 : rg a) (hd : 0 < d) (hd2 : rg d) : J a / J d = J (a / d) := by
  obtain ⟨n, rfl⟩ : ∃ n : Nat, a = n := ⟨a.toNat, by omega⟩
  obtain ⟨k, rfl⟩ : ∃ k : Nat, d = k := ⟨d.toNat, by omega⟩
  have h1 := ha2.2
  have h2 := hd2.2
  rw [J_nat, J_nat, pk_div (by omega) (by omega) (by omega), ← J_nat]
  rfl
theorem J_rem {a d : Int} (ha : 0 ≤ a) (ha2 : rg a) (hd : 0 < d) (hd2 : rg d) : J a - J a / J d * J d = J (a % d) := by
  obtain ⟨n, rfl⟩ : ∃ n : Nat, a = n := ⟨a.toNat, by omega⟩
  obtain ⟨k, rfl⟩ : ∃ k : Nat, d = k := ⟨d.toNat, by omega⟩
  have h1 := ha2.2
  have h2 := hd2.2
  rw [J_nat, J_nat, pk_rem (by omega) (by omega) (by omega), ← J_nat]
  rfl
/-- an answer of a test -/
def b2 (q : Prop) [Decidable q] : Int := if q then 1 else 0
theorem b2_t {q : Prop} [Decidable q] (h : q) : b2 q = 1 := if_pos h
theorem b2_f {q : Prop} [Decidable q] (h : ¬ q) : b2 q = 0 := if_neg h
theorem b2_rg {q : Prop} [Decidable q] : 0 ≤ b2 q ∧ b2 q ≤ 1 := by
  by_cases h : q
  · rw [b2_t h]; omega
  · rw [b2_f h]; omega
theorem b2_0 {q : Prop} [Decidable q] : b2 q = 0 ↔ ¬ q := by
  by_cases h : q
  · rw [b2_t h]; simp [h]
  · rw [b2_f h]; simp [h]
theorem b2_n0 {q : Prop} [Decidable q] : ¬ b2 q = 0 ↔ q := by
  by_cases h : q
  · rw [b2_t h]; simp [h]
  · rw [b2_f h]; simp [h]
theorem rg_b2 {q : Prop} [Decidable q] : rg (b2 q) := by
  have := b2_rg (q := q)
  omega
/-- arrays of ints -/
def iu (g : Nat → Int) (k : Nat) (v : Int) : Nat → Int := fun j => if j = k then v else g j
theorem iu_s (g : Nat → Int) (k : Nat) (v : Int) : iu g k v k = v := if_pos rfl
theorem iu_n (g : Nat → Int) {k j : Nat} (v : Int) (h : j ≠ k) : iu g k v j = g j := if_neg h
def ar (g : Nat → Int) : Nat → Int32 := fun j => J (g j)
theorem ar_up (g : Nat → Int) (k : Nat) (v : Int) : upd (ar g) k (J v) = ar (iu g k v) := by
  funext j
  by_cases h : j = k
  · simp [upd, ar, iu, h]
  · simp [upd, ar, iu, h]
abbrev ca (cI : ClassId) (n : Nat) (g : Nat → Int) : va_E := .inl (cI, n, .inl (ar g))
section LB
variable {p : Program} {l : Launch} {e : Env} {R : Room} {s : State} {m : MethodId} {args : Array Value} {below : List Frame} {meth : Method} {c : Code} {H : Heap} {locs : List Loc} {cells slots : Nat} {Q : State → Prop}
variable {cc : ByteArray} {pc : Nat} {ls : Array Slot} {rest : List Value} {D : va_G} {cl : List vw_C} {A : Nat → Prop} {a : Nat} {tys : List (ClassId × FieldType)} {ws : va_W} {H0 : Heap}
theorem tp_i {x y : Int32} (h : x = y) (k : W p l e R s m args below meth c H locs cells slots Q (F0 m pc ls (.int y :: rest))) : W p l e R s m args below meth c H locs cells slots Q (F0 m pc ls (.int x :: rest)) := h ▸ k
theorem tp_J {x y : Int} (h : x = y) (k : W p l e R s m args below meth c H locs cells slots Q (F0 m pc ls (.int (J y) :: rest))) : W p l e R s m args below meth c H locs cells slots Q (F0 m pc ls (.int (J x) :: rest)) := h ▸ k
theorem w_iadd (hexec : p.tables.exec = Jvm.exec) (hb : c.code = cc) {x y : Int} (hdg : decode cc pc = .ok (.iadd, 1)) (z : Int) (hz : x + y = z)
    (k : W p l e R s m args below meth c H locs cells slots Q (F0 m (pc + 1) ls (.int (J z) :: rest))) : W p l e R s m args below meth c H locs cells slots Q (F0 m pc ls (.int (J y) :: .int (J x) :: rest)) :=
  lv_iadd hexec hb hdg (tp_i ((J_add x y).trans (by rw [hz])) k)
theorem w_isub (hexec : p.tables.exec = Jvm.exec) (hb : c.code = cc) {x y : Int} (hdg : decode cc pc = .ok (.isub, 1)) (z : Int) (hz : x - y = z)
    (k : W p l e R s m args below meth c H locs cells slots Q (F0 m (pc + 1) ls (.int (J z) :: rest))) : W p l e R s m args below meth c H locs cells slots Q (F0 m pc ls (.int (J y) :: .int (J x) :: rest)) :=
  lv_isub hexec hb hdg (tp_i ((J_sub x y).trans (by rw [hz])) k)
theorem w_imul (hexec : p.tables.exec = Jvm.exec) (hb : c.code = cc) {x y : Int} (hdg : decode cc pc = .ok (.imul, 1)) (z : Int) (hz : x * y = z)
    (k : W p l e R s m args below meth c H locs cells slots Q (F0 m (pc + 1) ls (.int (J z) :: rest))) : W p l e R s m args below meth c H locs cells slots Q (F0 m pc ls (.int (J y) :: .int (J x) :: rest)) :=
  lv_imul hexec hb hdg (tp_i ((J_mul x y).trans (by rw [hz])) k)
theorem w_idiv (hexec : p.tables.exec = Jvm.exec) (hb : c.code = cc) {x y : Int} (hdg : decode cc pc = .ok (.idiv, 1)) (h1 : 0 ≤ x) (h2 : rg x) (h3 : 0 < y) (h4 : rg y) (z : Int) (hz : x / y = z)
    (k : W p l e R s m args below meth c H locs cells slots Q (F0 m (pc + 1) ls (.int (J z) :: rest))) : W p l e R s m args below meth c H locs cells slots Q (F0 m pc ls (.int (J y) :: .int (J x) :: rest)) :=
  lv_idiv hexec hb hdg (fun h => by rw [J_0, J_eq h4 (by constructor <;> omega)] at h; omega) (tp_i ((J_div h1 h2 h3 h4).trans (by rw [hz])) k)
theorem w_irem (hexec : p.tables.exec = Jvm.exec) (hb : c.code = cc) {x y : Int} (hdg : decode cc pc = .ok (.irem, 1)) (h1 : 0 ≤ x) (h2 : rg x) (h3 : 0 < y) (h4 : rg y) (z : Int) (hz : x % y = z)
    (k : W p l e R s m args below meth c H locs cells slots Q (F0 m (pc + 1) ls (.int (J z) :: rest))) : W p l e R s m args below meth c H locs cells slots Q (F0 m pc ls (.int (J y) :: .int (J x) :: rest)) :=
  lv_irem hexec hb hdg (fun h => by rw [J_0, J_eq h4 (by constructor <;> omega)] at h; omega) (tp_i ((J_rem h1 h2 h3 h4).trans (by rw [hz])) k)
theorem w_iinc (hexec : p.tables.exec = Jvm.exec) (hb : c.code = cc) {i nL k : Nat} {n x : Int} {lv lv' : List (Nat × Value)} (hdg : decode cc pc = .ok (.iinc i n, 3)) (h : lv_has ls nL lv) (hk : lv[k]? = some (i, .int (J x))) (z : Int) (hz : x + n = z) (hn : i < nL) (hl : (i, Value.int (J z)) :: lv.filter (fun q => !(q.1 == i) && !(q.1 + 1 == i && q.2.category == 2)) = lv')
    (kk : ∀ ls' : Array Slot, lv_has ls' nL lv' → W p l e R s m args below meth c H locs cells slots Q (F0 m (pc + 3) ls' rest)) : W p l e R s m args below meth c H locs cells slots Q (F0 m pc ls rest) :=
  lv_iinc (v := J z) hexec hb hdg h hk (by rw [← hz]; exact J_add x n) hn hl kk
theorem w_if_eq (hexec : p.tables.exec = Jvm.exec) (hb : c.code = cc) {x : Int} {off : Int} {tgt : Nat} (hdg : decode cc pc = .ok (.ifCond .eq off, 3)) (ht : (pc : Int) + off = (tgt : Int)) (hr : rg x)
    (kt : x = 0 → W p l e R s m args below meth c H locs cells slots Q (F0 m tgt ls rest)) (kf : ¬ x = 0 → W p l e R s m args below meth c H locs cells slots Q (F0 m (pc + 3) ls rest)) : W p l e R s m args below meth c H locs cells slots Q (F0 m pc ls (.int (J x) :: rest)) :=
  have e0 : J x = 0 ↔ x = 0 := by rw [J_0]; exact J_eq hr (by constructor <;> omega)
  lv_if_eq hexec hb hdg ht (fun h => kt (e0.mp h)) (fun h => kf (fun q => h (e0.mpr q)))
theorem w_if_ne (hexec : p.tables.exec = Jvm.exec) (hb : c.code = cc) {x : Int} {off : Int} {tgt : Nat} (hdg : decode cc pc = .ok (.ifCond .ne off, 3)) (ht : (pc : Int) + off = (tgt : Int)) (hr : rg x)
    (kt : ¬ x = 0 → W p l e R s m args below meth c H locs cells slots Q (F0 m tgt ls rest)) (kf : x = 0 → W p l e R s m args below meth c H locs cells slots Q (F0 m (pc + 3) ls rest)) : W p l e R s m args below meth c H locs cells slots Q (F0 m pc ls (.int (J x) :: rest)) :=
  have e0 : J x = 0 ↔ x = 0 := by rw [J_0]; exact J_eq hr (by constructor <;> omega)
  lv_if_ne hexec hb hdg ht (fun h => kt (fun q => h (e0.mpr q))) (fun h => kf (e0.mp h))
theorem w_if_lt (hexec : p.tables.exec = Jvm.exec) (hb : c.code = cc) {x : Int} {off : Int} {tgt : Nat} (hdg : decode cc pc = .ok (.ifCond .lt off, 3)) (ht : (pc : Int) + off = (tgt : Int)) (hr : rg x)
    (kt : x < 0 → W p l e R s m args below meth c H locs cells slots Q (F0 m tgt ls rest)) (kf : 0 ≤ x → W p l e R s m args below meth c H locs cells slots Q (F0 m (pc + 3) ls rest)) : W p l e R s m args below meth c H locs cells slots Q (F0 m pc ls (.int (J x) :: rest)) :=
  have e0 : J x < 0 ↔ x < 0 := by rw [J_0]; exact J_lt hr (by constructor <;> omega)
  lv_if_lt hexec hb hdg ht (fun h => kt (e0.mp h)) (fun h => kf (Int.not_lt.mp (fun q => h (e0.mpr q))))
theorem w_if_ge (hexec : p.tables.exec = Jvm.exec) (hb : c.code = cc) {x : Int} {off : Int} {tgt : Nat} (hdg : decode cc pc = .ok (.ifCond .ge off, 3)) (ht : (pc : Int) + off = (tgt : Int)) (hr : rg x)
    (kt : 0 ≤ x → W p l e R s m args below meth c H locs cells slots Q (F0 m tgt ls rest)) (kf : x < 0 → W p l e R s m args below meth c H locs cells slots Q (F0 m (pc + 3) ls rest)) : W p l e R s m args below meth c H locs cells slots Q (F0 m pc ls (.int (J x) :: rest)) :=
  have e0 : 0 ≤ J x ↔ 0 ≤ x := by rw [J_0]; exact J_le (by constructor <;> omega) hr
  lv_if_ge hexec hb hdg ht (fun h => kt (e0.mp h)) (fun h => kf (Int.not_le.mp (fun q => h (e0.mpr q))))
theorem w_if_gt (hexec : p.tables.exec = Jvm.exec) (hb : c.code = cc) {x : Int} {off : Int} {tgt : Nat} (hdg : decode cc pc = .ok (.ifCond .gt off, 3)) (ht : (pc : Int) + off = (tgt : Int)) (hr : rg x)
    (kt : 0 < x → W p l e R s m args below meth c H locs cells slots Q (F0 m tgt ls rest)) (kf : x ≤ 0 → W p l e R s m args below meth c H locs cells slots Q (F0 m (pc + 3) ls rest)) : W p l e R s m args below meth c H locs cells slots Q (F0 m pc ls (.int (J x) :: rest)) :=
  have e0 : 0 < J x ↔ 0 < x := by rw [J_0]; exact J_lt (by constructor <;> omega) hr
  lv_if_gt hexec hb hdg ht (fun h => kt (e0.mp h)) (fun h => kf (Int.not_lt.mp (fun q => h (e0.mpr q))))
theorem w_if_le (hexec : p.tables.exec = Jvm.exec) (hb : c.code = cc) {x : Int} {off : Int} {tgt : Nat} (hdg : decode cc pc = .ok (.ifCond .le off, 3)) (ht : (pc : Int) + off = (tgt : Int)) (hr : rg x)
    (kt : x ≤ 0 → W p l e R s m args below meth c H locs cells slots Q (F0 m tgt ls rest)) (kf : 0 < x → W p l e R s m args below meth c H locs cells slots Q (F0 m (pc + 3) ls rest)) : W p l e R s m args below meth c H locs cells slots Q (F0 m pc ls (.int (J x) :: rest)) :=
  have e0 : J x ≤ 0 ↔ x ≤ 0 := by rw [J_0]; exact J_le hr (by constructor <;> omega)
  lv_if_le hexec hb hdg ht (fun h => kt (e0.mp h)) (fun h => kf (Int.not_le.mp (fun q => h (e0.mpr q))))
theorem w_icmp_eq (hexec : p.tables.exec = Jvm.exec) (hb : c.code = cc) {x y : Int} {off : Int} {tgt : Nat} (hdg : decode cc pc = .ok (.if_icmp .eq off, 3)) (ht : (pc : Int) + off = (tgt : Int)) (hr : rg x) (hs : rg y)
    (kt : x = y → W p l e R s m args below meth c H locs cells slots Q (F0 m tgt ls rest)) (kf : ¬ x = y → W p l e R s m args below meth c H locs cells slots Q (F0 m (pc + 3) ls rest)) : W p l e R s m args below meth c H locs cells slots Q (F0 m pc ls (.int (J y) :: .int (J x) :: rest)) :=
  lv_icmp_eq hexec hb hdg ht (fun h => kt ((J_eq hr hs).mp h)) (fun h => kf (fun q => h ((J_eq hr hs).mpr q)))
theorem w_icmp_ne (hexec : p.tables.exec = Jvm.exec) (hb : c.code = cc) {x y : Int} {off : Int} {tgt : Nat} (hdg : decode cc pc = .ok (.if_icmp .ne off, 3)) (ht : (pc : Int) + off = (tgt : Int)) (hr : rg x) (hs : rg y)
    (kt : ¬ x = y → W p l e R s m args below meth c H locs cells slots Q (F0 m tgt ls rest)) (kf : x = y → W p l e R s m args below meth c H locs cells slots Q (F0 m (pc + 3) ls rest)) : W p l e R s m args below meth c H locs cells slots Q (F0 m pc ls (.int (J y) :: .int (J x) :: rest)) :=
  lv_icmp_ne hexec hb hdg ht (fun h => kt (fun q => h ((J_eq hr hs).mpr q))) (fun h => kf ((J_eq hr hs).mp h))
theorem w_icmp_lt (hexec : p.tables.exec = Jvm.exec) (hb : c.code = cc) {x y : Int} {off : Int} {tgt : Nat} (hdg : decode cc pc = .ok (.if_icmp .lt off, 3)) (ht : (pc : Int) + off = (tgt : Int)) (hr : rg x) (hs : rg y)
    (kt : x < y → W p l e R s m args below meth c H locs cells slots Q (F0 m tgt ls rest)) (kf : y ≤ x → W p l e R s m args below meth c H locs cells slots Q (F0 m (pc + 3) ls rest)) : W p l e R s m args below meth c H locs cells slots Q (F0 m pc ls (.int (J y) :: .int (J x) :: rest)) :=
  lv_icmp_lt hexec hb hdg ht (fun h => kt ((J_lt hr hs).mp h)) (fun h => kf (Int.not_lt.mp (fun q => h ((J_lt hr hs).mpr q))))
theorem w_icmp_ge (hexec : p.tables.exec = Jvm.exec) (hb : c.code = cc) {x y : Int} {off : Int} {tgt : Nat} (hdg : decode cc pc = .ok (.if_icmp .ge off, 3)) (ht : (pc : Int) + off = (tgt : Int)) (hr : rg x) (hs : rg y)
    (kt : y ≤ x → W p l e R s m args below meth c H locs cells slots Q (F0 m tgt ls rest)) (kf : x < y → W p l e R s m args below meth c H locs cells slots Q (F0 m (pc + 3) ls rest)) : W p l e R s m args below meth c H locs cells slots Q (F0 m pc ls (.int (J y) :: .int (J x) :: rest)) :=
  lv_icmp_ge hexec hb hdg ht (fun h => kt ((J_le hs hr).mp h)) (fun h => kf (Int.not_le.mp (fun q => h ((J_le hs hr).mpr q))))
theorem w_icmp_gt (hexec : p.tables.exec = Jvm.exec) (hb : c.code = cc) {x y : Int} {off : Int} {tgt : Nat} (hdg : decode cc pc = .ok (.if_icmp .gt off, 3)) (ht : (pc : Int) + off = (tgt : Int)) (hr : rg x) (hs : rg y)
    (kt : y < x → W p l e R s m args below meth c H locs cells slots Q (F0 m tgt ls rest)) (kf : x ≤ y → W p l e R s m args below meth c H locs cells slots Q (F0 m (pc + 3) ls rest)) : W p l e R s m args below meth c H locs cells slots Q (F0 m pc ls (.int (J y) :: .int (J x) :: rest)) :=
  lv_icmp_gt hexec hb hdg ht (fun h => kt ((J_lt hs hr).mp h)) (fun h => kf (Int.not_lt.mp (fun q => h ((J_lt hs hr).mpr q))))
theorem w_icmp_le (hexec : p.tables.exec = Jvm.exec) (hb : c.code = cc) {x y : Int} {off : Int} {tgt : Nat} (hdg : decode cc pc = .ok (.if_icmp .le off, 3)) (ht : (pc : Int) + off = (tgt : Int)) (hr : rg x) (hs : rg y)
    (kt : x ≤ y → W p l e R s m args below meth c H locs cells slots Q (F0 m tgt ls rest)) (kf : y < x → W p l e R s m args below meth c H locs cells slots Q (F0 m (pc + 3) ls rest)) : W p l e R s m args below meth c H locs cells slots Q (F0 m pc ls (.int (J y) :: .int (J x) :: rest)) :=
  lv_icmp_le hexec hb hdg ht (fun h => kt ((J_le hr hs).mp h)) (fun h => kf (Int.not_le.mp (fun q => h ((J_le hr hs).mpr q))))
theorem w_iald (hexec : p.tables.exec = Jvm.exec) (hb : c.code = cc) (hK : va_K D cl tys s) (hP : va_P D cl ws H) (q0 t0 : Nat) {cA : ClassId} {n : Nat} {g : Nat → Int} (ha : ws[q0]? = some (a, ca cA n g)) (ht : tys[t0]? = some (cA, .int)) (k : Nat) {z : Int} (hz : z = (k : Int)) (hk : k < n) (hn : n < 2147483648) (hdg : decode cc pc = .ok (.iaload, 1))
    (kk : W p l e R s m args below meth c H locs cells slots Q (F0 m (pc + 1) ls (.int (J (g k)) :: rest))) : W p l e R s m args below meth c H locs cells slots Q (F0 m pc ls (.int (J z) :: .ref a :: rest)) := by
  subst hz
  refine va_iald hexec hb hK hP q0 t0 ha ht (J_in hk hn) hdg ?_
  rw [J_cl (by omega)]
  exact kk
theorem w_zald (hexec : p.tables.exec = Jvm.exec) (hb : c.code = cc) (hK : va_K D cl tys s) (hP : va_P D cl ws H) (q0 t0 : Nat) {cA : ClassId} {n : Nat} {g : Nat → Int} (ha : ws[q0]? = some (a, ca cA n g)) (ht : tys[t0]? = some (cA, .boolean)) (k : Nat) {z : Int} (hz : z = (k : Int)) (hk : k < n) (hn : n < 2147483648) (hdg : decode cc pc = .ok (.baload, 1))
    (kk : W p l e R s m args below meth c H locs cells slots Q (F0 m (pc + 1) ls (.int (J (g k)) :: rest))) : W p l e R s m args below meth c H locs cells slots Q (F0 m pc ls (.int (J z) :: .ref a :: rest)) := by
  subst hz
  refine va_zald hexec hb hK hP q0 t0 ha ht (J_in hk hn) hdg ?_
  rw [J_cl (by omega)]
  exact kk
theorem w_iast (hexec : p.tables.exec = Jvm.exec) (hb : c.code = cc) (hK : va_K D cl tys s) (hP : va_P D cl ws H) (hD : va_D A ws) (hS : va_S A H0 H locs) (q0 t0 : Nat) {cA : ClassId} {n : Nat} {g : Nat → Int} (ha : ws[q0]? = some (a, ca cA n g)) (ht : tys[t0]? = some (cA, .int)) (k : Nat) {z v : Int} (hz : z = (k : Int)) (hk : k < n) (hn : n < 2147483648) (hdg : decode cc pc = .ok (.iastore, 1))
    (kk : ∀ (H1 : Heap) (locs1 : List Loc), va_P D cl (ws.set q0 (a, ca cA n (iu g k v))) H1 → va_D A (ws.set q0 (a, ca cA n (iu g k v))) → va_S A H0 H1 locs1 → W p l e R s m args below meth c H1 locs1 cells slots Q (F0 m (pc + 1) ls rest)) : W p l e R s m args below meth c H locs cells slots Q (F0 m pc ls (.int (J v) :: .int (J z) :: .ref a :: rest)) := by
  subst hz
  refine va_iast hexec hb hK hP hD hS q0 t0 ha ht (J_in hk hn) hdg (fun H1 locs1 hP1 hD1 hS1 => ?_)
  rw [J_cl (by omega), ar_up] at hP1 hD1
  exact kk H1 locs1 hP1 hD1 hS1
theorem w_zast (hexec : p.tables.exec = Jvm.exec) (hb : c.code = cc) (hK : va_K D cl tys s) (hP : va_P D cl ws H) (hD : va_D A ws) (hS : va_S A H0 H locs) (q0 t0 : Nat) {cA : ClassId} {n : Nat} {g : Nat → Int} (ha : ws[q0]? = some (a, ca cA n g)) (ht : tys[t0]? = some (cA, .boolean)) (k : Nat) {z v : Int} (hz : z = (k : Int)) (hk : k < n) (hn : n < 2147483648) (hv : v = 0 ∨ v = 1) (hdg : decode cc pc = .ok (.bastore, 1))
    (kk : ∀ (H1 : Heap) (locs1 : List Loc), va_P D cl (ws.set q0 (a, ca cA n (iu g k v))) H1 → va_D A (ws.set q0 (a, ca cA n (iu g k v))) → va_S A H0 H1 locs1 → W p l e R s m args below meth c H1 locs1 cells slots Q (F0 m (pc + 1) ls rest)) : W p l e R s m args below meth c H locs cells slots Q (F0 m pc ls (.int (J v) :: .int (J z) :: .ref a :: rest)) := by
  subst hz
  have hb1 : vp_nar .boolean (J v) = J v := by rcases hv with rfl | rfl <;> decide
  refine va_zast hexec hb hK hP hD hS q0 t0 ha ht (J_in hk hn) hdg (fun H1 locs1 hP1 hD1 hS1 => ?_)
  rw [J_cl (by omega), hb1, ar_up] at hP1 hD1
  exact kk H1 locs1 hP1 hD1 hS1
/-- a new array of ints (all 0), its class being the one that the tables name -/
theorem w_newi (hexec : p.tables.exec = Jvm.exec) (hb : c.code = cc) (harr : (Cond.arrayClass .int).before args s = true) (hK : va_K D cl tys s) (hP : va_P D cl ws H) (hD : va_D A ws) (hS : va_S A H0 H locs) (hA : ∀ q, H0.size ≤ q → A q) (t0 : Nat) {cI : ClassId} (ht : tys[t0]? = some (cI, .int)) {atype : ArrayType} (hty : newarray.typeOf atype = .int)
    (N : Nat) {z : Int} (hz : z = (N : Int)) (hN : N ≤ 100000) (hcells : cells + 1 ≤ R.cells) (hslots : slots + N ≤ R.slots) (hdg : decode cc pc = .ok (.newarray atype, 2))
    (kk : ∀ (q : Nat) (H1 : Heap), va_P D cl (ws ++ [(q, ca cI N (fun _ => 0))]) H1 → va_D A (ws ++ [(q, ca cI N (fun _ => 0))]) → va_S A H0 H1 locs →
      W p l e R s m args below meth c H1 locs (cells + 1) (slots + N) Q (F0 m (pc + 2) ls (.ref q :: rest))) : W p l e R s m args below meth c H locs cells slots Q (F0 m pc ls (.int (J z) :: rest)) := by
  subst hz
  refine va_newa (ty := .int) (N' := N) (a0 := (N, .inl (ar (fun _ => 0)))) hexec hb (by rw [hty]; exact harr) hty hK hP hD hS hA (fun cA => ?_) ?_ (J_cl (by omega)) ?_ hcells hslots hdg (fun q cA H1 hK1 hP1 hD1 hS1 => ?_)
  · show arrV cA N (fun _ => Value.int (J 0)) = _
    rw [← J_0]
    rfl
  · rw [J_nat]; exact nI_pos (by omega)
  · show N * 4 ≤ 536870912
    omega
  · have h1 := (hK1.2 tys.length (cA, .int) (by simp)).2
    have h2 := (hK.2 t0 _ ht).2
    have h3 : s.vm.findClass ("[" ++ FieldType.int.toString) = some cA := h1
    have h4 : s.vm.findClass ("[" ++ FieldType.int.toString) = some cI := h2
    have : cA = cI := Option.some.inj (h3.symm.trans h4)
    subst this
    exact kk q H1 hP1 hD1 hS1
theorem w_newz (hexec : p.tables.exec = Jvm.exec) (hb : c.code = cc) (harr : (Cond.arrayClass .boolean).before args s = true) (hK : va_K D cl tys s) (hP : va_P D cl ws H) (hD : va_D A ws) (hS : va_S A H0 H locs) (hA : ∀ q, H0.size ≤ q → A q) (t0 : Nat) {cI : ClassId} (ht : tys[t0]? = some (cI, .boolean)) {atype : ArrayType} (hty : newarray.typeOf atype = .boolean)
    (N : Nat) {z : Int} (hz : z = (N : Int)) (hN : N ≤ 100000) (hcells : cells + 1 ≤ R.cells) (hslots : slots + N ≤ R.slots) (hdg : decode cc pc = .ok (.newarray atype, 2))
    (kk : ∀ (q : Nat) (H1 : Heap), va_P D cl (ws ++ [(q, ca cI N (fun _ => 0))]) H1 → va_D A (ws ++ [(q, ca cI N (fun _ => 0))]) → va_S A H0 H1 locs →
      W p l e R s m args below meth c H1 locs (cells + 1) (slots + N) Q (F0 m (pc + 2) ls (.ref q :: rest))) : W p l e R s m args below meth c H locs cells slots Q (F0 m pc ls (.int (J z) :: rest)) := by
  subst hz
  refine va_newa (ty := .boolean) (N' := N) (a0 := (N, .inl (ar (fun _ => 0)))) hexec hb (by rw [hty]; exact harr) hty hK hP hD hS hA (fun cA => ?_) ?_ (J_cl (by omega)) ?_ hcells hslots hdg (fun q cA H1 hK1 hP1 hD1 hS1 => ?_)
  · show arrV cA N (fun _ => Value.int (J 0)) = _
    rw [← J_0]
    rfl
  · rw [J_nat]; exact nI_pos (by omega)
  · show N * 1 ≤ 536870912
    omega
  · have h1 := (hK1.2 tys.length (cA, .boolean) (by simp)).2
    have h2 := (hK.2 t0 _ ht).2
    have h3 : s.vm.findClass ("[" ++ FieldType.boolean.toString) = some cA := h1
    have h4 : s.vm.findClass ("[" ++ FieldType.boolean.toString) = some cI := h2
    have : cA = cI := Option.some.inj (h3.symm.trans h4)
    subst this
    exact kk q H1 hP1 hD1 hS1
theorem J_min {x y : Int} (hx : rg x) (hy : rg y) : (if J y < J x then J y else J x) = J (min x y) := by
  by_cases h : y < x
  · rw [if_pos ((J_lt hy hx).mpr h), show min x y = y by omega]
  · rw [if_neg (fun q => h ((J_lt hy hx).mp q)), show min x y = x by omega]
theorem J_max {x y : Int} (hx : rg x) (hy : rg y) : (if J x < J y then J y else J x) = J (max x y) := by
  by_cases h : x < y
  · rw [if_pos ((J_lt hx hy).mpr h), show max x y = y by omega]
  · rw [if_neg (fun q => h ((J_lt hx hy).mp q)), show max x y = x by omega]
theorem w_mmin (hexec : p.tables.exec = Jvm.exec) (hb : c.code = cc) (hml : c.maxLocals = ls.size) {own : String} {index : Nat} (hown : s.vm.findClass own = some m.cls) (hlink : (Cond.methodLink own index Lib.Math.min.name).before args s = true) (hstat : (Cond.static Lib.Math.min.name).before args s = true) (hini : (Cond.initialized "java/lang/Math").before args s = true) (hcode : (Cond.code Lib.Math.min.name Lib.Math.min.code 2 (some .int)).before args s = true)
    (hframes : 1 ≤ R.frames) (hlocals : (rest.map fun v => v.category).sum + 13 ≤ R.locals) (hc : cells ≤ R.cells) (hs : slots ≤ R.slots) {x y : Int} (hdg : decode cc pc = .ok (.invokestatic index, 3)) (hrx : rg x) (hry : rg y)
    (kk : W p l e R s m args below meth c H locs cells slots Q (F0 m (pc + 3) ls (.int (J (min x y)) :: rest))) : W p l e R s m args below meth c H locs cells slots Q (F0 m pc ls (.int (J y) :: .int (J x) :: rest)) :=
  va_mmin hexec hb hml hown hlink hstat hini hcode hframes hlocals hc hs hdg (tp_i (J_min hrx hry) kk)
theorem w_mmax (hexec : p.tables.exec = Jvm.exec) (hb : c.code = cc) (hml : c.maxLocals = ls.size) {own : String} {index : Nat} (hown : s.vm.findClass own = some m.cls) (hlink : (Cond.methodLink own index Lib.Math.max.name).before args s = true) (hstat : (Cond.static Lib.Math.max.name).before args s = true) (hini : (Cond.initialized "java/lang/Math").before args s = true) (hcode : (Cond.code Lib.Math.max.name Lib.Math.max.code 2 (some .int)).before args s = true)
    (hframes : 1 ≤ R.frames) (hlocals : (rest.map fun v => v.category).sum + 13 ≤ R.locals) (hc : cells ≤ R.cells) (hs : slots ≤ R.slots) {x y : Int} (hdg : decode cc pc = .ok (.invokestatic index, 3)) (hrx : rg x) (hry : rg y)
    (kk : W p l e R s m args below meth c H locs cells slots Q (F0 m (pc + 3) ls (.int (J (max x y)) :: rest))) : W p l e R s m args below meth c H locs cells slots Q (F0 m pc ls (.int (J y) :: .int (J x) :: rest)) :=
  va_mmax hexec hb hml hown hlink hstat hini hcode hframes hlocals hc hs hdg (tp_i (J_max hrx hry) kk)
end LB
end
section
/-! contracts in three forms: Ri (reads only, answers an int), Mi (answers an int, changes its cells), Mv (answers nothing, changes its cells) -/
/-- the sounds of the letters, as the class's table has them -/
def sd (j : Nat) : Int := ([0, 1, 2, 3, 4, 1, 2, 5, 6, 2, 2, 7, 8, 8, 9, 1, 2, 10, 2, 3, 11, 1, 12, 2, 13, 2] : List Int).getD j 0
def x_Me : MethodName := ⟨"NearFinder$Measure", "between", "(LNearFinder$Words;ILNearFinder$Words;I)I"⟩
/-- what lies outside the cells: the table of sounds, as the class's static field holds it; the two classes behind the interface -/
def ST (A : Nat → Prop) (U : State) (H : Heap) : Prop := ∃ t : Nat, va_Z "NearFinder$ByChanges" "SOUNDS" "[I" (.ref t) A U H ∧ va_T .int t 26 (fun j => .int (J (sd j))) A U H ∧ va_Fw R_Bc x_Me y_Bc_between U ∧ va_Fw R_Bn x_Me y_Bn_between U
theorem ST.moved {A : Nat → Prop} {u U : State} {H : Heap} (hvm : u.vm.Alike U.vm) (h : ST A u H) : ST A U H := by
  obtain ⟨t, h1, h2, h3, h4⟩ := h
  exact ⟨t, h1.moved hvm, h2.moved hvm, h3.moved (by decide) hvm, h4.moved (by decide) hvm⟩
theorem ST.kept {A : Nat → Prop} {U : State} {H H1 : Heap} (h : ST A U H) (hq : ∀ a : Nat, a < H.size → ¬ A a → H1[a]? = H[a]?) : ST A U H1 := by
  obtain ⟨t, h1, h2, h3, h4⟩ := h
  exact ⟨t, h1.kept hq, h2.kept hq, h3, h4⟩
theorem ST.narrow {A B : Nat → Prop} {U : State} {H : Heap} (h : ST A U H) (hAB : ∀ q, B q → A q) : ST B U H := by
  obtain ⟨t, h1, h2, h3, h4⟩ := h
  exact ⟨t, h1.narrow hAB, h2.narrow hAB, h3, h4⟩
def PcR (D : va_G) (cl : List vw_C) (tys : List (ClassId × FieldType)) (av : List Value) (wc : va_W) : Array Value → State → Prop := va_Pc av (fun U => va_P D cl wc U.heap ∧ va_K D cl tys U)
def PcW (x : Bool) (D : va_G) (cl : List vw_C) (tys : List (ClassId × FieldType)) (sz : Nat) (av : List Value) (wc : va_W) : Array Value → State → Prop := va_Pc av (fun U => U.heap.size = sz ∧ va_P D cl wc U.heap ∧ va_K D cl tys U ∧ va_D (fun _ => True) wc ∧ (x = true → ST (va_A wc sz) U U.heap))
def QB (D : va_G) (cl : List vw_C) (tys : List (ClassId × FieldType)) (A : Nat → Prop) {S : Type} (w1 : S → va_W) : S → State → Prop := fun u t => va_P D cl (w1 u) t.heap ∧ va_K D cl tys t ∧ va_D A (w1 u)
def Ri (l : Launch) (y : MethodName) (wd : List Cond) (rm : Room) (D : va_G) (cl : List vw_C) (tys : List (ClassId × FieldType)) (av : List Value) (wc : va_W) (v : Int) : Prop := Met l y wd rm (PcR D cl tys av wc) (vp_Si (fun r => r = J v)) 0 0 (fun _ => False)
def Mi (l : Launch) (y : MethodName) (wd : List Cond) (rm : Room) (x : Bool) (D : va_G) (cl : List vw_C) (tys : List (ClassId × FieldType)) (sz : Nat) (av : List Value) (wc : va_W) (v : Int) {S : Type} (P : S → Prop) (w1 : S → va_W) (mc ms : Nat) : Prop :=
  Met l y wd rm (PcW x D cl tys sz av wc) (va_Qi (fun r u => r = J v ∧ P u) (QB D cl tys (va_A wc sz) w1) (va_A wc sz)) mc ms (va_A wc sz)
def Mv (l : Launch) (y : MethodName) (wd : List Cond) (rm : Room) (x : Bool) (D : va_G) (cl : List vw_C) (tys : List (ClassId × FieldType)) (sz : Nat) (av : List Value) (wc : va_W) {S : Type} (P : S → Prop) (w1 : S → va_W) (mc ms : Nat) : Prop :=
  Met l y wd rm (PcW x D cl tys sz av wc) (va_Qv P (QB D cl tys (va_A wc sz) w1) (va_A wc sz)) mc ms (va_A wc sz)
theorem PcR_blind {D : va_G} {cl : List vw_C} {tys : List (ClassId × FieldType)} {av : List Value} {wc : va_W} : FrameBlind (PcR D cl tys av wc) := fun a U g mk q => by
  obtain ⟨q0, qP, qK⟩ := q
  exact ⟨q0, qP, va_K.moved (u := U) (U := U.calling g mk a) (Vm.Alike.refl U.vm) qK⟩
theorem PcW_blind {x : Bool} {D : va_G} {cl : List vw_C} {tys : List (ClassId × FieldType)} {sz : Nat} {av : List Value} {wc : va_W} : FrameBlind (PcW x D cl tys sz av wc) := fun a U g mk q => by
  obtain ⟨q0, q1, qP, qK, qD, qT⟩ := q
  exact ⟨q0, q1, qP, va_K.moved (u := U) (U := U.calling g mk a) (Vm.Alike.refl U.vm) qK, qD, fun h => ST.moved (u := U) (U := U.calling g mk a) (Vm.Alike.refl U.vm) (qT h)⟩
theorem P_map {D : va_G} {cl : List vw_C} {ws wc : va_W} {H : Heap} (hP : va_P D cl ws H) (is : List Nat) (hC : is.map (fun i => ws[i]?) = wc.map some) : va_P D cl wc H := by
  intro k q hq
  have h1 : (is.map (fun i => ws[i]?))[k]? = some (some q) := by rw [hC, List.getElem?_map, hq]; rfl
  rw [List.getElem?_map] at h1
  cases hi : is[k]? with
  | none => rw [hi] at h1; cases h1
  | some i => rw [hi] at h1; exact hP i q (Option.some.inj h1)
theorem nb_z {v : Int} (h : v = 0 ∨ v = 1) : narrow .boolean (.int (J v)) = .int (J v) := by rcases h with rfl | rfl <;> decide
theorem nb_i {x : Int32} : narrow .int (.int x) = .int x := rfl
section CN
variable {l : Launch} {y : MethodName} {wd wd' : List Cond} {rm : Room} {D : va_G} {cl : List vw_C} {tys : List (ClassId × FieldType)} {sz : Nat} {av : List Value} {wc : va_W} {x : Bool} {S : Type} {v : Int} {P : S → Prop} {w1 : S → va_W} {mc ms : Nat} {cc : ByteArray} {maxL : Nat} {rt : FieldType}
theorem Ri_of (hy : plainName y.cls = true) (hw : wd = Cond.code y cc maxL (some rt) :: wd') (hlen : (lg_sl av).length ≤ maxL)
    (body : ∀ (p : Program) (e : Env) (s : State) (m : MethodId) (args : Array Value) (below : List Frame) (meth : Method) (c : Code), p.tables.exec = Jvm.exec → c.code = cc → meth.sig.returnType = some rt → c.maxLocals = maxL → (∀ w ∈ wd', w.before args s = true) → s.vm.findClass y.cls = some m.cls → meth.locks = false →
      va_P D cl wc s.heap → va_K D cl tys s → ∀ Q : State → Prop, Q = MQ below (vp_Si (fun r => r = J v)) args s 0 0 (fun _ => False) → ∀ H : Heap, H = s.heap → ∀ ls : Array Slot, lv_has ls maxL (lv_args 0 av) → W p l e rm s m args below meth c H [] 0 0 Q (F0 m 0 ls [])) : Ri l y wd rm D cl tys av wc v := by
  refine Met.ofW (cc := cc) (maxL := maxL) (ret := some rt) hy hw ?_
  intro p e s m args below meth c s₁ B hml hv
  obtain ⟨rfl, hP, hK⟩ := hv
  rw [lg_entry_eq]
  exact body p e s m _ below meth c B.exec B.bytes B.returns hml (fun w h => atoms_spec (ws := wd) B.pre w (by rw [hw]; exact List.mem_cons_of_mem _ h)) (findClass_of_methodNamed B.named) B.notSynchronized hP hK _ rfl _ rfl _ (lv_entry av (n := maxL) hlen)
theorem Mi_of (hy : plainName y.cls = true) (hw : wd = Cond.code y cc maxL (some rt) :: wd') (hlen : (lg_sl av).length ≤ maxL)
    (body : ∀ (p : Program) (e : Env) (s : State) (m : MethodId) (args : Array Value) (below : List Frame) (meth : Method) (c : Code), p.tables.exec = Jvm.exec → c.code = cc → meth.sig.returnType = some rt → c.maxLocals = maxL → (∀ w ∈ wd', w.before args s = true) → s.vm.findClass y.cls = some m.cls → meth.locks = false →
      ∀ A : Nat → Prop, (∀ q : Nat, s.heap.size ≤ q → A q) → va_P D cl wc s.heap → va_K D cl tys s → va_D A wc → (x = true → ST A s s.heap) → va_S A s.heap s.heap [] → ∀ Q : State → Prop, Q = MQ below (va_Qi (fun r u => r = J v ∧ P u) (QB D cl tys A w1) A) args s mc ms A → ∀ H : Heap, H = s.heap → ∀ ls : Array Slot, lv_has ls maxL (lv_args 0 av) → W p l e rm s m args below meth c H [] 0 0 Q (F0 m 0 ls [])) : Mi l y wd rm x D cl tys sz av wc v P w1 mc ms := by
  refine Met.ofW (cc := cc) (maxL := maxL) (ret := some rt) hy hw ?_
  intro p e s m args below meth c s₁ B hml hv
  obtain ⟨rfl, rfl, hP, hK, hD0, hT⟩ := hv
  rw [lg_entry_eq]
  exact body p e s m _ below meth c B.exec B.bytes B.returns hml (fun w h => atoms_spec (ws := wd) B.pre w (by rw [hw]; exact List.mem_cons_of_mem _ h)) (findClass_of_methodNamed B.named) B.notSynchronized _ (fun q h => Or.inr h) hP hK hD0.self hT va_S.rf _ rfl _ rfl _ (lv_entry av (n := maxL) hlen)
theorem Mv_of (hy : plainName y.cls = true) (hw : wd = Cond.code y cc maxL none :: wd') (hlen : (lg_sl av).length ≤ maxL)
    (body : ∀ (p : Program) (e : Env) (s : State) (m : MethodId) (args : Array Value) (below : List Frame) (meth : Method) (c : Code), p.tables.exec = Jvm.exec → c.code = cc → meth.sig.returnType = none → c.maxLocals = maxL → (∀ w ∈ wd', w.before args s = true) → s.vm.findClass y.cls = some m.cls → meth.locks = false → meth.name = y.name →
      ∀ A : Nat → Prop, (∀ q : Nat, s.heap.size ≤ q → A q) → va_P D cl wc s.heap → va_K D cl tys s → va_D A wc → (x = true → ST A s s.heap) → va_S A s.heap s.heap [] → ∀ Q : State → Prop, Q = MQ below (va_Qv P (QB D cl tys A w1) A) args s mc ms A → ∀ H : Heap, H = s.heap → ∀ ls : Array Slot, lv_has ls maxL (lv_args 0 av) → W p l e rm s m args below meth c H [] 0 0 Q (F0 m 0 ls [])) : Mv l y wd rm x D cl tys sz av wc P w1 mc ms := by
  refine Met.ofW (cc := cc) (maxL := maxL) (ret := none) hy hw ?_
  intro p e s m args below meth c s₁ B hml hv
  obtain ⟨rfl, rfl, hP, hK, hD0, hT⟩ := hv
  rw [lg_entry_eq]
  exact body p e s m _ below meth c B.exec B.bytes B.returns hml (fun w h => atoms_spec (ws := wd) B.pre w (by rw [hw]; exact List.mem_cons_of_mem _ h)) (findClass_of_methodNamed B.named) B.notSynchronized (name_of_methodNamed B.named B.method).1 _ (fun q h => Or.inr h) hP hK hD0.self hT va_S.rf _ rfl _ rfl _ (lv_entry av (n := maxL) hlen)
end CN
section CR
variable {p : Program} {l : Launch} {e : Env} {R : Room} {s : State} {m : MethodId} {args : Array Value} {below : List Frame} {meth : Method} {c : Code} {H : Heap} {locs : List Loc} {cells slots : Nat} {Q : State → Prop}
variable {cc : ByteArray} {pc : Nat} {ls : Array Slot} {rest st0 : List Value} {D : va_G} {cl : List vw_C} {A : Nat → Prop} {tys : List (ClassId × FieldType)} {ws wc wr : va_W} {H0 : Heap} {av As : List Value} {x : Bool} {S : Type} {v v' : Int} {P : S → Prop} {w1 : S → va_W} {mc ms : Nat} {rt : FieldType} {a : Array Value}
theorem Ri_ret (hx : p.tables.exec = Jvm.exec) (hb : c.code = cc) (hr : meth.sig.returnType = some rt) (hlocks : meth.locks = false) (hQ : Q = MQ below (vp_Si (fun r => r = J v)) args s 0 0 (fun _ => False)) (hH : H = s.heap) (hdg : decode cc pc = .ok (.ireturn, 1)) (hn : narrow rt (.int (J v')) = .int (J v')) (hv : v' = v) : W p l e R s m args below meth c H [] 0 0 Q (F0 m pc ls [.int (J v')]) := by
  subst hQ
  subst hH
  exact W.zret hx hb hr hn (fun t ht _ => ⟨_, rfl, by rw [hv], ht⟩) (fun q h => by cases h) hdg hlocks
theorem Mi_ret (hx : p.tables.exec = Jvm.exec) (hb : c.code = cc) (hr : meth.sig.returnType = some rt) (hlocks : meth.locks = false) (hQ : Q = MQ below (va_Qi (fun r u => r = J v ∧ P u) (QB D cl tys A w1) A) args s mc ms A) (hdg : decode cc pc = .ok (.ireturn, 1)) (hP : va_P D cl ws H) (hK : va_K D cl tys s) (hD : va_D A ws) (hS : va_S A s.heap H locs)
    (hn : narrow rt (.int (J v')) = .int (J v')) (hv : v' = v) (u : S) (hu : P u) (is : List Nat) (hw : is.map (fun i => ws[i]?) = (w1 u).map some) (hnd : va_nd is = true) : W p l e R s m args below meth c H locs mc ms Q (F0 m pc ls [.int (J v')]) := by
  subst hQ
  exact W.zret hx hb hr hn (fun t ht hW => ⟨⟨_, u, rfl, ⟨by rw [hv], hu⟩, by rw [ht]; exact P_map hP is hw, va_K.moved hW.alike hK, hD.sub is hnd hw⟩, hS.F ht⟩) hS.2.2 hdg hlocks
theorem Mv_ret (hx : p.tables.exec = Jvm.exec) (hb : c.code = cc) (hr : meth.sig.returnType = none) (hlocks : meth.locks = false) (hQ : Q = MQ below (va_Qv P (QB D cl tys A w1) A) args s mc ms A) (hdg : decode cc pc = .ok (.return_, 1)) (hP : va_P D cl ws H) (hK : va_K D cl tys s) (hD : va_D A ws) (hS : va_S A s.heap H locs)
    (u : S) (hu : P u) (is : List Nat) (hw : is.map (fun i => ws[i]?) = (w1 u).map some) (hnd : va_nd is = true) : W p l e R s m args below meth c H locs mc ms Q (F0 m pc ls []) := by
  subst hQ
  exact W.vret hx hb hr (fun t ht hW => ⟨⟨u, rfl, hu, by rw [ht]; exact P_map hP is hw, va_K.moved hW.alike hK, hD.sub is hnd hw⟩, hS.F ht⟩) hS.2.2 hdg hlocks
theorem run_c {g : JFrame} {Qa : State → Outcome → State → Prop} {free : Addr → Prop} (h : va_Run p l e R s m args below meth c H locs cells slots mc ms g rest Qa free) : CallRun p l e R s m args below meth c H locs cells slots mc ms g rest Qa free := by
  intro T hT X
  obtain ⟨v, st, t, T', L, h1, h2, h3, h4, -, h6, h7⟩ := h T hT X
  exact ⟨v, st, t, T', L, h1, h2, h3, h4, h6, h7⟩
theorem Ri_call (hr : va_Run p l e R s m args below meth c H locs cells slots 0 0 (F0 m pc ls st0) rest (vp_Si (fun r => r = J v) a) (fun _ => False))
    (kk : W p l e R s m args below meth c H locs cells slots Q (F0 m (pc + 3) ls (.int (J v) :: rest))) : W p l e R s m args below meth c H locs cells slots Q (F0 m pc ls st0) :=
  vp_callSi (run_c hr) (fun r hw => by rw [hw]; exact kk)
theorem Mi_call (hr : va_Run p l e R s m args below meth c H locs cells slots mc ms (F0 m pc ls st0) rest (va_Qi (fun r u => r = J v ∧ P u) (QB D cl tys (va_A wc H.size) w1) (va_A wc H.size) a) (va_A wc H.size)) (hP : va_P D cl ws H) (hD : va_D A ws) (hS : va_S A H0 H locs) (hA : ∀ q, H0.size ≤ q → A q)
    (isC isR : List Nat) (hC : isC.map (fun i => ws[i]?) = wc.map some) (hR : isR.map (fun i => ws[i]?) = wr.map some) (hn : va_nd isR = true) (hdis : ∀ i ∈ isR, i ∉ isC)
    (kk : ∀ (u : S) (H1 : Heap) (locs1 : List Loc), P u → va_P D cl (wr ++ w1 u) H1 → va_D A (wr ++ w1 u) → va_S A H0 H1 locs1 → W p l e R s m args below meth c H1 locs1 (cells + mc) (slots + ms) Q (F0 m (pc + 3) ls (.int (J v) :: rest))) : W p l e R s m args below meth c H locs cells slots Q (F0 m pc ls st0) := by
  have hFc := va_free (wc := wc) hD hS hA isC hC
  refine va_calli hr hS (fun q _ h => hFc q h) hFc (fun r u t H1 locs1 ht hvm hw hB hz hk1 hS1 => ?_)
  obtain ⟨hP1, hK1, hD1⟩ := hB
  rw [ht] at hP1
  obtain ⟨hP2, hD2⟩ := va_join (wr := wr) (w1 := w1 u) hP hD isC isR hC hR hn hdis hk1 hFc hP1 hD1
  rw [hw.1]
  exact kk u H1 locs1 hw.2 hP2 hD2 hS1
theorem Mi_callF (hr : va_Run5 p l e R s m args below meth c H locs cells slots mc ms (F0 m pc ls st0) rest (va_Qi (fun r u => r = J v ∧ P u) (QB D cl tys (va_A wc H.size) w1) (va_A wc H.size) a) (va_A wc H.size)) (hP : va_P D cl ws H) (hD : va_D A ws) (hS : va_S A H0 H locs) (hA : ∀ q, H0.size ≤ q → A q)
    (isC isR : List Nat) (hC : isC.map (fun i => ws[i]?) = wc.map some) (hR : isR.map (fun i => ws[i]?) = wr.map some) (hn : va_nd isR = true) (hdis : ∀ i ∈ isR, i ∉ isC)
    (kk : ∀ (u : S) (H1 : Heap) (locs1 : List Loc), P u → va_P D cl (wr ++ w1 u) H1 → va_D A (wr ++ w1 u) → va_S A H0 H1 locs1 → W p l e R s m args below meth c H1 locs1 (cells + mc) (slots + ms) Q (F0 m (pc + 5) ls (.int (J v) :: rest))) : W p l e R s m args below meth c H locs cells slots Q (F0 m pc ls st0) := by
  have hFc := va_free (wc := wc) hD hS hA isC hC
  refine va_callFi hr hS (fun q _ h => hFc q h) hFc (fun r u t H1 locs1 ht hvm hw hB hz hk1 hS1 => ?_)
  obtain ⟨hP1, hK1, hD1⟩ := hB
  rw [ht] at hP1
  obtain ⟨hP2, hD2⟩ := va_join (wr := wr) (w1 := w1 u) hP hD isC isR hC hR hn hdis hk1 hFc hP1 hD1
  rw [hw.1]
  exact kk u H1 locs1 hw.2 hP2 hD2 hS1
theorem Mv_call (hr : va_Run p l e R s m args below meth c H locs cells slots mc ms (F0 m pc ls st0) rest (va_Qv P (QB D cl tys (va_A wc H.size) w1) (va_A wc H.size) a) (va_A wc H.size)) (hP : va_P D cl ws H) (hD : va_D A ws) (hS : va_S A H0 H locs) (hA : ∀ q, H0.size ≤ q → A q)
    (isC isR : List Nat) (hC : isC.map (fun i => ws[i]?) = wc.map some) (hR : isR.map (fun i => ws[i]?) = wr.map some) (hn : va_nd isR = true) (hdis : ∀ i ∈ isR, i ∉ isC)
    (kk : ∀ (u : S) (H1 : Heap) (locs1 : List Loc), P u → va_P D cl (wr ++ w1 u) H1 → va_D A (wr ++ w1 u) → va_S A H0 H1 locs1 → W p l e R s m args below meth c H1 locs1 (cells + mc) (slots + ms) Q (F0 m (pc + 3) ls rest)) : W p l e R s m args below meth c H locs cells slots Q (F0 m pc ls st0) := by
  have hFc := va_free (wc := wc) hD hS hA isC hC
  refine va_callv hr hS (fun q _ h => hFc q h) hFc (fun u t H1 locs1 ht hvm hw hB hz hk1 hS1 => ?_)
  obtain ⟨hP1, hK1, hD1⟩ := hB
  rw [ht] at hP1
  obtain ⟨hP2, hD2⟩ := va_join (wr := wr) (w1 := w1 u) hP hD isC isR hC hR hn hdis hk1 hFc hP1 hD1
  exact kk u H1 locs1 hw hP2 hD2 hS1
theorem pre_RS (hP : va_P D cl ws H) (hK : va_K D cl tys s) (isC : List Nat) (hC : isC.map (fun i => ws[i]?) = wc.map some) : PreS s H (PcR D cl tys av wc) av :=
  ⟨PcR_blind, fun U hU hW => ⟨rfl, by rw [hU]; exact P_map hP isC hC, va_K.moved hW.alike hK⟩⟩
theorem pre_RV {b : Addr} {q : vw_C} {fs : List Value} (hP : va_P D cl ws H) (hK : va_K D cl tys s) (isC : List Nat) (hC : isC.map (fun i => ws[i]?) = wc.map some) (ci q0 : Nat) (hc : cl[ci]? = some q) (he : wc[q0]? = some (b, .inr (ci, fs))) : PreV s H q.1 b (PcR D cl tys (.ref b :: As) wc) As :=
  ⟨PcR_blind, va_recv hK (P_map hP isC hC) hc he, fun U hU hW => ⟨rfl, by rw [hU]; exact P_map hP isC hC, va_K.moved hW.alike hK⟩⟩
theorem pre_W (hP : va_P D cl ws H) (hK : va_K D cl tys s) (hD : va_D A ws) (isC : List Nat) (hC : isC.map (fun i => ws[i]?) = wc.map some) (hnd : va_nd isC = true) (hT : x = true → ST (va_A wc H.size) s H) : ∀ U : State, U.heap = H → s.WarmedH U.vm → PcW x D cl tys H.size av wc av.toArray U :=
  fun U hU hW => ⟨rfl, by rw [hU], by rw [hU]; exact P_map hP isC hC, va_K.moved hW.alike hK, (hD.sub isC hnd hC).weaken (fun _ _ _ _ => trivial), fun h => by rw [hU]; exact ST.moved hW.alike (hT h)⟩
theorem pre_WS (hP : va_P D cl ws H) (hK : va_K D cl tys s) (hD : va_D A ws) (isC : List Nat) (hC : isC.map (fun i => ws[i]?) = wc.map some) (hnd : va_nd isC = true) (hT : x = true → ST (va_A wc H.size) s H) : PreS s H (PcW x D cl tys H.size av wc) av :=
  ⟨PcW_blind, pre_W hP hK hD isC hC hnd hT⟩
theorem pre_WV {b : Addr} {q : vw_C} {fs : List Value} (hP : va_P D cl ws H) (hK : va_K D cl tys s) (hD : va_D A ws) (isC : List Nat) (hC : isC.map (fun i => ws[i]?) = wc.map some) (hnd : va_nd isC = true) (ci q0 : Nat) (hc : cl[ci]? = some q) (he : wc[q0]? = some (b, .inr (ci, fs))) (hT : x = true → ST (va_A wc H.size) s H) : PreV s H q.1 b (PcW x D cl tys H.size (.ref b :: As) wc) As :=
  ⟨PcW_blind, va_recv hK (P_map hP isC hC) hc he, pre_W (av := .ref b :: As) hP hK hD isC hC hnd hT⟩
/-- the static table, at a call -/
theorem ST.at (hT : ST A s s.heap) (hD : va_D A ws) (hS : va_S A s.heap H locs) (hA : ∀ q, s.heap.size ≤ q → A q) (isC : List Nat) (hC : isC.map (fun i => ws[i]?) = wc.map some) : ST (va_A wc H.size) s H :=
  (hT.kept (fun a h1 h2 => hS.2.1 a h1 h2)).narrow (va_free (wc := wc) hD hS hA isC hC)
end CR
end
section
/-! the mathematics of changes and counts -/
/-- an exchange of letter b for letter a -/
def xc (wt : Nat → Int) (a b : Int) : Int := if a = b then 0 else if sd a.toNat = sd b.toNat then min (wt 2) (wt 3) else wt 2
def ed0 (wt : Nat → Int) : Nat → Int
  | 0 => 0
  | j + 1 => ed0 wt j + wt 0
/-- a row of the table of changes, out of the one before -/
def edr (wt : Nat → Int) (a : Int) (v pr : Nat → Int) : Nat → Int
  | 0 => pr 0 + wt 1
  | j + 1 => min (pr j + xc wt a (v j)) (min (edr wt a v pr j + wt 0) (pr (j + 1) + wt 1))
/-- the changes from the first i letters of u to the first j letters of v -/
def ed (wt : Nat → Int) (u v : Nat → Int) : Nat → Nat → Int
  | 0 => ed0 wt
  | i + 1 => edr wt (u i) v (ed wt u v i)
theorem xc_rg {wt : Nat → Int} (hw : ∀ k, 0 ≤ wt k ∧ wt k ≤ 1000) (a b : Int) : 0 ≤ xc wt a b ∧ xc wt a b ≤ 1000 := by
  have h2 := hw 2
  have h3 := hw 3
  unfold xc
  split
  · omega
  · split
    · omega
    · omega
theorem ed0_rg {wt : Nat → Int} (hw : ∀ k, 0 ≤ wt k ∧ wt k ≤ 1000) : ∀ j : Nat, 0 ≤ ed0 wt j ∧ ed0 wt j ≤ 1000 * (j : Int)
  | 0 => by simp [ed0]
  | j + 1 => by
    have h := ed0_rg hw j
    have h0 := hw 0
    simp only [ed0]
    omega
theorem ed_rg {wt : Nat → Int} (hw : ∀ k, 0 ≤ wt k ∧ wt k ≤ 1000) (u v : Nat → Int) : ∀ i j : Nat, 0 ≤ ed wt u v i j ∧ ed wt u v i j ≤ 1000 * (i + j : Int)
  | 0, j => by
    have h := ed0_rg hw j
    show 0 ≤ ed0 wt j ∧ ed0 wt j ≤ 1000 * (((0 : Nat) : Int) + (j : Int))
    omega
  | i + 1, 0 => by
    have h := ed_rg hw u v i 0
    have h1 := hw 1
    show 0 ≤ ed wt u v i 0 + wt 1 ∧ ed wt u v i 0 + wt 1 ≤ 1000 * (((i + 1 : Nat) : Int) + ((0 : Nat) : Int))
    omega
  | i + 1, j + 1 => by
    have h := ed_rg hw u v i j
    have h1 := ed_rg hw u v (i + 1) j
    have h2 := ed_rg hw u v i (j + 1)
    have hx := xc_rg hw (u i) (v j)
    have hw0 := hw 0
    have hw1 := hw 1
    have e1 : ed wt u v (i + 1) j = edr wt (u i) v (ed wt u v i) j := rfl
    rw [e1] at h1
    show 0 ≤ min (ed wt u v i j + xc wt (u i) (v j)) (min (edr wt (u i) v (ed wt u v i) j + wt 0) (ed wt u v i (j + 1) + wt 1)) ∧ min (ed wt u v i j + xc wt (u i) (v j)) (min (edr wt (u i) v (ed wt u v i) j + wt 0) (ed wt u v i (j + 1) + wt 1)) ≤ 1000 * (((i + 1 : Nat) : Int) + ((j + 1 : Nat) : Int))
    omega
theorem ed0_mul (wt : Nat → Int) : ∀ j : Nat, ed0 wt j = (j : Int) * wt 0
  | 0 => by simp [ed0]
  | j + 1 => by
    rw [ed0, ed0_mul wt j, show ((j + 1 : Nat) : Int) = (j : Int) + 1 from rfl, Int.add_mul, Int.one_mul]
/-- how often c stands among the first n of u -/
def cnt (u : Nat → Int) : Nat → Int → Int
  | 0, _ => 0
  | n + 1, c => cnt u n c + (if u n = c then 1 else 0)
def sm (f : Nat → Int) : Nat → Int
  | 0 => 0
  | n + 1 => sm f n + f n
theorem cnt_rg (u : Nat → Int) : ∀ (n : Nat) (c : Int), 0 ≤ cnt u n c ∧ cnt u n c ≤ (n : Int)
  | 0, c => by simp [cnt]
  | n + 1, c => by
    have h := cnt_rg u n c
    simp only [cnt]
    split <;> omega
theorem sm_eq {f g : Nat → Int} : ∀ {n : Nat}, (∀ k, k < n → f k = g k) → sm f n = sm g n
  | 0, _ => rfl
  | n + 1, h => by
    rw [sm, sm, sm_eq (fun k hk => h k (by omega)), h n (by omega)]
theorem sm_add (f g : Nat → Int) : ∀ n : Nat, sm (fun k => f k + g k) n = sm f n + sm g n
  | 0 => rfl
  | n + 1 => by
    simp only [sm]
    rw [sm_add f g n]
    omega
theorem sm_sub (f g : Nat → Int) : ∀ n : Nat, sm (fun k => f k - g k) n = sm f n - sm g n
  | 0 => rfl
  | n + 1 => by
    simp only [sm]
    rw [sm_sub f g n]
    omega
theorem sm_0 : ∀ n : Nat, sm (fun _ => 0) n = 0
  | 0 => rfl
  | n + 1 => by
    simp only [sm]
    rw [sm_0 n]
    omega
/-- one place grows by d -/
theorem sm_at {f g : Nat → Int} {k : Nat} {d : Int} : ∀ {n : Nat}, k < n → (∀ j, j ≠ k → g j = f j) → g k = f k + d → sm g n = sm f n + d
  | 0, h, _, _ => absurd h (Nat.not_lt_zero _)
  | n + 1, h, ho, hk => by
    simp only [sm]
    by_cases e : k = n
    · subst e
      rw [hk, sm_eq (f := g) (g := f) (fun j hj => ho j (by omega))]
      omega
    · rw [sm_at (f := f) (g := g) (k := k) (d := d) (n := n) (by omega) ho hk, ho n (fun z => e z.symm)]
      omega
theorem sm_rg {f : Nat → Int} {a b : Int} (h : ∀ k, a ≤ f k ∧ f k ≤ b) : ∀ n : Nat, a * (n : Int) ≤ sm f n ∧ sm f n ≤ b * (n : Int)
  | 0 => by simp [sm]
  | n + 1 => by
    have h1 := sm_rg h n
    have h2 := h n
    simp only [sm]
    rw [show ((n + 1 : Nat) : Int) = (n : Int) + 1 from rfl, Int.mul_add, Int.mul_add, Int.mul_one, Int.mul_one]
    omega
theorem sm_cnt {u : Nat → Int} : ∀ {n : Nat}, (∀ k, k < n → 0 ≤ u k ∧ u k < 26) → sm (fun c => cnt u n (c : Int)) 26 = (n : Int)
  | 0, _ => by
    show sm (fun _ => 0) 26 = _
    rw [sm_0]
    rfl
  | n + 1, h => by
    have ih := sm_cnt (u := u) (n := n) (fun k hk => h k (by omega))
    have hu := h n (by omega)
    have h1 : ∀ j : Nat, j ≠ (u n).toNat → cnt u (n + 1) (j : Int) = cnt u n (j : Int) := fun j hj => by
      show cnt u n (j : Int) + (if u n = (j : Int) then 1 else 0) = cnt u n (j : Int)
      rw [if_neg (by omega)]
      omega
    have h2 : cnt u (n + 1) (((u n).toNat : Nat) : Int) = cnt u n (((u n).toNat : Nat) : Int) + 1 := by
      show cnt u n (((u n).toNat : Nat) : Int) + (if u n = (((u n).toNat : Nat) : Int) then 1 else 0) = cnt u n (((u n).toNat : Nat) : Int) + 1
      rw [if_pos (by omega)]
    have h3 := sm_at (f := fun c => cnt u n (c : Int)) (g := fun c => cnt u (n + 1) (c : Int)) (k := (u n).toNat) (d := 1) (n := 26) (by omega) h1 h2
    rw [h3, ih]
    rfl
/-- letters of the one beyond those of the other -/
def bey (u : Nat → Int) (n : Nat) (v : Nat → Int) (k : Nat) : Int := sm (fun c => max 0 (cnt u n (c : Int) - cnt v k (c : Int))) 26
def shr (u : Nat → Int) (n : Nat) (v : Nat → Int) (k : Nat) : Int := sm (fun c => min (cnt u n (c : Int)) (cnt v k (c : Int))) 26
theorem shr_bey {u v : Nat → Int} {n k : Nat} (h : ∀ j, j < n → 0 ≤ u j ∧ u j < 26) : (n : Int) - shr u n v k = bey u n v k := by
  unfold shr bey
  rw [← sm_cnt h, ← sm_sub]
  exact sm_eq (fun c _ => by omega)
theorem shr_comm (u : Nat → Int) (n : Nat) (v : Nat → Int) (k : Nat) : shr u n v k = shr v k u n := sm_eq (fun c _ => by omega)
theorem bey_rg {u v : Nat → Int} {n k : Nat} (h : ∀ j, j < n → 0 ≤ u j ∧ u j < 26) : 0 ≤ bey u n v k ∧ bey u n v k ≤ (n : Int) := by
  rw [← shr_bey h]
  have h1 : 0 * ((26 : Nat) : Int) ≤ bey u n v k := by
    have : ∀ m : Nat, 0 ≤ sm (fun c => max 0 (cnt u n (c : Int) - cnt v k (c : Int))) m := by
      intro m
      induction m with
      | zero => simp [sm]
      | succ m ih => simp only [sm]; omega
    have := this 26
    unfold bey
    omega
  have h2 : 0 ≤ shr u n v k := by
    have : ∀ m : Nat, 0 ≤ sm (fun c => min (cnt u n (c : Int)) (cnt v k (c : Int))) m := by
      intro m
      induction m with
      | zero => simp [sm]
      | succ m ih =>
        have e1 := cnt_rg u n (m : Int)
        have e2 := cnt_rg v k (m : Int)
        simp only [sm]; omega
    exact this 26
  rw [← shr_bey h] at h1
  omega
/-- the least that the changes can be, by counting -/
def lb (wt : Nat → Int) (u : Nat → Int) (n : Nat) (v : Nat → Int) (k : Nat) : Int := max (bey u n v k * min (wt 1) (min (wt 2) (wt 3))) (bey v k u n * min (wt 0) (min (wt 2) (wt 3)))
/-! ways to pair -/
/-- the word of the entry with which way k pairs word w; -1: none -/
def dgt (k w : Nat) : Int := ((k / 4 ^ (2 - w) % 4 : Nat) : Int) - 1
theorem dgt_rg (k w : Nat) : -1 ≤ dgt k w ∧ dgt k w ≤ 2 := by
  unfold dgt
  have : k / 4 ^ (2 - w) % 4 < 4 := Nat.mod_lt _ (by omega)
  omega
abbrev may (la lt : Nat → Int) (w : Nat) (d : Int) : Prop := d < 0 ∨ (0 < la w ∧ 0 < lt d.toNat)
abbrev okp (la lt : Nat → Int) (x y z : Int) : Prop := ((x < 0 ∨ (x ≠ y ∧ x ≠ z)) ∧ (y < 0 ∨ y ≠ z)) ∧ may la lt 0 x ∧ may la lt 1 y ∧ may la lt 2 z
def csv (cs : Nat → Int) (w : Nat) (d : Int) : Int := if d < 0 then 0 else cs (3 * w + d.toNat)
def trn (a b : Int) : Int := if 0 ≤ a ∧ 0 ≤ b ∧ b < a then 1 else 0
def one (x : Int) : Int := if x < 0 then 0 else 1
def top (wt cs : Nat → Int) (al : Int) (x y z : Int) : Int := csv cs 0 x + csv cs 1 y + csv cs 2 z + wt 4 * (al - 2 * (one x + one y + one z)) + wt 5 * (trn x y + trn x z + trn y z)
/-- the least sum of the ways below n that can be, and the first way that gives it -/
def pkw (la lt wt cs : Nat → Int) (al : Int) : Nat → Int × Nat
  | 0 => (-1, 0)
  | n + 1 => if okp la lt (dgt n 0) (dgt n 1) (dgt n 2) ∧ ((pkw la lt wt cs al n).1 < 0 ∨ top wt cs al (dgt n 0) (dgt n 1) (dgt n 2) < (pkw la lt wt cs al n).1) then (top wt cs al (dgt n 0) (dgt n 1) (dgt n 2), n) else pkw la lt wt cs al n
/-- how many of three words are there -/
def nw (la : Nat → Int) : Int := b2 (0 < la 0) + b2 (0 < la 1) + b2 (0 < la 2)
theorem mul_rg {a b : Int} {k : Nat} (ha : 0 ≤ a ∧ a ≤ 1000) (hb : 0 ≤ b ∧ b ≤ (k : Int)) : 0 ≤ a * b ∧ a * b ≤ 1000 * (k : Int) :=
  ⟨Int.mul_nonneg ha.1 hb.1, Int.mul_le_mul ha.2 hb.2 hb.1 (by omega)⟩
theorem csv_rg {cs : Nat → Int} {B : Int} (h : ∀ j, 0 ≤ cs j ∧ cs j ≤ B) (w : Nat) (d : Int) : 0 ≤ csv cs w d ∧ csv cs w d ≤ B := by
  unfold csv
  have h0 := h 0
  split
  · omega
  · exact h _
theorem trn_rg (a b : Int) : 0 ≤ trn a b ∧ trn a b ≤ 1 := by unfold trn; split <;> omega
theorem nw_pairs {la lt : Nat → Int} {x y z : Int} (hx : -1 ≤ x ∧ x ≤ 2) (hy : -1 ≤ y ∧ y ≤ 2) (hz : -1 ≤ z ∧ z ≤ 2) (h : okp la lt x y z) : one x + one y + one z ≤ nw la ∧ one x + one y + one z ≤ nw lt ∧ 0 ≤ one x + one y + one z := by
  obtain ⟨⟨h1, h2⟩, h3, h4, h5⟩ := h
  unfold nw
  have a0 := b2_rg (q := 0 < la 0)
  have a1 := b2_rg (q := 0 < la 1)
  have a2 := b2_rg (q := 0 < la 2)
  have c0 := b2_rg (q := 0 < lt 0)
  have c1 := b2_rg (q := 0 < lt 1)
  have c2 := b2_rg (q := 0 < lt 2)
  have ex : x = -1 ∨ x = 0 ∨ x = 1 ∨ x = 2 := by omega
  have ey : y = -1 ∨ y = 0 ∨ y = 1 ∨ y = 2 := by omega
  have ez : z = -1 ∨ z = 0 ∨ z = 1 ∨ z = 2 := by omega
  have key : ∀ (f : Nat → Int) (w : Nat), 0 < f w → b2 (0 < f w) = 1 := fun f w q => b2_t q
  rcases ex with rfl | rfl | rfl | rfl <;> rcases ey with rfl | rfl | rfl | rfl <;> rcases ez with rfl | rfl | rfl | rfl <;> simp [one, may] at h1 h2 h3 h4 h5 ⊢ <;> (try simp only [b2_t h3.1, b2_t h3.2]) <;> (try simp only [b2_t h4.1, b2_t h4.2]) <;> (try simp only [b2_t h5.1, b2_t h5.2]) <;> omega
theorem nw_rg (la : Nat → Int) : 0 ≤ nw la ∧ nw la ≤ 3 := by
  have a0 := b2_rg (q := 0 < la 0)
  have a1 := b2_rg (q := 0 < la 1)
  have a2 := b2_rg (q := 0 < la 2)
  unfold nw
  omega
theorem top_rg {la lt wt cs : Nat → Int} {x y z : Int} (hw : ∀ k, 0 ≤ wt k ∧ wt k ≤ 1000) (hc : ∀ j, 0 ≤ cs j ∧ cs j ≤ 20000) (hx : -1 ≤ x ∧ x ≤ 2) (hy : -1 ≤ y ∧ y ≤ 2) (hz : -1 ≤ z ∧ z ≤ 2) (h : okp la lt x y z) : 0 ≤ top wt cs (nw la + nw lt) x y z ∧ top wt cs (nw la + nw lt) x y z ≤ 69000 := by
  have h1 := nw_pairs hx hy hz h
  have h2 := nw_rg la
  have h3 := nw_rg lt
  have h4 := mul_rg (k := 6) (hw 4) (b := nw la + nw lt - 2 * (one x + one y + one z)) (by omega)
  have t1 := trn_rg x y
  have t2 := trn_rg x z
  have t3 := trn_rg y z
  have h5 := mul_rg (k := 3) (hw 5) (b := trn x y + trn x z + trn y z) (by omega)
  have c0 := csv_rg hc 0 x
  have c1 := csv_rg hc 1 y
  have c2 := csv_rg hc 2 z
  unfold top
  omega
theorem ok0 (la lt : Nat → Int) : okp la lt (dgt 0 0) (dgt 0 1) (dgt 0 2) := by
  have e0 : dgt 0 0 = -1 := rfl
  have e1 : dgt 0 1 = -1 := rfl
  have e2 : dgt 0 2 = -1 := rfl
  rw [e0, e1, e2]
  simp [okp, may]
theorem pkw_rg {la lt wt cs : Nat → Int} (hw : ∀ k, 0 ≤ wt k ∧ wt k ≤ 1000) (hc : ∀ j, 0 ≤ cs j ∧ cs j ≤ 20000) : ∀ n : Nat, 0 ≤ (pkw la lt wt cs (nw la + nw lt) (n + 1)).1 ∧ (pkw la lt wt cs (nw la + nw lt) (n + 1)).1 ≤ 69000 ∧ (pkw la lt wt cs (nw la + nw lt) (n + 1)).2 ≤ n
  | 0 => by
    have h := ok0 la lt
    have h2 := top_rg hw hc (dgt_rg 0 0) (dgt_rg 0 1) (dgt_rg 0 2) h
    rw [pkw, if_pos ⟨h, Or.inl (by simp [pkw])⟩]
    exact ⟨h2.1, h2.2, Nat.le_refl 0⟩
  | n + 1 => by
    have ih := pkw_rg (la := la) (lt := lt) hw hc n
    rw [pkw]
    split
    · next h =>
      have h2 := top_rg hw hc (dgt_rg (n + 1) 0) (dgt_rg (n + 1) 1) (dgt_rg (n + 1) 2) h.1
      exact ⟨h2.1, h2.2, Nat.le_refl _⟩
    · exact ⟨ih.1, ih.2.1, by omega⟩
/-! the class's costs: -1 where one of the two words is none -/
abbrev okc (ck : Nat → Int) (x y z : Int) : Prop := ((x < 0 ∨ (x ≠ y ∧ x ≠ z)) ∧ (y < 0 ∨ y ≠ z)) ∧ (x < 0 ∨ ck (3 * 0 + x.toNat) ≠ -1) ∧ (y < 0 ∨ ck (3 * 1 + y.toNat) ≠ -1) ∧ (z < 0 ∨ ck (3 * 2 + z.toNat) ≠ -1)
def tcl (wt ck : Nat → Int) (al : Int) (x y z : Int) : Int := if okc ck x y z then top wt ck al x y z else 1000000
def ckf (la lt cs : Nat → Int) (ck : Nat → Int) : Prop := ∀ w o : Nat, w < 3 → o < 3 → ck (3 * w + o) = if 0 < la w ∧ 0 < lt o then cs (3 * w + o) else -1
theorem ck_may {la lt cs ck : Nat → Int} (hc : ∀ j, 0 ≤ cs j) (h : ckf la lt cs ck) {w : Nat} (hw : w < 3) {x : Int} (hx : -1 ≤ x ∧ x ≤ 2) : (x < 0 ∨ ck (3 * w + x.toNat) ≠ -1) ↔ may la lt w x := by
  unfold may
  by_cases e : x < 0
  · simp [e]
  · have h1 := h w x.toNat hw (by omega)
    have h2 := hc (3 * w + x.toNat)
    rw [h1]
    by_cases q : 0 < la w ∧ 0 < lt x.toNat
    · rw [if_pos q]
      simp only [e, q, and_self, or_true, iff_true]
      right
      omega
    · rw [if_neg q]
      simp only [e, false_or, ne_eq, not_true_eq_false, false_iff]
      exact q
theorem okc_okp {la lt cs ck : Nat → Int} (hc : ∀ j, 0 ≤ cs j) (h : ckf la lt cs ck) {x y z : Int} (hx : -1 ≤ x ∧ x ≤ 2) (hy : -1 ≤ y ∧ y ≤ 2) (hz : -1 ≤ z ∧ z ≤ 2) : okc ck x y z ↔ okp la lt x y z := by
  unfold okc okp
  rw [ck_may hc h (by omega) hx, ck_may hc h (by omega) hy, ck_may hc h (by omega) hz]
theorem csv_ck {la lt cs ck : Nat → Int} (h : ckf la lt cs ck) {w : Nat} (hw : w < 3) {x : Int} (hx : -1 ≤ x ∧ x ≤ 2) (hm : may la lt w x) : csv ck w x = csv cs w x := by
  unfold csv
  by_cases e : x < 0
  · rw [if_pos e, if_pos e]
  · rw [if_neg e, if_neg e, h w x.toNat hw (by omega), if_pos (hm.resolve_left e)]
theorem top_ck {la lt cs ck : Nat → Int} (h : ckf la lt cs ck) (wt : Nat → Int) (al : Int) {x y z : Int} (hx : -1 ≤ x ∧ x ≤ 2) (hy : -1 ≤ y ∧ y ≤ 2) (hz : -1 ≤ z ∧ z ≤ 2) (hm : okp la lt x y z) : top wt ck al x y z = top wt cs al x y z := by
  unfold top
  rw [csv_ck h (by omega) hx hm.2.1, csv_ck h (by omega) hy hm.2.2.1, csv_ck h (by omega) hz hm.2.2.2]
/-- the least sum of the ways below n, 1,000,000 ahead of the first -/
def lst (la lt wt cs : Nat → Int) (al : Int) (n : Nat) : Int := if n = 0 then 1000000 else (pkw la lt wt cs al n).1
theorem lst_rg {la lt wt cs : Nat → Int} (hw : ∀ k, 0 ≤ wt k ∧ wt k ≤ 1000) (hc : ∀ j, 0 ≤ cs j ∧ cs j ≤ 20000) (n : Nat) : 0 ≤ lst la lt wt cs (nw la + nw lt) n ∧ lst la lt wt cs (nw la + nw lt) n ≤ 1000000 := by
  unfold lst
  split
  · omega
  · next h =>
    obtain ⟨k, rfl⟩ : ∃ k, n = k + 1 := ⟨n - 1, by omega⟩
    have := pkw_rg (la := la) (lt := lt) hw hc k
    omega
/-- a way's total, and the step of the loop over ways -/
theorem lst_lt {la lt wt cs ck : Nat → Int} (hw : ∀ k, 0 ≤ wt k ∧ wt k ≤ 1000) (hc : ∀ j, 0 ≤ cs j ∧ cs j ≤ 20000) (h : ckf la lt cs ck) (n : Nat) (hl : tcl wt ck (nw la + nw lt) (dgt n 0) (dgt n 1) (dgt n 2) < lst la lt wt cs (nw la + nw lt) n) :
    pkw la lt wt cs (nw la + nw lt) (n + 1) = (tcl wt ck (nw la + nw lt) (dgt n 0) (dgt n 1) (dgt n 2), n) := by
  have hq := lst_rg (la := la) (lt := lt) hw hc n
  have e0 := okc_okp (fun j => (hc j).1) h (dgt_rg n 0) (dgt_rg n 1) (dgt_rg n 2)
  unfold tcl at hl ⊢
  by_cases q : okc ck (dgt n 0) (dgt n 1) (dgt n 2)
  · rw [if_pos q] at hl ⊢
    have q2 := e0.mp q
    rw [top_ck h wt _ (dgt_rg n 0) (dgt_rg n 1) (dgt_rg n 2) q2] at hl ⊢
    rw [pkw, if_pos]
    refine ⟨q2, ?_⟩
    unfold lst at hl
    split at hl
    · next z => subst z; left; simp [pkw]
    · right; exact hl
  · rw [if_neg q] at hl
    omega
theorem lst_ge {la lt wt cs ck : Nat → Int} (hw : ∀ k, 0 ≤ wt k ∧ wt k ≤ 1000) (hc : ∀ j, 0 ≤ cs j ∧ cs j ≤ 20000) (h : ckf la lt cs ck) (n : Nat) (hl : lst la lt wt cs (nw la + nw lt) n ≤ tcl wt ck (nw la + nw lt) (dgt n 0) (dgt n 1) (dgt n 2)) :
    0 < n ∧ pkw la lt wt cs (nw la + nw lt) (n + 1) = pkw la lt wt cs (nw la + nw lt) n := by
  have e0 := okc_okp (fun j => (hc j).1) h (dgt_rg n 0) (dgt_rg n 1) (dgt_rg n 2)
  unfold tcl at hl
  by_cases z : n = 0
  · subst z
    have q2 := ok0 la lt
    have q := e0.mpr q2
    have := top_rg hw hc (dgt_rg 0 0) (dgt_rg 0 1) (dgt_rg 0 2) q2
    rw [if_pos q, top_ck h wt _ (dgt_rg 0 0) (dgt_rg 0 1) (dgt_rg 0 2) q2] at hl
    unfold lst at hl
    rw [if_pos rfl] at hl
    omega
  · refine ⟨by omega, ?_⟩
    obtain ⟨k, rfl⟩ : ∃ k, n = k + 1 := ⟨n - 1, by omega⟩
    have hb := pkw_rg (la := la) (lt := lt) hw hc k
    unfold lst at hl
    rw [if_neg z] at hl
    rw [pkw, if_neg]
    rintro ⟨q2, q3⟩
    rw [if_pos (e0.mpr q2), top_ck h wt _ (dgt_rg (k + 1) 0) (dgt_rg (k + 1) 1) (dgt_rg (k + 1) 2) q2] at hl
    omega
/-- the word with which a way pairs a word, in bits -/
theorem ptn : ∀ k : Nat, k < 64 → ∀ w : Nat, w < 3 → ((J (k : Int) >>> ((J 2 * (J 2 - J (w : Int))) &&& 31)) &&& J 3) - J 1 = J (dgt k w) := by decide +kernel
end
section
/-! what is found -/
abbrev nr (fs hd : Nat → Int) (sum day : Int) (i : Nat) : Prop := sum < fs i ∨ (sum = fs i ∧ hd i < day)
/-- where a new one stands among n -/
def psn (fs hd : Nat → Int) (sum day : Int) : Nat → Nat
  | 0 => 0
  | n + 1 => if nr fs hd sum day n then psn fs hd sum day n else n + 1
theorem psn_le (fs hd : Nat → Int) (sum day : Int) : ∀ n : Nat, psn fs hd sum day n ≤ n
  | 0 => Nat.le_refl 0
  | n + 1 => by
    have := psn_le fs hd sum day n
    rw [psn]
    split <;> omega
theorem psn_eq {fs hd hd' : Nat → Int} (sum day : Int) : ∀ {n : Nat}, (∀ i, i < n → hd i = hd' i) → psn fs hd sum day n = psn fs hd' sum day n
  | 0, _ => rfl
  | n + 1, h => by
    rw [psn, psn, psn_eq sum day (n := n) (fun i hi => h i (by omega))]
    have e := h n (by omega)
    simp only [nr, e]
/-- f with v put in at place q, the ones behind it moved, up to n -/
def ins (f : Nat → Int) (q n : Nat) (v : Int) : Nat → Int := fun j => if j < q then f j else if j = q then v else if j < n then f (j - 1) else f j
/-- f while its places behind i and below n are moved -/
def mvd (f : Nat → Int) (i n : Nat) : Nat → Int := fun j => if i < j ∧ j < n then f (j - 1) else f j
theorem mvd_0 (f : Nat → Int) {i n : Nat} (h : n ≤ i + 1) : mvd f i n = f := by
  funext j
  unfold mvd
  rw [if_neg (by omega)]
theorem mvd_s (f : Nat → Int) {i n : Nat} (h : i + 1 < n) : iu (mvd f (i + 1) n) (i + 1) (mvd f (i + 1) n i) = mvd f i n := by
  funext j
  by_cases e : j = i + 1
  · subst e
    rw [iu_s]
    unfold mvd
    rw [if_neg (by omega), if_pos (by omega)]
    rfl
  · rw [iu_n _ _ e]
    unfold mvd
    by_cases q : i < j ∧ j < n
    · rw [if_pos q, if_pos (by omega)]
    · rw [if_neg q, if_neg (by omega)]
theorem mvd_e (f : Nat → Int) {q n : Nat} (h : q < n) (v : Int) : iu (mvd f q n) q v = ins f q n v := by
  funext j
  by_cases e : j = q
  · subst e
    rw [iu_s]
    unfold ins
    rw [if_neg (by omega), if_pos rfl]
  · rw [iu_n _ _ e]
    unfold mvd ins
    by_cases z : j < q
    · rw [if_pos z, if_neg (by omega)]
    · rw [if_neg z, if_neg e]
      by_cases y : j < n
      · rw [if_pos y, if_pos (by omega)]
      · rw [if_neg y, if_neg (by omega)]
end
section
set_option maxHeartbeats 4000000 in
set_option maxRecDepth 100000 in
theorem c_Nf_isPlace (l : Launch) (D : va_G) (cI cZ cJ : ClassId) (z : Int) (hz : rg z) : Ri l y_Nf_isPlace w_Nf_isPlace ({ frames := 0, cells := 0, slots := 0, locals := 0 }) D classes [(cI, .int), (cZ, .boolean), (cJ, .long)] [.int (J z)] [] (b2 (0 ≤ z ∧ z < 1000)) := by
  refine Ri_of (cc := b_Nf_isPlace) (maxL := 1) (by decide) rfl (Nat.le_of_ble_eq_true rfl) ?_
  intro p e s m args below meth c hx hb hr hml hts hown hlocks hP hK Q hQ H hH ls hl
  rw [← hH] at hP
  have hl : lv_has ls 1 [(0, .int (J z))] := hl
  refine lv_iload_n hx hb d_Nf_isPlace_0 rfl (lv_at hl 0 rfl) ?_
  refine w_if_lt (tgt := 15) hx hb d_Nf_isPlace_1 (by decide) (by omega) (fun c_1 => ?_) (fun c_1 => ?_)
  · refine lv_iconst (v := J (0)) hx hb d_Nf_isPlace_15 rfl ?_
    exact Ri_ret hx hb hr hlocks hQ hH d_Nf_isPlace_16 (nb_z (by omega)) (by unfold b2; split <;> omega)
  · refine lv_iload_n hx hb d_Nf_isPlace_4 rfl (lv_at hl 0 rfl) ?_
    refine lv_sipush (v := J (1000)) hx hb d_Nf_isPlace_5 (by decide) ?_
    refine w_icmp_ge (tgt := 15) hx hb d_Nf_isPlace_8 (by decide) (by omega) (by omega) (fun c_8 => ?_) (fun c_8 => ?_)
    · refine lv_iconst (v := J (0)) hx hb d_Nf_isPlace_15 rfl ?_
      exact Ri_ret hx hb hr hlocks hQ hH d_Nf_isPlace_16 (nb_z (by omega)) (by unfold b2; split <;> omega)
    · refine lv_iconst (v := J (1)) hx hb d_Nf_isPlace_11 rfl ?_
      refine lv_goto (tgt := 16) hx hb d_Nf_isPlace_12 (by decide) ?_
      exact Ri_ret hx hb hr hlocks hQ hH d_Nf_isPlace_16 (nb_z (by omega)) (by unfold b2; split <;> omega)
set_option maxHeartbeats 4000000 in
set_option maxRecDepth 100000 in
theorem c_Nf_isWord (l : Launch) (D : va_G) (cI cZ cJ : ClassId) (z : Int) (hz : rg z) : Ri l y_Nf_isWord w_Nf_isWord ({ frames := 0, cells := 0, slots := 0, locals := 0 }) D classes [(cI, .int), (cZ, .boolean), (cJ, .long)] [.int (J z)] [] (b2 (0 ≤ z ∧ z < 3)) := by
  refine Ri_of (cc := b_Nf_isWord) (maxL := 1) (by decide) rfl (Nat.le_of_ble_eq_true rfl) ?_
  intro p e s m args below meth c hx hb hr hml hts hown hlocks hP hK Q hQ H hH ls hl
  rw [← hH] at hP
  have hl : lv_has ls 1 [(0, .int (J z))] := hl
  refine lv_iload_n hx hb d_Nf_isWord_0 rfl (lv_at hl 0 rfl) ?_
  refine w_if_lt (tgt := 13) hx hb d_Nf_isWord_1 (by decide) (by omega) (fun c_1 => ?_) (fun c_1 => ?_)
  · refine lv_iconst (v := J (0)) hx hb d_Nf_isWord_13 rfl ?_
    exact Ri_ret hx hb hr hlocks hQ hH d_Nf_isWord_14 (nb_z (by omega)) (by unfold b2; split <;> omega)
  · refine lv_iload_n hx hb d_Nf_isWord_4 rfl (lv_at hl 0 rfl) ?_
    refine lv_iconst (v := J (3)) hx hb d_Nf_isWord_5 rfl ?_
    refine w_icmp_ge (tgt := 13) hx hb d_Nf_isWord_6 (by decide) (by omega) (by omega) (fun c_6 => ?_) (fun c_6 => ?_)
    · refine lv_iconst (v := J (0)) hx hb d_Nf_isWord_13 rfl ?_
      exact Ri_ret hx hb hr hlocks hQ hH d_Nf_isWord_14 (nb_z (by omega)) (by unfold b2; split <;> omega)
    · refine lv_iconst (v := J (1)) hx hb d_Nf_isWord_9 rfl ?_
      refine lv_goto (tgt := 14) hx hb d_Nf_isWord_10 (by decide) ?_
      exact Ri_ret hx hb hr hlocks hQ hH d_Nf_isWord_14 (nb_z (by omega)) (by unfold b2; split <;> omega)
set_option maxHeartbeats 4000000 in
set_option maxRecDepth 100000 in
theorem c_Nf_isLetter (l : Launch) (D : va_G) (cI cZ cJ : ClassId) (z : Int) (hz : rg z) : Ri l y_Nf_isLetter w_Nf_isLetter ({ frames := 0, cells := 0, slots := 0, locals := 0 }) D classes [(cI, .int), (cZ, .boolean), (cJ, .long)] [.int (J z)] [] (b2 (0 ≤ z ∧ z < 26)) := by
  refine Ri_of (cc := b_Nf_isLetter) (maxL := 1) (by decide) rfl (Nat.le_of_ble_eq_true rfl) ?_
  intro p e s m args below meth c hx hb hr hml hts hown hlocks hP hK Q hQ H hH ls hl
  rw [← hH] at hP
  have hl : lv_has ls 1 [(0, .int (J z))] := hl
  refine lv_iload_n hx hb d_Nf_isLetter_0 rfl (lv_at hl 0 rfl) ?_
  refine w_if_lt (tgt := 14) hx hb d_Nf_isLetter_1 (by decide) (by omega) (fun c_1 => ?_) (fun c_1 => ?_)
  · refine lv_iconst (v := J (0)) hx hb d_Nf_isLetter_14 rfl ?_
    exact Ri_ret hx hb hr hlocks hQ hH d_Nf_isLetter_15 (nb_z (by omega)) (by unfold b2; split <;> omega)
  · refine lv_iload_n hx hb d_Nf_isLetter_4 rfl (lv_at hl 0 rfl) ?_
    refine lv_bipush (v := J (26)) hx hb d_Nf_isLetter_5 (by decide) ?_
    refine w_icmp_ge (tgt := 14) hx hb d_Nf_isLetter_7 (by decide) (by omega) (by omega) (fun c_7 => ?_) (fun c_7 => ?_)
    · refine lv_iconst (v := J (0)) hx hb d_Nf_isLetter_14 rfl ?_
      exact Ri_ret hx hb hr hlocks hQ hH d_Nf_isLetter_15 (nb_z (by omega)) (by unfold b2; split <;> omega)
    · refine lv_iconst (v := J (1)) hx hb d_Nf_isLetter_10 rfl ?_
      refine lv_goto (tgt := 15) hx hb d_Nf_isLetter_11 (by decide) ?_
      exact Ri_ret hx hb hr hlocks hQ hH d_Nf_isLetter_15 (nb_z (by omega)) (by unfold b2; split <;> omega)
set_option maxHeartbeats 4000000 in
set_option maxRecDepth 100000 in
theorem c_We_isKind (l : Launch) (D : va_G) (cI cZ cJ : ClassId) (z : Int) (hz : rg z) : Ri l y_We_isKind w_We_isKind ({ frames := 0, cells := 0, slots := 0, locals := 0 }) D classes [(cI, .int), (cZ, .boolean), (cJ, .long)] [.int (J z)] [] (b2 (0 ≤ z ∧ z < 6)) := by
  refine Ri_of (cc := b_We_isKind) (maxL := 1) (by decide) rfl (Nat.le_of_ble_eq_true rfl) ?_
  intro p e s m args below meth c hx hb hr hml hts hown hlocks hP hK Q hQ H hH ls hl
  rw [← hH] at hP
  have hl : lv_has ls 1 [(0, .int (J z))] := hl
  refine lv_iload_n hx hb d_We_isKind_0 rfl (lv_at hl 0 rfl) ?_
  refine w_if_lt (tgt := 14) hx hb d_We_isKind_1 (by decide) (by omega) (fun c_1 => ?_) (fun c_1 => ?_)
  · refine lv_iconst (v := J (0)) hx hb d_We_isKind_14 rfl ?_
    exact Ri_ret hx hb hr hlocks hQ hH d_We_isKind_15 (nb_z (by omega)) (by unfold b2; split <;> omega)
  · refine lv_iload_n hx hb d_We_isKind_4 rfl (lv_at hl 0 rfl) ?_
    refine lv_bipush (v := J (6)) hx hb d_We_isKind_5 (by decide) ?_
    refine w_icmp_ge (tgt := 14) hx hb d_We_isKind_7 (by decide) (by omega) (by omega) (fun c_7 => ?_) (fun c_7 => ?_)
    · refine lv_iconst (v := J (0)) hx hb d_We_isKind_14 rfl ?_
      exact Ri_ret hx hb hr hlocks hQ hH d_We_isKind_15 (nb_z (by omega)) (by unfold b2; split <;> omega)
    · refine lv_iconst (v := J (1)) hx hb d_We_isKind_10 rfl ?_
      refine lv_goto (tgt := 15) hx hb d_We_isKind_11 (by decide) ?_
      exact Ri_ret hx hb hr hlocks hQ hH d_We_isKind_15 (nb_z (by omega)) (by unfold b2; split <;> omega)
set_option maxHeartbeats 4000000 in
set_option maxRecDepth 100000 in
theorem c_We_isWeight (l : Launch) (D : va_G) (cI cZ cJ : ClassId) (z : Int) (hz : rg z) : Ri l y_We_isWeight w_We_isWeight ({ frames := 0, cells := 0, slots := 0, locals := 0 }) D classes [(cI, .int), (cZ, .boolean), (cJ, .long)] [.int (J z)] [] (b2 (0 ≤ z ∧ z ≤ 1000)) := by
  refine Ri_of (cc := b_We_isWeight) (maxL := 1) (by decide) rfl (Nat.le_of_ble_eq_true rfl) ?_
  intro p e s m args below meth c hx hb hr hml hts hown hlocks hP hK Q hQ H hH ls hl
  rw [← hH] at hP
  have hl : lv_has ls 1 [(0, .int (J z))] := hl
  refine lv_iload_n hx hb d_We_isWeight_0 rfl (lv_at hl 0 rfl) ?_
  refine w_if_lt (tgt := 15) hx hb d_We_isWeight_1 (by decide) (by omega) (fun c_1 => ?_) (fun c_1 => ?_)
  · refine lv_iconst (v := J (0)) hx hb d_We_isWeight_15 rfl ?_
    exact Ri_ret hx hb hr hlocks hQ hH d_We_isWeight_16 (nb_z (by omega)) (by unfold b2; split <;> omega)
  · refine lv_iload_n hx hb d_We_isWeight_4 rfl (lv_at hl 0 rfl) ?_
    refine lv_sipush (v := J (1000)) hx hb d_We_isWeight_5 (by decide) ?_
    refine w_icmp_gt (tgt := 15) hx hb d_We_isWeight_8 (by decide) (by omega) (by omega) (fun c_8 => ?_) (fun c_8 => ?_)
    · refine lv_iconst (v := J (0)) hx hb d_We_isWeight_15 rfl ?_
      exact Ri_ret hx hb hr hlocks hQ hH d_We_isWeight_16 (nb_z (by omega)) (by unfold b2; split <;> omega)
    · refine lv_iconst (v := J (1)) hx hb d_We_isWeight_11 rfl ?_
      refine lv_goto (tgt := 16) hx hb d_We_isWeight_12 (by decide) ?_
      exact Ri_ret hx hb hr hlocks hQ hH d_We_isWeight_16 (nb_z (by omega)) (by unfold b2; split <;> omega)
set_option maxHeartbeats 4000000 in
set_option maxRecDepth 100000 in
theorem c_Mo_isWord (l : Launch) (D : va_G) (cI cZ cJ : ClassId) (z : Int) (hz : rg z) : Ri l y_Mo_isWord w_Mo_isWord ({ frames := 0, cells := 0, slots := 0, locals := 0 }) D classes [(cI, .int), (cZ, .boolean), (cJ, .long)] [.int (J z)] [] (b2 (0 ≤ z ∧ z < 3)) := by
  refine Ri_of (cc := b_Mo_isWord) (maxL := 1) (by decide) rfl (Nat.le_of_ble_eq_true rfl) ?_
  intro p e s m args below meth c hx hb hr hml hts hown hlocks hP hK Q hQ H hH ls hl
  rw [← hH] at hP
  have hl : lv_has ls 1 [(0, .int (J z))] := hl
  refine lv_iload_n hx hb d_Mo_isWord_0 rfl (lv_at hl 0 rfl) ?_
  refine w_if_lt (tgt := 13) hx hb d_Mo_isWord_1 (by decide) (by omega) (fun c_1 => ?_) (fun c_1 => ?_)
  · refine lv_iconst (v := J (0)) hx hb d_Mo_isWord_13 rfl ?_
    exact Ri_ret hx hb hr hlocks hQ hH d_Mo_isWord_14 (nb_z (by omega)) (by unfold b2; split <;> omega)
  · refine lv_iload_n hx hb d_Mo_isWord_4 rfl (lv_at hl 0 rfl) ?_
    refine lv_iconst (v := J (3)) hx hb d_Mo_isWord_5 rfl ?_
    refine w_icmp_ge (tgt := 13) hx hb d_Mo_isWord_6 (by decide) (by omega) (by omega) (fun c_6 => ?_) (fun c_6 => ?_)
    · refine lv_iconst (v := J (0)) hx hb d_Mo_isWord_13 rfl ?_
      exact Ri_ret hx hb hr hlocks hQ hH d_Mo_isWord_14 (nb_z (by omega)) (by unfold b2; split <;> omega)
    · refine lv_iconst (v := J (1)) hx hb d_Mo_isWord_9 rfl ?_
      refine lv_goto (tgt := 14) hx hb d_Mo_isWord_10 (by decide) ?_
      exact Ri_ret hx hb hr hlocks hQ hH d_Mo_isWord_14 (nb_z (by omega)) (by unfold b2; split <;> omega)
set_option maxHeartbeats 4000000 in
set_option maxRecDepth 100000 in
theorem c_Wo_startOf (l : Launch) (D : va_G) (cI cZ cJ : ClassId) (w : Nat)  : Ri l y_Wo_startOf w_Wo_startOf ({ frames := 0, cells := 0, slots := 0, locals := 0 }) D classes [(cI, .int), (cZ, .boolean), (cJ, .long)] [.int (J ((w : Nat) : Int))] [] (((w * 10 : Nat) : Int)) := by
  refine Ri_of (cc := b_Wo_startOf) (maxL := 1) (by decide) rfl (Nat.le_of_ble_eq_true rfl) ?_
  intro p e s m args below meth c hx hb hr hml hts hown hlocks hP hK Q hQ H hH ls hl
  rw [← hH] at hP
  have hl : lv_has ls 1 [(0, .int (J ((w : Nat) : Int)))] := hl
  refine lv_iload_n hx hb d_Wo_startOf_0 rfl (lv_at hl 0 rfl) ?_
  refine lv_bipush (v := J (10)) hx hb d_Wo_startOf_1 (by decide) ?_
  refine w_imul hx hb d_Wo_startOf_3 ((w * 10 : Nat) : Int) (by omega) ?_
  exact Ri_ret hx hb hr hlocks hQ hH d_Wo_startOf_4 nb_i (by omega)
set_option maxHeartbeats 4000000 in
set_option maxRecDepth 100000 in
theorem c_Bk_wordAt (l : Launch) (D : va_G) (cI cZ cJ : ClassId) (w : Nat) (o : Nat)  : Ri l y_Bk_wordAt w_Bk_wordAt ({ frames := 0, cells := 0, slots := 0, locals := 0 }) D classes [(cI, .int), (cZ, .boolean), (cJ, .long)] [.int (J ((w : Nat) : Int)), .int (J ((o : Nat) : Int))] [] (((w * 3 + o : Nat) : Int)) := by
  refine Ri_of (cc := b_Bk_wordAt) (maxL := 2) (by decide) rfl (Nat.le_of_ble_eq_true rfl) ?_
  intro p e s m args below meth c hx hb hr hml hts hown hlocks hP hK Q hQ H hH ls hl
  rw [← hH] at hP
  have hl : lv_has ls 2 [(0, .int (J ((w : Nat) : Int))), (1, .int (J ((o : Nat) : Int)))] := hl
  refine lv_iload_n hx hb d_Bk_wordAt_0 rfl (lv_at hl 0 rfl) ?_
  refine lv_iconst (v := J (3)) hx hb d_Bk_wordAt_1 rfl ?_
  refine w_imul hx hb d_Bk_wordAt_2 ((w * 3 : Nat) : Int) (by omega) ?_
  refine lv_iload_n hx hb d_Bk_wordAt_3 rfl (lv_at hl 1 rfl) ?_
  refine w_iadd hx hb d_Bk_wordAt_4 (((w * 3) + o : Nat) : Int) (by omega) ?_
  exact Ri_ret hx hb hr hlocks hQ hH d_Bk_wordAt_5 nb_i (by omega)
set_option maxHeartbeats 4000000 in
set_option maxRecDepth 100000 in
theorem c_We_putIn (l : Launch) (D : va_G) (cI cZ cJ : ClassId) (o : Nat) (a : Nat) (wt : Nat → Int)  : Ri l y_We_putIn w_We_putIn ({ frames := 0, cells := 0, slots := 0, locals := 0 }) D classes [(cI, .int), (cZ, .boolean), (cJ, .long)] [.ref o] [(o, .inr (5, [.ref a])), (a, ca cI 6 wt)] (wt 0) := by
  refine Ri_of (cc := b_We_putIn) (maxL := 1) (by decide) rfl (Nat.le_of_ble_eq_true rfl) ?_
  intro p e s m args below meth c hx hb hr hml hts hown hlocks hP hK Q hQ H hH ls hl
  rw [← hH] at hP
  have hl : lv_has ls 1 [(0, .ref o)] := hl
  refine lv_aload_n hx hb d_We_putIn_0 rfl (lv_at hl 0 rfl) ?_
  refine va_get (D := D) (ci := 5) (v := .ref a) (C := R_We) (T := T_We) (N := 1) hx hb hts i_We hown hK hP 0 rfl rfl 0 (by decide) (hts _ mw_108) (fun _ h9 => h9) rfl d_We_putIn_1 ?_
  refine lv_iconst (v := J (0)) hx hb d_We_putIn_4 rfl ?_
  refine w_iald hx hb hK hP 1 0 rfl rfl 0 (by omega) (by omega) (by omega) d_We_putIn_5 ?_
  exact Ri_ret hx hb hr hlocks hQ hH d_We_putIn_6 nb_i (rfl)
set_option maxHeartbeats 4000000 in
set_option maxRecDepth 100000 in
theorem c_We_leftOut (l : Launch) (D : va_G) (cI cZ cJ : ClassId) (o : Nat) (a : Nat) (wt : Nat → Int)  : Ri l y_We_leftOut w_We_leftOut ({ frames := 0, cells := 0, slots := 0, locals := 0 }) D classes [(cI, .int), (cZ, .boolean), (cJ, .long)] [.ref o] [(o, .inr (5, [.ref a])), (a, ca cI 6 wt)] (wt 1) := by
  refine Ri_of (cc := b_We_leftOut) (maxL := 1) (by decide) rfl (Nat.le_of_ble_eq_true rfl) ?_
  intro p e s m args below meth c hx hb hr hml hts hown hlocks hP hK Q hQ H hH ls hl
  rw [← hH] at hP
  have hl : lv_has ls 1 [(0, .ref o)] := hl
  refine lv_aload_n hx hb d_We_leftOut_0 rfl (lv_at hl 0 rfl) ?_
  refine va_get (D := D) (ci := 5) (v := .ref a) (C := R_We) (T := T_We) (N := 1) hx hb hts i_We hown hK hP 0 rfl rfl 0 (by decide) (hts _ mw_108) (fun _ h9 => h9) rfl d_We_leftOut_1 ?_
  refine lv_iconst (v := J (1)) hx hb d_We_leftOut_4 rfl ?_
  refine w_iald hx hb hK hP 1 0 rfl rfl 1 (by omega) (by omega) (by omega) d_We_leftOut_5 ?_
  exact Ri_ret hx hb hr hlocks hQ hH d_We_leftOut_6 nb_i (rfl)
set_option maxHeartbeats 4000000 in
set_option maxRecDepth 100000 in
theorem c_We_exchanged (l : Launch) (D : va_G) (cI cZ cJ : ClassId) (o : Nat) (a : Nat) (wt : Nat → Int)  : Ri l y_We_exchanged w_We_exchanged ({ frames := 0, cells := 0, slots := 0, locals := 0 }) D classes [(cI, .int), (cZ, .boolean), (cJ, .long)] [.ref o] [(o, .inr (5, [.ref a])), (a, ca cI 6 wt)] (wt 2) := by
  refine Ri_of (cc := b_We_exchanged) (maxL := 1) (by decide) rfl (Nat.le_of_ble_eq_true rfl) ?_
  intro p e s m args below meth c hx hb hr hml hts hown hlocks hP hK Q hQ H hH ls hl
  rw [← hH] at hP
  have hl : lv_has ls 1 [(0, .ref o)] := hl
  refine lv_aload_n hx hb d_We_exchanged_0 rfl (lv_at hl 0 rfl) ?_
  refine va_get (D := D) (ci := 5) (v := .ref a) (C := R_We) (T := T_We) (N := 1) hx hb hts i_We hown hK hP 0 rfl rfl 0 (by decide) (hts _ mw_108) (fun _ h9 => h9) rfl d_We_exchanged_1 ?_
  refine lv_iconst (v := J (2)) hx hb d_We_exchanged_4 rfl ?_
  refine w_iald hx hb hK hP 1 0 rfl rfl 2 (by omega) (by omega) (by omega) d_We_exchanged_5 ?_
  exact Ri_ret hx hb hr hlocks hQ hH d_We_exchanged_6 nb_i (rfl)
set_option maxHeartbeats 4000000 in
set_option maxRecDepth 100000 in
theorem c_We_missing (l : Launch) (D : va_G) (cI cZ cJ : ClassId) (o : Nat) (a : Nat) (wt : Nat → Int)  : Ri l y_We_missing w_We_missing ({ frames := 0, cells := 0, slots := 0, locals := 0 }) D classes [(cI, .int), (cZ, .boolean), (cJ, .long)] [.ref o] [(o, .inr (5, [.ref a])), (a, ca cI 6 wt)] (wt 4) := by
  refine Ri_of (cc := b_We_missing) (maxL := 1) (by decide) rfl (Nat.le_of_ble_eq_true rfl) ?_
  intro p e s m args below meth c hx hb hr hml hts hown hlocks hP hK Q hQ H hH ls hl
  rw [← hH] at hP
  have hl : lv_has ls 1 [(0, .ref o)] := hl
  refine lv_aload_n hx hb d_We_missing_0 rfl (lv_at hl 0 rfl) ?_
  refine va_get (D := D) (ci := 5) (v := .ref a) (C := R_We) (T := T_We) (N := 1) hx hb hts i_We hown hK hP 0 rfl rfl 0 (by decide) (hts _ mw_108) (fun _ h9 => h9) rfl d_We_missing_1 ?_
  refine lv_iconst (v := J (4)) hx hb d_We_missing_4 rfl ?_
  refine w_iald hx hb hK hP 1 0 rfl rfl 4 (by omega) (by omega) (by omega) d_We_missing_5 ?_
  exact Ri_ret hx hb hr hlocks hQ hH d_We_missing_6 nb_i (rfl)
set_option maxHeartbeats 4000000 in
set_option maxRecDepth 100000 in
theorem c_We_turned (l : Launch) (D : va_G) (cI cZ cJ : ClassId) (o : Nat) (a : Nat) (wt : Nat → Int)  : Ri l y_We_turned w_We_turned ({ frames := 0, cells := 0, slots := 0, locals := 0 }) D classes [(cI, .int), (cZ, .boolean), (cJ, .long)] [.ref o] [(o, .inr (5, [.ref a])), (a, ca cI 6 wt)] (wt 5) := by
  refine Ri_of (cc := b_We_turned) (maxL := 1) (by decide) rfl (Nat.le_of_ble_eq_true rfl) ?_
  intro p e s m args below meth c hx hb hr hml hts hown hlocks hP hK Q hQ H hH ls hl
  rw [← hH] at hP
  have hl : lv_has ls 1 [(0, .ref o)] := hl
  refine lv_aload_n hx hb d_We_turned_0 rfl (lv_at hl 0 rfl) ?_
  refine va_get (D := D) (ci := 5) (v := .ref a) (C := R_We) (T := T_We) (N := 1) hx hb hts i_We hown hK hP 0 rfl rfl 0 (by decide) (hts _ mw_108) (fun _ h9 => h9) rfl d_We_turned_1 ?_
  refine lv_iconst (v := J (5)) hx hb d_We_turned_4 rfl ?_
  refine w_iald hx hb hK hP 1 0 rfl rfl 5 (by omega) (by omega) (by omega) d_We_turned_5 ?_
  exact Ri_ret hx hb hr hlocks hQ hH d_We_turned_6 nb_i (rfl)
set_option maxHeartbeats 4000000 in
set_option maxRecDepth 100000 in
theorem c_We_exchangedAlike (l : Launch) (D : va_G) (cI cZ cJ : ClassId) (o : Nat) (a : Nat) (wt : Nat → Int) (hw : ∀ k, 0 ≤ wt k ∧ wt k ≤ 1000) : Ri l y_We_exchangedAlike w_We_exchangedAlike ({ frames := 1, cells := 0, slots := 0, locals := 13 }) D classes [(cI, .int), (cZ, .boolean), (cJ, .long)] [.ref o] [(o, .inr (5, [.ref a])), (a, ca cI 6 wt)] (min (wt 2) (wt 3)) := by
  refine Ri_of (cc := b_We_exchangedAlike) (maxL := 1) (by decide) rfl (Nat.le_of_ble_eq_true rfl) ?_
  intro p e s m args below meth c hx hb hr hml hts hown hlocks hP hK Q hQ H hH ls hl
  rw [← hH] at hP
  have hl : lv_has ls 1 [(0, .ref o)] := hl
  have w2 := hw 2
  have w3 := hw 3
  refine lv_aload_n hx hb d_We_exchangedAlike_0 rfl (lv_at hl 0 rfl) ?_
  refine va_get (D := D) (ci := 5) (v := .ref a) (C := R_We) (T := T_We) (N := 1) hx hb hts i_We hown hK hP 0 rfl rfl 0 (by decide) (hts _ mw_108) (fun _ h9 => h9) rfl d_We_exchangedAlike_1 ?_
  refine lv_iconst (v := J (2)) hx hb d_We_exchangedAlike_4 rfl ?_
  refine w_iald hx hb hK hP 1 0 rfl rfl 2 (by omega) (by omega) (by omega) d_We_exchangedAlike_5 ?_
  refine lv_aload_n hx hb d_We_exchangedAlike_6 rfl (lv_at hl 0 rfl) ?_
  refine va_get (D := D) (ci := 5) (v := .ref a) (C := R_We) (T := T_We) (N := 1) hx hb hts i_We hown hK hP 0 rfl rfl 0 (by decide) (hts _ mw_108) (fun _ h9 => h9) rfl d_We_exchangedAlike_7 ?_
  refine lv_iconst (v := J (3)) hx hb d_We_exchangedAlike_10 rfl ?_
  refine w_iald hx hb hK hP 1 0 rfl rfl 3 (by omega) (by omega) (by omega) d_We_exchangedAlike_11 ?_
  refine w_mmin hx hb (by rw [hml]; exact hl.1.symm) hown (hts _ mw_346) (hts _ mw_347) (hts _ mw_34) (hts _ mw_348) (by decide) (Nat.le_of_ble_eq_true rfl) (by decide) (by decide) d_We_exchangedAlike_12 (by omega) (by omega) ?_
  exact Ri_ret hx hb hr hlocks hQ hH d_We_exchangedAlike_15 nb_i (rfl)
set_option maxHeartbeats 4000000 in
set_option maxRecDepth 100000 in
theorem c_We_replace (l : Launch) (D : va_G) (cI cZ cJ : ClassId) (sz : Nat) (o : Nat) (a : Nat) (wt : Nat → Int) (k : Nat) (v : Int) (hk : k < 6) : Mi l y_We_replace w_We_replace ({ frames := 0, cells := 0, slots := 0, locals := 0 }) false D classes [(cI, .int), (cZ, .boolean), (cJ, .long)] sz [.ref o, .int (J ((k : Nat) : Int)), .int (J v)] [(o, .inr (5, [.ref a])), (a, ca cI 6 wt)] (wt k) (S := Unit) (fun _ => True) (fun u : Unit => [(o, .inr (5, [.ref a])), (a, ca cI 6 (iu wt k v))]) 0 0 := by
  refine Mi_of (cc := b_We_replace) (maxL := 4) (by decide) rfl (Nat.le_of_ble_eq_true rfl) ?_
  intro p e s m args below meth c hx hb hr hml hts hown hlocks A hA hP hK hD hT hS Q hQ H hH ls hl
  subst hH
  have hl : lv_has ls 4 [(0, .ref o), (1, .int (J ((k : Nat) : Int))), (2, .int (J v))] := hl
  refine lv_aload_n hx hb d_We_replace_0 rfl (lv_at hl 0 rfl) ?_
  refine va_get (D := D) (ci := 5) (v := .ref a) (C := R_We) (T := T_We) (N := 1) hx hb hts i_We hown hK hP 0 rfl rfl 0 (by decide) (hts _ mw_108) (fun _ h9 => h9) rfl d_We_replace_1 ?_
  refine lv_iload_n hx hb d_We_replace_4 rfl (lv_at hl 1 rfl) ?_
  refine w_iald hx hb hK hP 1 0 rfl rfl k (by omega) (by omega) (by omega) d_We_replace_5 ?_
  refine lv_istore_n (lv' := [(3, .int (J (wt k))), (0, .ref o), (1, .int (J ((k : Nat) : Int))), (2, .int (J v))]) hx hb d_We_replace_6 rfl hl (by decide) rfl (fun ls hl => ?_)
  refine lv_aload_n hx hb d_We_replace_7 rfl (lv_at hl 1 rfl) ?_
  refine va_get (D := D) (ci := 5) (v := .ref a) (C := R_We) (T := T_We) (N := 1) hx hb hts i_We hown hK hP 0 rfl rfl 0 (by decide) (hts _ mw_108) (fun _ h9 => h9) rfl d_We_replace_8 ?_
  refine lv_iload_n hx hb d_We_replace_11 rfl (lv_at hl 2 rfl) ?_
  refine lv_iload_n hx hb d_We_replace_12 rfl (lv_at hl 3 rfl) ?_
  refine w_iast hx hb hK hP hD hS 1 0 rfl rfl k (by omega) (by omega) (by omega) d_We_replace_13 (fun H locs hP hD hS => ?_)
  have hP : va_P D classes [(o, .inr (5, [.ref a])), (a, ca cI 6 (iu wt k v))] H := hP
  have hD : va_D A [(o, .inr (5, [.ref a])), (a, ca cI 6 (iu wt k v))] := hD
  refine lv_iload_n hx hb d_We_replace_14 rfl (lv_at hl 0 rfl) ?_
  exact Mi_ret hx hb hr hlocks hQ d_We_replace_15 hP hK hD hS nb_i (rfl) () (trivial) [0, 1] rfl (by decide)
set_option maxHeartbeats 4000000 in
set_option maxRecDepth 100000 in
theorem c_Wo_isNone (l : Launch) (D : va_G) (cI cZ cJ : ClassId) (o : Nat) (aL : Nat) (aN : Nat) (nN : Nat) (ct : Int) (ln : Nat → Int) (w : Nat) (hn : nN ≤ 120) (hln : ∀ k, 0 ≤ ln k ∧ ln k ≤ 10) (hwn : w < nN) : Ri l y_Wo_isNone w_Wo_isNone ({ frames := 0, cells := 0, slots := 0, locals := 0 }) D classes [(cI, .int), (cZ, .boolean), (cJ, .long)] [.ref o, .int (J ((w : Nat) : Int))] [(o, .inr (6, [.ref aL, .ref aN, .int (J ct)])), (aN, ca cI nN ln)] (b2 (ln w = 0)) := by
  refine Ri_of (cc := b_Wo_isNone) (maxL := 2) (by decide) rfl (Nat.le_of_ble_eq_true rfl) ?_
  intro p e s m args below meth c hx hb hr hml hts hown hlocks hP hK Q hQ H hH ls hl
  rw [← hH] at hP
  have hl : lv_has ls 2 [(0, .ref o), (1, .int (J ((w : Nat) : Int)))] := hl
  have b1 := hln w
  refine lv_aload_n hx hb d_Wo_isNone_0 rfl (lv_at hl 0 rfl) ?_
  refine va_get (D := D) (ci := 6) (v := .ref aN) (C := R_Wo) (T := T_Wo) (N := 3) hx hb hts i_Wo hown hK hP 0 rfl rfl 1 (by decide) (hts _ mw_62) (fun _ h9 => h9) rfl d_Wo_isNone_1 ?_
  refine lv_iload_n hx hb d_Wo_isNone_4 rfl (lv_at hl 1 rfl) ?_
  refine w_iald hx hb hK hP 1 0 rfl rfl w (by omega) (by omega) (by omega) d_Wo_isNone_5 ?_
  refine w_if_ne (tgt := 13) hx hb d_Wo_isNone_6 (by decide) (by omega) (fun c_6 => ?_) (fun c_6 => ?_)
  · refine lv_iconst (v := J (0)) hx hb d_Wo_isNone_13 rfl ?_
    exact Ri_ret hx hb hr hlocks hQ hH d_Wo_isNone_14 (nb_z (by omega)) (by unfold b2; split <;> omega)
  · refine lv_iconst (v := J (1)) hx hb d_Wo_isNone_9 rfl ?_
    refine lv_goto (tgt := 14) hx hb d_Wo_isNone_10 (by decide) ?_
    exact Ri_ret hx hb hr hlocks hQ hH d_Wo_isNone_14 (nb_z (by omega)) (by unfold b2; split <;> omega)
set_option maxHeartbeats 4000000 in
set_option maxRecDepth 100000 in
theorem c_Wo_append_full (l : Launch) (D : va_G) (cI cZ cJ : ClassId) (o : Nat) (aL : Nat) (aN : Nat) (nL : Nat) (nN : Nat) (ct : Int) (g : Nat → Int) (ln : Nat → Int) (w : Nat) (ch : Int) (hn : nN ≤ 120) (hnl : nL = 10 * nN) (hln : ∀ k, 0 ≤ ln k ∧ ln k ≤ 10) (hwn : w < nN) (hf : ln w = 10) : Ri l y_Wo_append w_Wo_append ({ frames := 0, cells := 0, slots := 0, locals := 0 }) D classes [(cI, .int), (cZ, .boolean), (cJ, .long)] [.ref o, .int (J ((w : Nat) : Int)), .int (J ch)] [(o, .inr (6, [.ref aL, .ref aN, .int (J ct)])), (aL, ca cI nL g), (aN, ca cI nN ln)] (0) := by
  refine Ri_of (cc := b_Wo_append) (maxL := 3) (by decide) rfl (Nat.le_of_ble_eq_true rfl) ?_
  intro p e s m args below meth c hx hb hr hml hts hown hlocks hP hK Q hQ H hH ls hl
  rw [← hH] at hP
  have hl : lv_has ls 3 [(0, .ref o), (1, .int (J ((w : Nat) : Int))), (2, .int (J ch))] := hl
  have b1 := hln w
  refine lv_aload_n hx hb d_Wo_append_0 rfl (lv_at hl 0 rfl) ?_
  refine va_get (D := D) (ci := 6) (v := .ref aN) (C := R_Wo) (T := T_Wo) (N := 3) hx hb hts i_Wo hown hK hP 0 rfl rfl 1 (by decide) (hts _ mw_62) (fun _ h9 => h9) rfl d_Wo_append_1 ?_
  refine lv_iload_n hx hb d_Wo_append_4 rfl (lv_at hl 1 rfl) ?_
  refine w_iald hx hb hK hP 2 0 rfl rfl w (by omega) (by omega) (by omega) d_Wo_append_5 ?_
  refine lv_bipush (v := J (10)) hx hb d_Wo_append_6 (by decide) ?_
  refine w_icmp_lt (tgt := 13) hx hb d_Wo_append_8 (by decide) (by omega) (by omega) (fun c_8 => ?_) (fun c_8 => ?_)
  · exfalso; omega
  · refine lv_iconst (v := J (0)) hx hb d_Wo_append_11 rfl ?_
    exact Ri_ret hx hb hr hlocks hQ hH d_Wo_append_12 (nb_z (by omega)) (by omega)
set_option maxHeartbeats 4000000 in
set_option maxRecDepth 100000 in
theorem c_Wo_append (l : Launch) (D : va_G) (cI cZ cJ : ClassId) (sz : Nat) (o : Nat) (aL : Nat) (aN : Nat) (nL : Nat) (nN : Nat) (ct : Int) (g : Nat → Int) (ln : Nat → Int) (w : Nat) (ch : Int) (hn : nN ≤ 120) (hnl : nL = 10 * nN) (hln : ∀ k, 0 ≤ ln k ∧ ln k ≤ 10) (hwn : w < nN) (hf : ln w < 10) : Mi l y_Wo_append w_Wo_append ({ frames := 1, cells := 0, slots := 0, locals := 20 }) false D classes [(cI, .int), (cZ, .boolean), (cJ, .long)] sz [.ref o, .int (J ((w : Nat) : Int)), .int (J ch)] [(o, .inr (6, [.ref aL, .ref aN, .int (J ct)])), (aL, ca cI nL g), (aN, ca cI nN ln)] (1) (S := Unit) (fun _ => True) (fun u : Unit => [(o, .inr (6, [.ref aL, .ref aN, .int (J (ct + 1))])), (aL, ca cI nL (iu g (w * 10 + (ln w).toNat) ch)), (aN, ca cI nN (iu ln w (ln w + 1)))]) 0 0 := by
  refine Mi_of (cc := b_Wo_append) (maxL := 3) (by decide) rfl (Nat.le_of_ble_eq_true rfl) ?_
  intro p e s m args below meth c hx hb hr hml hts hown hlocks A hA hP hK hD hT hS Q hQ H hH ls hl
  subst hH
  have hl : lv_has ls 3 [(0, .ref o), (1, .int (J ((w : Nat) : Int))), (2, .int (J ch))] := hl
  have b1 := hln w
  refine lv_aload_n hx hb d_Wo_append_0 rfl (lv_at hl 0 rfl) ?_
  refine va_get (D := D) (ci := 6) (v := .ref aN) (C := R_Wo) (T := T_Wo) (N := 3) hx hb hts i_Wo hown hK hP 0 rfl rfl 1 (by decide) (hts _ mw_62) (fun _ h9 => h9) rfl d_Wo_append_1 ?_
  refine lv_iload_n hx hb d_Wo_append_4 rfl (lv_at hl 1 rfl) ?_
  refine w_iald hx hb hK hP 2 0 rfl rfl w (by omega) (by omega) (by omega) d_Wo_append_5 ?_
  refine lv_bipush (v := J (10)) hx hb d_Wo_append_6 (by decide) ?_
  refine w_icmp_lt (tgt := 13) hx hb d_Wo_append_8 (by decide) (by omega) (by omega) (fun c_8 => ?_) (fun c_8 => ?_)
  · refine lv_aload_n hx hb d_Wo_append_13 rfl (lv_at hl 0 rfl) ?_
    refine va_get (D := D) (ci := 6) (v := .ref aL) (C := R_Wo) (T := T_Wo) (N := 3) hx hb hts i_Wo hown hK hP 0 rfl rfl 0 (by decide) (hts _ mw_59) (fun _ h9 => h9) rfl d_Wo_append_14 ?_
    refine lv_iload_n hx hb d_Wo_append_17 rfl (lv_at hl 1 rfl) ?_
    refine Ri_call (va_runS (As := [.int (J ((w : Nat) : Int))]) (rest := [.ref aL]) ⟨hx, hb, hml, hown, hts⟩ (c_Wo_startOf l D cI cZ cJ w ) (va_cwS 1 hts (g_S mw_250 mw_251 mw_27 mw_252) rfl rfl rfl (by decide +kernel) ⟨Nat.le_of_ble_eq_true rfl, Nat.le_of_ble_eq_true rfl⟩) (pre_RS hP hK [] rfl) rfl rfl hl.1 rfl (lv_room (Nat.le_of_ble_eq_true rfl)) d_Wo_append_18 ⟨Nat.le_of_ble_eq_true rfl, Nat.le_of_ble_eq_true rfl⟩) ?_
    refine lv_aload_n hx hb d_Wo_append_21 rfl (lv_at hl 0 rfl) ?_
    refine va_get (D := D) (ci := 6) (v := .ref aN) (C := R_Wo) (T := T_Wo) (N := 3) hx hb hts i_Wo hown hK hP 0 rfl rfl 1 (by decide) (hts _ mw_62) (fun _ h9 => h9) rfl d_Wo_append_22 ?_
    refine lv_iload_n hx hb d_Wo_append_25 rfl (lv_at hl 1 rfl) ?_
    refine w_iald hx hb hK hP 2 0 rfl rfl w (by omega) (by omega) (by omega) d_Wo_append_26 ?_
    refine w_iadd hx hb d_Wo_append_27 ((w * 10 + (ln w).toNat : Nat) : Int) (by omega) ?_
    refine lv_iload_n hx hb d_Wo_append_28 rfl (lv_at hl 2 rfl) ?_
    refine w_iast hx hb hK hP hD hS 1 0 rfl rfl (w * 10 + (ln w).toNat) (by omega) (by omega) (by omega) d_Wo_append_29 (fun H locs hP hD hS => ?_)
    have hP : va_P D classes [(o, .inr (6, [.ref aL, .ref aN, .int (J ct)])), (aL, ca cI nL (iu g (w * 10 + (ln w).toNat) ch)), (aN, ca cI nN ln)] H := hP
    have hD : va_D A [(o, .inr (6, [.ref aL, .ref aN, .int (J ct)])), (aL, ca cI nL (iu g (w * 10 + (ln w).toNat) ch)), (aN, ca cI nN ln)] := hD
    refine lv_aload_n hx hb d_Wo_append_30 rfl (lv_at hl 0 rfl) ?_
    refine va_get (D := D) (ci := 6) (v := .ref aN) (C := R_Wo) (T := T_Wo) (N := 3) hx hb hts i_Wo hown hK hP 0 rfl rfl 1 (by decide) (hts _ mw_62) (fun _ h9 => h9) rfl d_Wo_append_31 ?_
    refine lv_iload_n hx hb d_Wo_append_34 rfl (lv_at hl 1 rfl) ?_
    refine lv_dup2_11 hx hb d_Wo_append_35 rfl rfl ?_
    refine w_iald hx hb hK hP 2 0 rfl rfl w (by omega) (by omega) (by omega) d_Wo_append_36 ?_
    refine lv_iconst (v := J (1)) hx hb d_Wo_append_37 rfl ?_
    refine w_iadd hx hb d_Wo_append_38 ((ln w) + 1) (rfl) ?_
    refine w_iast hx hb hK hP hD hS 2 0 rfl rfl w (by omega) (by omega) (by omega) d_Wo_append_39 (fun H locs hP hD hS => ?_)
    have hP : va_P D classes [(o, .inr (6, [.ref aL, .ref aN, .int (J ct)])), (aL, ca cI nL (iu g (w * 10 + (ln w).toNat) ch)), (aN, ca cI nN (iu ln w ((ln w) + 1)))] H := hP
    have hD : va_D A [(o, .inr (6, [.ref aL, .ref aN, .int (J ct)])), (aL, ca cI nL (iu g (w * 10 + (ln w).toNat) ch)), (aN, ca cI nN (iu ln w ((ln w) + 1)))] := hD
    refine lv_aload_n hx hb d_Wo_append_40 rfl (lv_at hl 0 rfl) ?_
    refine lv_dup hx hb d_Wo_append_41 rfl ?_
    refine va_get (D := D) (ci := 6) (v := .int (J ct)) (C := R_Wo) (T := T_Wo) (N := 3) hx hb hts i_Wo hown hK hP 0 rfl rfl 2 (by decide) (hts _ mw_65) (fun _ h9 => h9) rfl d_Wo_append_42 ?_
    refine lv_iconst (v := J (1)) hx hb d_Wo_append_45 rfl ?_
    refine w_iadd hx hb d_Wo_append_46 (ct + 1) (rfl) ?_
    refine va_put (D := D) (ci := 6) (v := .int (J (ct + 1))) (ty := .int) (C := R_Wo) (T := T_Wo) (N := 3) hx hb hts i_Wo t_Wo k_Wo n_Wo hown hK hP hD hS 0 rfl rfl 2 (by decide) (hts _ mw_65) (fun _ h9 => h9) rfl (by decide +kernel) rfl rfl (Nat.le_of_ble_eq_true rfl) d_Wo_append_47 (fun H locs hP hD hS => ?_)
    have hP : va_P D classes [(o, .inr (6, [.ref aL, .ref aN, .int (J (ct + 1))])), (aL, ca cI nL (iu g (w * 10 + (ln w).toNat) ch)), (aN, ca cI nN (iu ln w ((ln w) + 1)))] H := hP
    have hD : va_D A [(o, .inr (6, [.ref aL, .ref aN, .int (J (ct + 1))])), (aL, ca cI nL (iu g (w * 10 + (ln w).toNat) ch)), (aN, ca cI nN (iu ln w ((ln w) + 1)))] := hD
    refine lv_iconst (v := J (1)) hx hb d_Wo_append_50 rfl ?_
    exact Mi_ret hx hb hr hlocks hQ d_Wo_append_51 hP hK hD hS (nb_z (by omega)) (by omega) () (trivial) [0, 1, 2] rfl (by decide)
  · exfalso; omega
def zr (f : Nat → Int) (i : Nat) : Nat → Int := fun k => if k < i then 0 else f k
theorem zr_0 (f : Nat → Int) : zr f 0 = f := by funext k; unfold zr; rw [if_neg (by omega)]
theorem zr_s (f : Nat → Int) (i : Nat) : iu (zr f i) i 0 = zr f (i + 1) := by
  funext k
  by_cases h : k = i
  · subst h; rw [iu_s]; unfold zr; rw [if_pos (by omega)]
  · rw [iu_n _ _ h]; unfold zr
    by_cases q : k < i
    · rw [if_pos q, if_pos (by omega)]
    · rw [if_neg q, if_neg (by omega)]
set_option maxHeartbeats 4000000 in
set_option maxRecDepth 100000 in
theorem c_Wo_clear (l : Launch) (D : va_G) (cI cZ cJ : ClassId) (sz : Nat) (o : Nat) (aL : Nat) (aN : Nat) (nL : Nat) (nN : Nat) (ct : Int) (g : Nat → Int) (ln : Nat → Int) (hn : nN ≤ 120) : Mv l y_Wo_clear w_Wo_clear ({ frames := 0, cells := 0, slots := 0, locals := 0 }) false D classes [(cI, .int), (cZ, .boolean), (cJ, .long)] sz [.ref o] [(o, .inr (6, [.ref aL, .ref aN, .int (J ct)])), (aL, ca cI nL g), (aN, ca cI nN ln)] (S := Unit) (fun _ => True) (fun u : Unit => [(o, .inr (6, [.ref aL, .ref aN, .int (J 0)])), (aL, ca cI nL g), (aN, ca cI nN (zr ln nN))]) 0 0 := by
  refine Mv_of (cc := b_Wo_clear) (maxL := 2) (by decide) rfl (Nat.le_of_ble_eq_true rfl) ?_
  intro p e s m args below meth c hx hb hr hml hts hown hlocks hin A hA hP hK hD hT hS Q hQ H hH ls hl
  subst hH
  have hl : lv_has ls 2 [(0, .ref o)] := hl
  refine lv_iconst (v := J (0)) hx hb d_Wo_clear_0 rfl ?_
  refine lv_istore_n (lv' := [(1, .int (J 0)), (0, .ref o)]) hx hb d_Wo_clear_1 rfl hl (by decide) rfl (fun ls hl => ?_)
  have lp_2 : ∀ (fu : Nat) (i : Nat), (i ≤ nN) → (nN - i) < fu → ∀ (H : Heap) (locs : List Loc), va_P D classes [(o, .inr (6, [.ref aL, .ref aN, .int (J ct)])), (aL, ca cI nL g), (aN, ca cI nN (zr ln i))] H → va_D A [(o, .inr (6, [.ref aL, .ref aN, .int (J ct)])), (aL, ca cI nL g), (aN, ca cI nN (zr ln i))] → va_S A s.heap H locs → ∀ ls : Array Slot, lv_has ls 2 [(0, .ref o), (1, .int (J ((i : Nat) : Int)))] → W p l e ({ frames := 0, cells := 0, slots := 0, locals := 0 }) s m args below meth c H locs 0 0 Q (F0 m 2 ls []) := by
    intro fu
    induction fu with
    | zero => intro i hi hfu; exact absurd hfu (Nat.not_lt_zero _)
    | succ fu ih_2 =>
      intro i hi hfu H locs hP hD hS ls hl
      refine lv_iload_n hx hb d_Wo_clear_2 rfl (lv_at hl 1 rfl) ?_
      refine lv_aload_n hx hb d_Wo_clear_3 rfl (lv_at hl 0 rfl) ?_
      refine va_get (D := D) (ci := 6) (v := .ref aN) (C := R_Wo) (T := T_Wo) (N := 3) hx hb hts i_Wo hown hK hP 0 rfl rfl 1 (by decide) (hts _ mw_62) (fun _ h9 => h9) rfl d_Wo_clear_4 ?_
      refine va_alen (v := J ((nN : Nat) : Int)) hx hb hK hP 2 0 rfl rfl (J_nat _).symm d_Wo_clear_7 ?_
      refine w_icmp_ge (tgt := 24) hx hb d_Wo_clear_8 (by decide) (by omega) (by omega) (fun c_8 => ?_) (fun c_8 => ?_)
      · obtain rfl : nN = i := by omega
        refine lv_aload_n hx hb d_Wo_clear_24 rfl (lv_at hl 0 rfl) ?_
        refine lv_iconst (v := J (0)) hx hb d_Wo_clear_25 rfl ?_
        refine va_put (D := D) (ci := 6) (v := .int (J 0)) (ty := .int) (C := R_Wo) (T := T_Wo) (N := 3) hx hb hts i_Wo t_Wo k_Wo n_Wo hown hK hP hD hS 0 rfl rfl 2 (by decide) (hts _ mw_65) (fun _ h9 => h9) rfl (by decide +kernel) rfl rfl (Nat.le_of_ble_eq_true rfl) d_Wo_clear_26 (fun H locs hP hD hS => ?_)
        have hP : va_P D classes [(o, .inr (6, [.ref aL, .ref aN, .int (J 0)])), (aL, ca cI nL g), (aN, ca cI nN (zr ln nN))] H := hP
        have hD : va_D A [(o, .inr (6, [.ref aL, .ref aN, .int (J 0)])), (aL, ca cI nL g), (aN, ca cI nN (zr ln nN))] := hD
        exact Mv_ret hx hb hr hlocks hQ d_Wo_clear_29 hP hK hD hS () (trivial) [0, 1, 2] rfl (by decide)
      · refine lv_aload_n hx hb d_Wo_clear_11 rfl (lv_at hl 0 rfl) ?_
        refine va_get (D := D) (ci := 6) (v := .ref aN) (C := R_Wo) (T := T_Wo) (N := 3) hx hb hts i_Wo hown hK hP 0 rfl rfl 1 (by decide) (hts _ mw_62) (fun _ h9 => h9) rfl d_Wo_clear_12 ?_
        refine lv_iload_n hx hb d_Wo_clear_15 rfl (lv_at hl 1 rfl) ?_
        refine lv_iconst (v := J (0)) hx hb d_Wo_clear_16 rfl ?_
        refine w_iast hx hb hK hP hD hS 2 0 rfl rfl i (by omega) (by omega) (by omega) d_Wo_clear_17 (fun H locs hP hD hS => ?_)
        have hP : va_P D classes [(o, .inr (6, [.ref aL, .ref aN, .int (J ct)])), (aL, ca cI nL g), (aN, ca cI nN (iu (zr ln i) i 0))] H := hP
        have hD : va_D A [(o, .inr (6, [.ref aL, .ref aN, .int (J ct)])), (aL, ca cI nL g), (aN, ca cI nN (iu (zr ln i) i 0))] := hD
        have eg : iu (zr ln i) i 0 = zr ln (i + 1) := zr_s ln i
        rw [eg] at hP hD
        clear eg
        refine w_iinc (k := 1) (lv' := [(1, .int (J ((i + 1 : Nat) : Int))), (0, .ref o)]) hx hb d_Wo_clear_18 hl rfl ((i + 1 : Nat) : Int) (by omega) (by decide) rfl (fun ls hl => ?_)
        refine lv_goto (tgt := 2) hx hb d_Wo_clear_21 (by decide) ?_
        exact ih_2 (i + 1) (by omega) (by omega) _ _ (P_map hP [0, 1, 2] rfl) (hD.sub [0, 1, 2] (by decide) rfl) hS ls (lv_sub hl [1, 0] rfl)
  rw [← zr_0 ln] at hP hD
  exact lp_2 ((nN - 0) + 1) 0 (by omega) (Nat.lt_succ_self _) _ _ (P_map hP [0, 1, 2] rfl) (hD.sub [0, 1, 2] (by decide) rfl) hS ls (lv_sub hl [1, 0] rfl)
set_option maxHeartbeats 4000000 in
set_option maxRecDepth 100000 in
theorem c_Bk_has (l : Launch) (D : va_G) (cI cZ cJ : ClassId) (o : Nat) (q0 : Nat) (q1 : Nat) (q2 : Nat) (q3 : Nat) (q4 : Nat) (n : Nat) (z : Int) (hz : rg z) (hn : n ≤ 40) : Ri l y_Bk_has w_Bk_has ({ frames := 0, cells := 0, slots := 0, locals := 0 }) D classes [(cI, .int), (cZ, .boolean), (cJ, .long)] [.ref o, .int (J z)] [(o, .inr (0, [.ref q0, .ref q1, .ref q2, .ref q3, .ref q4, .int (J ((n : Nat) : Int))]))] (b2 (0 ≤ z ∧ z < (n : Int))) := by
  refine Ri_of (cc := b_Bk_has) (maxL := 2) (by decide) rfl (Nat.le_of_ble_eq_true rfl) ?_
  intro p e s m args below meth c hx hb hr hml hts hown hlocks hP hK Q hQ H hH ls hl
  rw [← hH] at hP
  have hl : lv_has ls 2 [(0, .ref o), (1, .int (J z))] := hl
  refine lv_iload_n hx hb d_Bk_has_0 rfl (lv_at hl 1 rfl) ?_
  refine w_if_lt (tgt := 16) hx hb d_Bk_has_1 (by decide) (by omega) (fun c_1 => ?_) (fun c_1 => ?_)
  · refine lv_iconst (v := J (0)) hx hb d_Bk_has_16 rfl ?_
    exact Ri_ret hx hb hr hlocks hQ hH d_Bk_has_17 (nb_z (by omega)) (by unfold b2; split <;> omega)
  · refine lv_iload_n hx hb d_Bk_has_4 rfl (lv_at hl 1 rfl) ?_
    refine lv_aload_n hx hb d_Bk_has_5 rfl (lv_at hl 0 rfl) ?_
    refine va_get (D := D) (ci := 0) (v := .int (J ((n : Nat) : Int))) (C := R_Bk) (T := T_Bk) (N := 6) hx hb hts i_Bk hown hK hP 0 rfl rfl 5 (by decide) (hts _ mw_84) (fun _ h9 => h9) rfl d_Bk_has_6 ?_
    refine w_icmp_ge (tgt := 16) hx hb d_Bk_has_9 (by decide) (by omega) (by omega) (fun c_9 => ?_) (fun c_9 => ?_)
    · refine lv_iconst (v := J (0)) hx hb d_Bk_has_16 rfl ?_
      exact Ri_ret hx hb hr hlocks hQ hH d_Bk_has_17 (nb_z (by omega)) (by unfold b2; split <;> omega)
    · refine lv_iconst (v := J (1)) hx hb d_Bk_has_12 rfl ?_
      refine lv_goto (tgt := 17) hx hb d_Bk_has_13 (by decide) ?_
      exact Ri_ret hx hb hr hlocks hQ hH d_Bk_has_17 (nb_z (by omega)) (by unfold b2; split <;> omega)
set_option maxHeartbeats 4000000 in
set_option maxRecDepth 100000 in
theorem c_Bk_isFull (l : Launch) (D : va_G) (cI cZ cJ : ClassId) (o : Nat) (q0 : Nat) (q1 : Nat) (q2 : Nat) (q3 : Nat) (q4 : Nat) (n : Nat) (hn : n ≤ 40) : Ri l y_Bk_isFull w_Bk_isFull ({ frames := 0, cells := 0, slots := 0, locals := 0 }) D classes [(cI, .int), (cZ, .boolean), (cJ, .long)] [.ref o] [(o, .inr (0, [.ref q0, .ref q1, .ref q2, .ref q3, .ref q4, .int (J ((n : Nat) : Int))]))] (b2 (n = 40)) := by
  refine Ri_of (cc := b_Bk_isFull) (maxL := 1) (by decide) rfl (Nat.le_of_ble_eq_true rfl) ?_
  intro p e s m args below meth c hx hb hr hml hts hown hlocks hP hK Q hQ H hH ls hl
  rw [← hH] at hP
  have hl : lv_has ls 1 [(0, .ref o)] := hl
  refine lv_aload_n hx hb d_Bk_isFull_0 rfl (lv_at hl 0 rfl) ?_
  refine va_get (D := D) (ci := 0) (v := .int (J ((n : Nat) : Int))) (C := R_Bk) (T := T_Bk) (N := 6) hx hb hts i_Bk hown hK hP 0 rfl rfl 5 (by decide) (hts _ mw_84) (fun _ h9 => h9) rfl d_Bk_isFull_1 ?_
  refine lv_bipush (v := J (40)) hx hb d_Bk_isFull_4 (by decide) ?_
  refine w_icmp_lt (tgt := 13) hx hb d_Bk_isFull_6 (by decide) (by omega) (by omega) (fun c_6 => ?_) (fun c_6 => ?_)
  · refine lv_iconst (v := J (0)) hx hb d_Bk_isFull_13 rfl ?_
    exact Ri_ret hx hb hr hlocks hQ hH d_Bk_isFull_14 (nb_z (by omega)) (by unfold b2; split <;> omega)
  · refine lv_iconst (v := J (1)) hx hb d_Bk_isFull_9 rfl ?_
    refine lv_goto (tgt := 14) hx hb d_Bk_isFull_10 (by decide) ?_
    exact Ri_ret hx hb hr hlocks hQ hH d_Bk_isFull_14 (nb_z (by omega)) (by unfold b2; split <;> omega)
end
section
set_option maxHeartbeats 4000000 in
set_option maxRecDepth 100000 in
theorem c_Bk_addEntry (l : Launch) (D : va_G) (cI cZ cJ : ClassId) (sz : Nat) (o : Nat) (q0 : Nat) (q1 : Nat) (q2 : Nat) (q3 : Nat) (q4 : Nat) (n : Nat) (pl : Nat → Int) (dy : Nat → Int) (z : Int) (hn : n < 40) : Mi l y_Bk_addEntry w_Bk_addEntry ({ frames := 0, cells := 0, slots := 0, locals := 0 }) false D classes [(cI, .int), (cZ, .boolean), (cJ, .long)] sz [.ref o, .int (J z)] [(o, .inr (0, [.ref q0, .ref q1, .ref q2, .ref q3, .ref q4, .int (J ((n : Nat) : Int))])), (q1, ca cI 40 pl), (q2, ca cI 40 dy)] (((n : Nat) : Int)) (S := Unit) (fun _ => True) (fun u : Unit => [(o, .inr (0, [.ref q0, .ref q1, .ref q2, .ref q3, .ref q4, .int (J ((n + 1 : Nat) : Int))])), (q1, ca cI 40 (iu pl n z)), (q2, ca cI 40 (iu dy n (-1)))]) 0 0 := by
  refine Mi_of (cc := b_Bk_addEntry) (maxL := 3) (by decide) rfl (Nat.le_of_ble_eq_true rfl) ?_
  intro p e s m args below meth c hx hb hr hml hts hown hlocks A hA hP hK hD hT hS Q hQ H hH ls hl
  subst hH
  have hl : lv_has ls 3 [(0, .ref o), (1, .int (J z))] := hl
  refine lv_aload_n hx hb d_Bk_addEntry_0 rfl (lv_at hl 0 rfl) ?_
  refine va_get (D := D) (ci := 0) (v := .int (J ((n : Nat) : Int))) (C := R_Bk) (T := T_Bk) (N := 6) hx hb hts i_Bk hown hK hP 0 rfl rfl 5 (by decide) (hts _ mw_84) (fun _ h9 => h9) rfl d_Bk_addEntry_1 ?_
  refine lv_istore_n (lv' := [(2, .int (J ((n : Nat) : Int))), (0, .ref o), (1, .int (J z))]) hx hb d_Bk_addEntry_4 rfl hl (by decide) rfl (fun ls hl => ?_)
  refine lv_aload_n hx hb d_Bk_addEntry_5 rfl (lv_at hl 1 rfl) ?_
  refine va_get (D := D) (ci := 0) (v := .ref q1) (C := R_Bk) (T := T_Bk) (N := 6) hx hb hts i_Bk hown hK hP 0 rfl rfl 1 (by decide) (hts _ mw_77) (fun _ h9 => h9) rfl d_Bk_addEntry_6 ?_
  refine lv_iload_n hx hb d_Bk_addEntry_9 rfl (lv_at hl 0 rfl) ?_
  refine lv_iload_n hx hb d_Bk_addEntry_10 rfl (lv_at hl 2 rfl) ?_
  refine w_iast hx hb hK hP hD hS 1 0 rfl rfl n (by omega) (by omega) (by omega) d_Bk_addEntry_11 (fun H locs hP hD hS => ?_)
  have hP : va_P D classes [(o, .inr (0, [.ref q0, .ref q1, .ref q2, .ref q3, .ref q4, .int (J ((n : Nat) : Int))])), (q1, ca cI 40 (iu pl n z)), (q2, ca cI 40 dy)] H := hP
  have hD : va_D A [(o, .inr (0, [.ref q0, .ref q1, .ref q2, .ref q3, .ref q4, .int (J ((n : Nat) : Int))])), (q1, ca cI 40 (iu pl n z)), (q2, ca cI 40 dy)] := hD
  refine lv_aload_n hx hb d_Bk_addEntry_12 rfl (lv_at hl 1 rfl) ?_
  refine va_get (D := D) (ci := 0) (v := .ref q2) (C := R_Bk) (T := T_Bk) (N := 6) hx hb hts i_Bk hown hK hP 0 rfl rfl 2 (by decide) (hts _ mw_79) (fun _ h9 => h9) rfl d_Bk_addEntry_13 ?_
  refine lv_iload_n hx hb d_Bk_addEntry_16 rfl (lv_at hl 0 rfl) ?_
  refine lv_iconst (v := J (-1)) hx hb d_Bk_addEntry_17 rfl ?_
  refine w_iast hx hb hK hP hD hS 2 0 rfl rfl n (by omega) (by omega) (by omega) d_Bk_addEntry_18 (fun H locs hP hD hS => ?_)
  have hP : va_P D classes [(o, .inr (0, [.ref q0, .ref q1, .ref q2, .ref q3, .ref q4, .int (J ((n : Nat) : Int))])), (q1, ca cI 40 (iu pl n z)), (q2, ca cI 40 (iu dy n (-1)))] H := hP
  have hD : va_D A [(o, .inr (0, [.ref q0, .ref q1, .ref q2, .ref q3, .ref q4, .int (J ((n : Nat) : Int))])), (q1, ca cI 40 (iu pl n z)), (q2, ca cI 40 (iu dy n (-1)))] := hD
  refine lv_aload_n hx hb d_Bk_addEntry_19 rfl (lv_at hl 1 rfl) ?_
  refine lv_dup hx hb d_Bk_addEntry_20 rfl ?_
  refine va_get (D := D) (ci := 0) (v := .int (J ((n : Nat) : Int))) (C := R_Bk) (T := T_Bk) (N := 6) hx hb hts i_Bk hown hK hP 0 rfl rfl 5 (by decide) (hts _ mw_84) (fun _ h9 => h9) rfl d_Bk_addEntry_21 ?_
  refine lv_iconst (v := J (1)) hx hb d_Bk_addEntry_24 rfl ?_
  refine w_iadd hx hb d_Bk_addEntry_25 ((n + 1 : Nat) : Int) (by omega) ?_
  refine va_put (D := D) (ci := 0) (v := .int (J ((n + 1 : Nat) : Int))) (ty := .int) (C := R_Bk) (T := T_Bk) (N := 6) hx hb hts i_Bk t_Bk k_Bk n_Bk hown hK hP hD hS 0 rfl rfl 5 (by decide) (hts _ mw_84) (fun _ h9 => h9) rfl (by decide +kernel) rfl rfl (Nat.le_of_ble_eq_true rfl) d_Bk_addEntry_26 (fun H locs hP hD hS => ?_)
  have hP : va_P D classes [(o, .inr (0, [.ref q0, .ref q1, .ref q2, .ref q3, .ref q4, .int (J ((n + 1 : Nat) : Int))])), (q1, ca cI 40 (iu pl n z)), (q2, ca cI 40 (iu dy n (-1)))] H := hP
  have hD : va_D A [(o, .inr (0, [.ref q0, .ref q1, .ref q2, .ref q3, .ref q4, .int (J ((n + 1 : Nat) : Int))])), (q1, ca cI 40 (iu pl n z)), (q2, ca cI 40 (iu dy n (-1)))] := hD
  refine lv_iload_n hx hb d_Bk_addEntry_29 rfl (lv_at hl 0 rfl) ?_
  exact Mi_ret hx hb hr hlocks hQ d_Bk_addEntry_30 hP hK hD hS nb_i (rfl) () (trivial) [0, 1, 2] rfl (by decide)
set_option maxHeartbeats 4000000 in
set_option maxRecDepth 100000 in
theorem c_Bk_learn (l : Launch) (D : va_G) (cI cZ cJ : ClassId) (sz : Nat) (o : Nat) (q0 : Nat) (q1 : Nat) (q2 : Nat) (q3 : Nat) (q4 : Nat) (n : Nat) (dy : Nat → Int) (tm : Nat → Int) (k : Nat) (z : Int) (hk : k < 40) : Mi l y_Bk_learn w_Bk_learn ({ frames := 0, cells := 0, slots := 0, locals := 0 }) false D classes [(cI, .int), (cZ, .boolean), (cJ, .long)] sz [.ref o, .int (J ((k : Nat) : Int)), .int (J z)] [(o, .inr (0, [.ref q0, .ref q1, .ref q2, .ref q3, .ref q4, .int (J ((n : Nat) : Int))])), (q2, ca cI 40 dy), (q3, ca cI 40 tm)] (tm k + 1) (S := Unit) (fun _ => True) (fun u : Unit => [(o, .inr (0, [.ref q0, .ref q1, .ref q2, .ref q3, .ref q4, .int (J ((n : Nat) : Int))])), (q2, ca cI 40 (iu dy k z)), (q3, ca cI 40 (iu tm k (tm k + 1)))]) 0 0 := by
  refine Mi_of (cc := b_Bk_learn) (maxL := 3) (by decide) rfl (Nat.le_of_ble_eq_true rfl) ?_
  intro p e s m args below meth c hx hb hr hml hts hown hlocks A hA hP hK hD hT hS Q hQ H hH ls hl
  subst hH
  have hl : lv_has ls 3 [(0, .ref o), (1, .int (J ((k : Nat) : Int))), (2, .int (J z))] := hl
  refine lv_aload_n hx hb d_Bk_learn_0 rfl (lv_at hl 0 rfl) ?_
  refine va_get (D := D) (ci := 0) (v := .ref q2) (C := R_Bk) (T := T_Bk) (N := 6) hx hb hts i_Bk hown hK hP 0 rfl rfl 2 (by decide) (hts _ mw_79) (fun _ h9 => h9) rfl d_Bk_learn_1 ?_
  refine lv_iload_n hx hb d_Bk_learn_4 rfl (lv_at hl 1 rfl) ?_
  refine lv_iload_n hx hb d_Bk_learn_5 rfl (lv_at hl 2 rfl) ?_
  refine w_iast hx hb hK hP hD hS 1 0 rfl rfl k (by omega) (by omega) (by omega) d_Bk_learn_6 (fun H locs hP hD hS => ?_)
  have hP : va_P D classes [(o, .inr (0, [.ref q0, .ref q1, .ref q2, .ref q3, .ref q4, .int (J ((n : Nat) : Int))])), (q2, ca cI 40 (iu dy k z)), (q3, ca cI 40 tm)] H := hP
  have hD : va_D A [(o, .inr (0, [.ref q0, .ref q1, .ref q2, .ref q3, .ref q4, .int (J ((n : Nat) : Int))])), (q2, ca cI 40 (iu dy k z)), (q3, ca cI 40 tm)] := hD
  refine lv_aload_n hx hb d_Bk_learn_7 rfl (lv_at hl 0 rfl) ?_
  refine va_get (D := D) (ci := 0) (v := .ref q3) (C := R_Bk) (T := T_Bk) (N := 6) hx hb hts i_Bk hown hK hP 0 rfl rfl 3 (by decide) (hts _ mw_81) (fun _ h9 => h9) rfl d_Bk_learn_8 ?_
  refine lv_iload_n hx hb d_Bk_learn_11 rfl (lv_at hl 1 rfl) ?_
  refine lv_dup2_11 hx hb d_Bk_learn_12 rfl rfl ?_
  refine w_iald hx hb hK hP 2 0 rfl rfl k (by omega) (by omega) (by omega) d_Bk_learn_13 ?_
  refine lv_iconst (v := J (1)) hx hb d_Bk_learn_14 rfl ?_
  refine w_iadd hx hb d_Bk_learn_15 ((tm k) + 1) (rfl) ?_
  refine w_iast hx hb hK hP hD hS 2 0 rfl rfl k (by omega) (by omega) (by omega) d_Bk_learn_16 (fun H locs hP hD hS => ?_)
  have hP : va_P D classes [(o, .inr (0, [.ref q0, .ref q1, .ref q2, .ref q3, .ref q4, .int (J ((n : Nat) : Int))])), (q2, ca cI 40 (iu dy k z)), (q3, ca cI 40 (iu tm k ((tm k) + 1)))] H := hP
  have hD : va_D A [(o, .inr (0, [.ref q0, .ref q1, .ref q2, .ref q3, .ref q4, .int (J ((n : Nat) : Int))])), (q2, ca cI 40 (iu dy k z)), (q3, ca cI 40 (iu tm k ((tm k) + 1)))] := hD
  refine lv_aload_n hx hb d_Bk_learn_17 rfl (lv_at hl 0 rfl) ?_
  refine va_get (D := D) (ci := 0) (v := .ref q3) (C := R_Bk) (T := T_Bk) (N := 6) hx hb hts i_Bk hown hK hP 0 rfl rfl 3 (by decide) (hts _ mw_81) (fun _ h9 => h9) rfl d_Bk_learn_18 ?_
  refine lv_iload_n hx hb d_Bk_learn_21 rfl (lv_at hl 1 rfl) ?_
  refine w_iald hx hb hK hP 2 0 rfl rfl k (by omega) (by omega) (by omega) d_Bk_learn_22 ?_
  exact Mi_ret hx hb hr hlocks hQ d_Bk_learn_23 hP hK hD hS nb_i (iu_s _ _ _) () (trivial) [0, 1, 2] rfl (by decide)
set_option maxHeartbeats 4000000 in
set_option maxRecDepth 100000 in
theorem c_Bk_droppedOnes (l : Launch) (D : va_G) (cI cZ cJ : ClassId) (o : Nat) (q0 : Nat) (q1 : Nat) (q2 : Nat) (q3 : Nat) (q4 : Nat) (n : Nat) (dr : Nat → Int) (hn : n ≤ 40) (hdr : ∀ k, 0 ≤ dr k ∧ dr k ≤ 1) : Ri l y_Bk_droppedOnes w_Bk_droppedOnes ({ frames := 0, cells := 0, slots := 0, locals := 0 }) D classes [(cI, .int), (cZ, .boolean), (cJ, .long)] [.ref o] [(o, .inr (0, [.ref q0, .ref q1, .ref q2, .ref q3, .ref q4, .int (J ((n : Nat) : Int))])), (q4, ca cZ 40 dr)] (sm dr n) := by
  refine Ri_of (cc := b_Bk_droppedOnes) (maxL := 3) (by decide) rfl (Nat.le_of_ble_eq_true rfl) ?_
  intro p e s m args below meth c hx hb hr hml hts hown hlocks hP hK Q hQ H hH ls hl
  rw [← hH] at hP
  have hl : lv_has ls 3 [(0, .ref o)] := hl
  refine lv_iconst (v := J (0)) hx hb d_Bk_droppedOnes_0 rfl ?_
  refine lv_istore_n (lv' := [(1, .int (J 0)), (0, .ref o)]) hx hb d_Bk_droppedOnes_1 rfl hl (by decide) rfl (fun ls hl => ?_)
  refine lv_iconst (v := J (0)) hx hb d_Bk_droppedOnes_2 rfl ?_
  refine lv_istore_n (lv' := [(2, .int (J 0)), (1, .int (J 0)), (0, .ref o)]) hx hb d_Bk_droppedOnes_3 rfl hl (by decide) rfl (fun ls hl => ?_)
  have lp_4 : ∀ (fu : Nat) (i : Nat) (t : Int), (i ≤ n) → (t = sm dr i) → (n - i) < fu → ∀ ls : Array Slot, lv_has ls 3 [(0, .ref o), (1, .int (J t)), (2, .int (J ((i : Nat) : Int)))] → W p l e ({ frames := 0, cells := 0, slots := 0, locals := 0 }) s m args below meth c H [] 0 0 Q (F0 m 4 ls []) := by
    intro fu
    induction fu with
    | zero => intro i t hi ht hfu; exact absurd hfu (Nat.not_lt_zero _)
    | succ fu ih_4 =>
      intro i t hi ht hfu ls hl
      refine lv_iload_n hx hb d_Bk_droppedOnes_4 rfl (lv_at hl 2 rfl) ?_
      refine lv_aload_n hx hb d_Bk_droppedOnes_5 rfl (lv_at hl 0 rfl) ?_
      refine va_get (D := D) (ci := 0) (v := .int (J ((n : Nat) : Int))) (C := R_Bk) (T := T_Bk) (N := 6) hx hb hts i_Bk hown hK hP 0 rfl rfl 5 (by decide) (hts _ mw_84) (fun _ h9 => h9) rfl d_Bk_droppedOnes_6 ?_
      refine w_icmp_ge (tgt := 30) hx hb d_Bk_droppedOnes_9 (by decide) (by omega) (by omega) (fun c_9 => ?_) (fun c_9 => ?_)
      · obtain rfl : n = i := by omega
        refine lv_iload_n hx hb d_Bk_droppedOnes_30 rfl (lv_at hl 1 rfl) ?_
        exact Ri_ret hx hb hr hlocks hQ hH d_Bk_droppedOnes_31 nb_i (ht)
      · have b1 := hdr i
        refine lv_aload_n hx hb d_Bk_droppedOnes_12 rfl (lv_at hl 0 rfl) ?_
        refine va_get (D := D) (ci := 0) (v := .ref q4) (C := R_Bk) (T := T_Bk) (N := 6) hx hb hts i_Bk hown hK hP 0 rfl rfl 4 (by decide) (hts _ mw_82) (fun _ h9 => h9) rfl d_Bk_droppedOnes_13 ?_
        refine lv_iload_n hx hb d_Bk_droppedOnes_16 rfl (lv_at hl 2 rfl) ?_
        refine w_zald hx hb hK hP 1 1 rfl rfl i (by omega) (by omega) (by omega) d_Bk_droppedOnes_17 ?_
        refine w_if_eq (tgt := 24) hx hb d_Bk_droppedOnes_18 (by decide) (by omega) (fun c_18 => ?_) (fun c_18 => ?_)
        · refine w_iinc (k := 2) (lv' := [(2, .int (J ((i + 1 : Nat) : Int))), (0, .ref o), (1, .int (J t))]) hx hb d_Bk_droppedOnes_24 hl rfl ((i + 1 : Nat) : Int) (by omega) (by decide) rfl (fun ls hl => ?_)
          refine lv_goto (tgt := 4) hx hb d_Bk_droppedOnes_27 (by decide) ?_
          exact ih_4 (i + 1) t (by omega) (by rw [sm]; omega) (by omega) ls (lv_sub hl [1, 2, 0] rfl)
        · refine w_iinc (k := 1) (lv' := [(1, .int (J (t + 1))), (0, .ref o), (2, .int (J ((i : Nat) : Int)))]) hx hb d_Bk_droppedOnes_21 hl rfl (t + 1) (by omega) (by decide) rfl (fun ls hl => ?_)
          refine w_iinc (k := 2) (lv' := [(2, .int (J ((i + 1 : Nat) : Int))), (1, .int (J (t + 1))), (0, .ref o)]) hx hb d_Bk_droppedOnes_24 hl rfl ((i + 1 : Nat) : Int) (by omega) (by decide) rfl (fun ls hl => ?_)
          refine lv_goto (tgt := 4) hx hb d_Bk_droppedOnes_27 (by decide) ?_
          exact ih_4 (i + 1) (t + 1) (by omega) (by rw [sm]; omega) (by omega) ls (lv_sub hl [2, 1, 0] rfl)
  exact lp_4 ((n - 0) + 1) 0 0 (by omega) (rfl) (Nat.lt_succ_self _) ls (lv_sub hl [2, 1, 0] rfl)
theorem ptn2 : ∀ k : Nat, k < 64 → ∀ w : Nat, w < 3 → (((J (k : Int)) >>> (J (2 * (2 - (w : Int))) &&& 31)) &&& (J 3)) - (J 1) = J (dgt k w) := by decide +kernel
set_option maxHeartbeats 4000000 in
set_option maxRecDepth 100000 in
theorem c_Pa_partner (l : Launch) (D : va_G) (cI cZ cJ : ClassId) (k : Nat) (w : Nat) (hk : k < 64) (hw3 : w < 3) : Ri l y_Pa_partner w_Pa_partner ({ frames := 0, cells := 0, slots := 0, locals := 0 }) D classes [(cI, .int), (cZ, .boolean), (cJ, .long)] [.int (J ((k : Nat) : Int)), .int (J ((w : Nat) : Int))] [] (dgt k w) := by
  refine Ri_of (cc := b_Pa_partner) (maxL := 2) (by decide) rfl (Nat.le_of_ble_eq_true rfl) ?_
  intro p e s m args below meth c hx hb hr hml hts hown hlocks hP hK Q hQ H hH ls hl
  rw [← hH] at hP
  have hl : lv_has ls 2 [(0, .int (J ((k : Nat) : Int))), (1, .int (J ((w : Nat) : Int)))] := hl
  refine lv_iload_n hx hb d_Pa_partner_0 rfl (lv_at hl 0 rfl) ?_
  refine lv_iconst (v := J (2)) hx hb d_Pa_partner_1 rfl ?_
  refine lv_iconst (v := J (2)) hx hb d_Pa_partner_2 rfl ?_
  refine lv_iload_n hx hb d_Pa_partner_3 rfl (lv_at hl 1 rfl) ?_
  refine w_isub hx hb d_Pa_partner_4 (2 - ((w : Nat) : Int)) (rfl) ?_
  refine w_imul hx hb d_Pa_partner_5 (2 * (2 - ((w : Nat) : Int))) (rfl) ?_
  refine lv_ishr hx hb d_Pa_partner_6 ?_
  refine lv_iconst (v := J (3)) hx hb d_Pa_partner_7 rfl ?_
  refine lv_iand hx hb d_Pa_partner_8 ?_
  refine lv_iconst (v := J (1)) hx hb d_Pa_partner_9 rfl ?_
  refine lv_isub hx hb d_Pa_partner_10 ?_
  refine tp_i (y := J (dgt k w)) (ptn2 k hk w hw3) ?_
  exact Ri_ret hx hb hr hlocks hQ hH d_Pa_partner_11 nb_i (rfl)
set_option maxHeartbeats 4000000 in
set_option maxRecDepth 100000 in
theorem c_Pa_isTaken (l : Launch) (D : va_G) (cI cZ cJ : ClassId) (k : Nat) (w : Nat) (o : Int) (hk : k < 64) (hw3 : w ≤ 2) (ho : -1 ≤ o ∧ o ≤ 2) : Ri l y_Pa_isTaken w_Pa_isTaken ({ frames := 1, cells := 0, slots := 0, locals := 21 }) D classes [(cI, .int), (cZ, .boolean), (cJ, .long)] [.int (J ((k : Nat) : Int)), .int (J ((w : Nat) : Int)), .int (J o)] [] (b2 ((0 < w ∧ dgt k 0 = o) ∨ (1 < w ∧ dgt k 1 = o))) := by
  refine Ri_of (cc := b_Pa_isTaken) (maxL := 4) (by decide) rfl (Nat.le_of_ble_eq_true rfl) ?_
  intro p e s m args below meth c hx hb hr hml hts hown hlocks hP hK Q hQ H hH ls hl
  rw [← hH] at hP
  have hl : lv_has ls 4 [(0, .int (J ((k : Nat) : Int))), (1, .int (J ((w : Nat) : Int))), (2, .int (J o))] := hl
  have d0 := dgt_rg k 0
  have d1 := dgt_rg k 1
  have d2 := dgt_rg k 2
  refine lv_iconst (v := J (0)) hx hb d_Pa_isTaken_0 rfl ?_
  refine lv_istore_n (lv' := [(3, .int (J 0)), (0, .int (J ((k : Nat) : Int))), (1, .int (J ((w : Nat) : Int))), (2, .int (J o))]) hx hb d_Pa_isTaken_1 rfl hl (by decide) rfl (fun ls hl => ?_)
  refine lv_iload_n hx hb d_Pa_isTaken_2 rfl (lv_at hl 0 rfl) ?_
  refine lv_iload_n hx hb d_Pa_isTaken_3 rfl (lv_at hl 2 rfl) ?_
  refine w_icmp_ge (tgt := 24) hx hb d_Pa_isTaken_4 (by decide) (by omega) (by omega) (fun c_4 => ?_) (fun c_4 => ?_)
  · refine lv_iconst (v := J (0)) hx hb d_Pa_isTaken_24 rfl ?_
    exact Ri_ret hx hb hr hlocks hQ hH d_Pa_isTaken_25 (nb_z (by omega)) (by unfold b2; split <;> omega)
  · refine lv_iload_n hx hb d_Pa_isTaken_7 rfl (lv_at hl 1 rfl) ?_
    refine lv_iload_n hx hb d_Pa_isTaken_8 rfl (lv_at hl 0 rfl) ?_
    refine Ri_call (va_runS (As := [.int (J ((k : Nat) : Int)), .int (J 0)]) (rest := []) ⟨hx, hb, hml, hown, hts⟩ (c_Pa_partner l D cI cZ cJ k 0 (by first | assumption | omega) (by first | assumption | omega)) (va_cwS 2 hts (g_S mw_383 mw_384 mw_31 mw_385) rfl rfl rfl (by decide +kernel) ⟨Nat.le_of_ble_eq_true rfl, Nat.le_of_ble_eq_true rfl⟩) (pre_RS hP hK [] rfl) rfl rfl hl.1 rfl (lv_room (Nat.le_of_ble_eq_true rfl)) d_Pa_isTaken_9 ⟨Nat.le_of_ble_eq_true rfl, Nat.le_of_ble_eq_true rfl⟩) ?_
    refine lv_iload_n hx hb d_Pa_isTaken_12 rfl (lv_at hl 3 rfl) ?_
    refine w_icmp_ne (tgt := 18) hx hb d_Pa_isTaken_13 (by decide) (by omega) (by omega) (fun c_13 => ?_) (fun c_13 => ?_)
    · refine w_iinc (k := 0) (lv' := [(3, .int (J 1)), (0, .int (J ((k : Nat) : Int))), (1, .int (J ((w : Nat) : Int))), (2, .int (J o))]) hx hb d_Pa_isTaken_18 hl rfl 1 (by omega) (by decide) rfl (fun ls hl => ?_)
      refine lv_goto (tgt := 2) hx hb d_Pa_isTaken_21 (by decide) ?_
      refine lv_iload_n hx hb d_Pa_isTaken_2 rfl (lv_at hl 0 rfl) ?_
      refine lv_iload_n hx hb d_Pa_isTaken_3 rfl (lv_at hl 2 rfl) ?_
      refine w_icmp_ge (tgt := 24) hx hb d_Pa_isTaken_4 (by decide) (by omega) (by omega) (fun c_4_2 => ?_) (fun c_4_2 => ?_)
      · refine lv_iconst (v := J (0)) hx hb d_Pa_isTaken_24 rfl ?_
        exact Ri_ret hx hb hr hlocks hQ hH d_Pa_isTaken_25 (nb_z (by omega)) (by unfold b2; split <;> omega)
      · refine lv_iload_n hx hb d_Pa_isTaken_7 rfl (lv_at hl 1 rfl) ?_
        refine lv_iload_n hx hb d_Pa_isTaken_8 rfl (lv_at hl 0 rfl) ?_
        refine Ri_call (va_runS (As := [.int (J ((k : Nat) : Int)), .int (J 1)]) (rest := []) ⟨hx, hb, hml, hown, hts⟩ (c_Pa_partner l D cI cZ cJ k 1 (by first | assumption | omega) (by first | assumption | omega)) (va_cwS 2 hts (g_S mw_383 mw_384 mw_31 mw_385) rfl rfl rfl (by decide +kernel) ⟨Nat.le_of_ble_eq_true rfl, Nat.le_of_ble_eq_true rfl⟩) (pre_RS hP hK [] rfl) rfl rfl hl.1 rfl (lv_room (Nat.le_of_ble_eq_true rfl)) d_Pa_isTaken_9 ⟨Nat.le_of_ble_eq_true rfl, Nat.le_of_ble_eq_true rfl⟩) ?_
        refine lv_iload_n hx hb d_Pa_isTaken_12 rfl (lv_at hl 3 rfl) ?_
        refine w_icmp_ne (tgt := 18) hx hb d_Pa_isTaken_13 (by decide) (by omega) (by omega) (fun c_13_2 => ?_) (fun c_13_2 => ?_)
        · refine w_iinc (k := 0) (lv' := [(3, .int (J 2)), (0, .int (J ((k : Nat) : Int))), (1, .int (J ((w : Nat) : Int))), (2, .int (J o))]) hx hb d_Pa_isTaken_18 hl rfl 2 (by omega) (by decide) rfl (fun ls hl => ?_)
          refine lv_goto (tgt := 2) hx hb d_Pa_isTaken_21 (by decide) ?_
          refine lv_iload_n hx hb d_Pa_isTaken_2 rfl (lv_at hl 0 rfl) ?_
          refine lv_iload_n hx hb d_Pa_isTaken_3 rfl (lv_at hl 2 rfl) ?_
          refine w_icmp_ge (tgt := 24) hx hb d_Pa_isTaken_4 (by decide) (by omega) (by omega) (fun c_4_3 => ?_) (fun c_4_3 => ?_)
          · refine lv_iconst (v := J (0)) hx hb d_Pa_isTaken_24 rfl ?_
            exact Ri_ret hx hb hr hlocks hQ hH d_Pa_isTaken_25 (nb_z (by omega)) (by unfold b2; split <;> omega)
          · exfalso; omega
        · refine lv_iconst (v := J (1)) hx hb d_Pa_isTaken_16 rfl ?_
          exact Ri_ret hx hb hr hlocks hQ hH d_Pa_isTaken_17 (nb_z (by omega)) (by unfold b2; split <;> omega)
    · refine lv_iconst (v := J (1)) hx hb d_Pa_isTaken_16 rfl ?_
      exact Ri_ret hx hb hr hlocks hQ hH d_Pa_isTaken_17 (nb_z (by omega)) (by unfold b2; split <;> omega)
def tbf (k w : Nat) (o : Int) : Int := (if 0 < w ∧ o < dgt k 0 then 1 else 0) + (if 1 < w ∧ o < dgt k 1 then 1 else 0)
set_option maxHeartbeats 4000000 in
set_option maxRecDepth 100000 in
theorem c_Pa_turnedBefore (l : Launch) (D : va_G) (cI cZ cJ : ClassId) (k : Nat) (w : Nat) (o : Int) (hk : k < 64) (hw3 : w ≤ 2) (ho : -1 ≤ o ∧ o ≤ 2) : Ri l y_Pa_turnedBefore w_Pa_turnedBefore ({ frames := 1, cells := 0, slots := 0, locals := 21 }) D classes [(cI, .int), (cZ, .boolean), (cJ, .long)] [.int (J ((k : Nat) : Int)), .int (J ((w : Nat) : Int)), .int (J o)] [] (tbf k w o) := by
  refine Ri_of (cc := b_Pa_turnedBefore) (maxL := 5) (by decide) rfl (Nat.le_of_ble_eq_true rfl) ?_
  intro p e s m args below meth c hx hb hr hml hts hown hlocks hP hK Q hQ H hH ls hl
  rw [← hH] at hP
  have hl : lv_has ls 5 [(0, .int (J ((k : Nat) : Int))), (1, .int (J ((w : Nat) : Int))), (2, .int (J o))] := hl
  have d0 := dgt_rg k 0
  have d1 := dgt_rg k 1
  have d2 := dgt_rg k 2
  refine lv_iconst (v := J (0)) hx hb d_Pa_turnedBefore_0 rfl ?_
  refine lv_istore_n (lv' := [(3, .int (J 0)), (0, .int (J ((k : Nat) : Int))), (1, .int (J ((w : Nat) : Int))), (2, .int (J o))]) hx hb d_Pa_turnedBefore_1 rfl hl (by decide) rfl (fun ls hl => ?_)
  refine lv_iconst (v := J (0)) hx hb d_Pa_turnedBefore_2 rfl ?_
  refine lv_istore (lv' := [(4, .int (J 0)), (3, .int (J 0)), (0, .int (J ((k : Nat) : Int))), (1, .int (J ((w : Nat) : Int))), (2, .int (J o))]) hx hb d_Pa_turnedBefore_3 hl (by decide) rfl (fun ls hl => ?_)
  refine lv_iload hx hb d_Pa_turnedBefore_5 (lv_at hl 0 rfl) ?_
  refine lv_iload_n hx hb d_Pa_turnedBefore_7 rfl (lv_at hl 3 rfl) ?_
  refine w_icmp_ge (tgt := 30) hx hb d_Pa_turnedBefore_8 (by decide) (by omega) (by omega) (fun c_8 => ?_) (fun c_8 => ?_)
  · refine lv_iload_n hx hb d_Pa_turnedBefore_30 rfl (lv_at hl 1 rfl) ?_
    exact Ri_ret hx hb hr hlocks hQ hH d_Pa_turnedBefore_31 nb_i (by unfold tbf; split <;> split <;> omega)
  · refine lv_iload_n hx hb d_Pa_turnedBefore_11 rfl (lv_at hl 2 rfl) ?_
    refine lv_iload hx hb d_Pa_turnedBefore_12 (lv_at hl 0 rfl) ?_
    refine Ri_call (va_runS (As := [.int (J ((k : Nat) : Int)), .int (J 0)]) (rest := []) ⟨hx, hb, hml, hown, hts⟩ (c_Pa_partner l D cI cZ cJ k 0 (by first | assumption | omega) (by first | assumption | omega)) (va_cwS 2 hts (g_S mw_383 mw_384 mw_31 mw_385) rfl rfl rfl (by decide +kernel) ⟨Nat.le_of_ble_eq_true rfl, Nat.le_of_ble_eq_true rfl⟩) (pre_RS hP hK [] rfl) rfl rfl hl.1 rfl (lv_room (Nat.le_of_ble_eq_true rfl)) d_Pa_turnedBefore_14 ⟨Nat.le_of_ble_eq_true rfl, Nat.le_of_ble_eq_true rfl⟩) ?_
    refine lv_iload_n hx hb d_Pa_turnedBefore_17 rfl (lv_at hl 4 rfl) ?_
    refine w_icmp_le (tgt := 24) hx hb d_Pa_turnedBefore_18 (by decide) (by omega) (by omega) (fun c_18 => ?_) (fun c_18 => ?_)
    · refine w_iinc (k := 0) (lv' := [(4, .int (J 1)), (3, .int (J 0)), (0, .int (J ((k : Nat) : Int))), (1, .int (J ((w : Nat) : Int))), (2, .int (J o))]) hx hb d_Pa_turnedBefore_24 hl rfl 1 (by omega) (by decide) rfl (fun ls hl => ?_)
      refine lv_goto (tgt := 5) hx hb d_Pa_turnedBefore_27 (by decide) ?_
      refine lv_iload hx hb d_Pa_turnedBefore_5 (lv_at hl 0 rfl) ?_
      refine lv_iload_n hx hb d_Pa_turnedBefore_7 rfl (lv_at hl 3 rfl) ?_
      refine w_icmp_ge (tgt := 30) hx hb d_Pa_turnedBefore_8 (by decide) (by omega) (by omega) (fun c_8_2 => ?_) (fun c_8_2 => ?_)
      · refine lv_iload_n hx hb d_Pa_turnedBefore_30 rfl (lv_at hl 1 rfl) ?_
        exact Ri_ret hx hb hr hlocks hQ hH d_Pa_turnedBefore_31 nb_i (by unfold tbf; split <;> split <;> omega)
      · refine lv_iload_n hx hb d_Pa_turnedBefore_11 rfl (lv_at hl 2 rfl) ?_
        refine lv_iload hx hb d_Pa_turnedBefore_12 (lv_at hl 0 rfl) ?_
        refine Ri_call (va_runS (As := [.int (J ((k : Nat) : Int)), .int (J 1)]) (rest := []) ⟨hx, hb, hml, hown, hts⟩ (c_Pa_partner l D cI cZ cJ k 1 (by first | assumption | omega) (by first | assumption | omega)) (va_cwS 2 hts (g_S mw_383 mw_384 mw_31 mw_385) rfl rfl rfl (by decide +kernel) ⟨Nat.le_of_ble_eq_true rfl, Nat.le_of_ble_eq_true rfl⟩) (pre_RS hP hK [] rfl) rfl rfl hl.1 rfl (lv_room (Nat.le_of_ble_eq_true rfl)) d_Pa_turnedBefore_14 ⟨Nat.le_of_ble_eq_true rfl, Nat.le_of_ble_eq_true rfl⟩) ?_
        refine lv_iload_n hx hb d_Pa_turnedBefore_17 rfl (lv_at hl 4 rfl) ?_
        refine w_icmp_le (tgt := 24) hx hb d_Pa_turnedBefore_18 (by decide) (by omega) (by omega) (fun c_18_2 => ?_) (fun c_18_2 => ?_)
        · refine w_iinc (k := 0) (lv' := [(4, .int (J 2)), (3, .int (J 0)), (0, .int (J ((k : Nat) : Int))), (1, .int (J ((w : Nat) : Int))), (2, .int (J o))]) hx hb d_Pa_turnedBefore_24 hl rfl 2 (by omega) (by decide) rfl (fun ls hl => ?_)
          refine lv_goto (tgt := 5) hx hb d_Pa_turnedBefore_27 (by decide) ?_
          refine lv_iload hx hb d_Pa_turnedBefore_5 (lv_at hl 0 rfl) ?_
          refine lv_iload_n hx hb d_Pa_turnedBefore_7 rfl (lv_at hl 3 rfl) ?_
          refine w_icmp_ge (tgt := 30) hx hb d_Pa_turnedBefore_8 (by decide) (by omega) (by omega) (fun c_8_3 => ?_) (fun c_8_3 => ?_)
          · refine lv_iload_n hx hb d_Pa_turnedBefore_30 rfl (lv_at hl 1 rfl) ?_
            exact Ri_ret hx hb hr hlocks hQ hH d_Pa_turnedBefore_31 nb_i (by unfold tbf; split <;> split <;> omega)
          · exfalso; omega
        · refine w_iinc (k := 1) (lv' := [(3, .int (J 1)), (4, .int (J 1)), (0, .int (J ((k : Nat) : Int))), (1, .int (J ((w : Nat) : Int))), (2, .int (J o))]) hx hb d_Pa_turnedBefore_21 hl rfl 1 (by omega) (by decide) rfl (fun ls hl => ?_)
          refine w_iinc (k := 1) (lv' := [(4, .int (J 2)), (3, .int (J 1)), (0, .int (J ((k : Nat) : Int))), (1, .int (J ((w : Nat) : Int))), (2, .int (J o))]) hx hb d_Pa_turnedBefore_24 hl rfl 2 (by omega) (by decide) rfl (fun ls hl => ?_)
          refine lv_goto (tgt := 5) hx hb d_Pa_turnedBefore_27 (by decide) ?_
          refine lv_iload hx hb d_Pa_turnedBefore_5 (lv_at hl 0 rfl) ?_
          refine lv_iload_n hx hb d_Pa_turnedBefore_7 rfl (lv_at hl 3 rfl) ?_
          refine w_icmp_ge (tgt := 30) hx hb d_Pa_turnedBefore_8 (by decide) (by omega) (by omega) (fun c_8_3 => ?_) (fun c_8_3 => ?_)
          · refine lv_iload_n hx hb d_Pa_turnedBefore_30 rfl (lv_at hl 1 rfl) ?_
            exact Ri_ret hx hb hr hlocks hQ hH d_Pa_turnedBefore_31 nb_i (by unfold tbf; split <;> split <;> omega)
          · exfalso; omega
    · refine w_iinc (k := 1) (lv' := [(3, .int (J 1)), (4, .int (J 0)), (0, .int (J ((k : Nat) : Int))), (1, .int (J ((w : Nat) : Int))), (2, .int (J o))]) hx hb d_Pa_turnedBefore_21 hl rfl 1 (by omega) (by decide) rfl (fun ls hl => ?_)
      refine w_iinc (k := 1) (lv' := [(4, .int (J 1)), (3, .int (J 1)), (0, .int (J ((k : Nat) : Int))), (1, .int (J ((w : Nat) : Int))), (2, .int (J o))]) hx hb d_Pa_turnedBefore_24 hl rfl 1 (by omega) (by decide) rfl (fun ls hl => ?_)
      refine lv_goto (tgt := 5) hx hb d_Pa_turnedBefore_27 (by decide) ?_
      refine lv_iload hx hb d_Pa_turnedBefore_5 (lv_at hl 0 rfl) ?_
      refine lv_iload_n hx hb d_Pa_turnedBefore_7 rfl (lv_at hl 3 rfl) ?_
      refine w_icmp_ge (tgt := 30) hx hb d_Pa_turnedBefore_8 (by decide) (by omega) (by omega) (fun c_8_2 => ?_) (fun c_8_2 => ?_)
      · refine lv_iload_n hx hb d_Pa_turnedBefore_30 rfl (lv_at hl 1 rfl) ?_
        exact Ri_ret hx hb hr hlocks hQ hH d_Pa_turnedBefore_31 nb_i (by unfold tbf; split <;> split <;> omega)
      · refine lv_iload_n hx hb d_Pa_turnedBefore_11 rfl (lv_at hl 2 rfl) ?_
        refine lv_iload hx hb d_Pa_turnedBefore_12 (lv_at hl 0 rfl) ?_
        refine Ri_call (va_runS (As := [.int (J ((k : Nat) : Int)), .int (J 1)]) (rest := []) ⟨hx, hb, hml, hown, hts⟩ (c_Pa_partner l D cI cZ cJ k 1 (by first | assumption | omega) (by first | assumption | omega)) (va_cwS 2 hts (g_S mw_383 mw_384 mw_31 mw_385) rfl rfl rfl (by decide +kernel) ⟨Nat.le_of_ble_eq_true rfl, Nat.le_of_ble_eq_true rfl⟩) (pre_RS hP hK [] rfl) rfl rfl hl.1 rfl (lv_room (Nat.le_of_ble_eq_true rfl)) d_Pa_turnedBefore_14 ⟨Nat.le_of_ble_eq_true rfl, Nat.le_of_ble_eq_true rfl⟩) ?_
        refine lv_iload_n hx hb d_Pa_turnedBefore_17 rfl (lv_at hl 4 rfl) ?_
        refine w_icmp_le (tgt := 24) hx hb d_Pa_turnedBefore_18 (by decide) (by omega) (by omega) (fun c_18_2 => ?_) (fun c_18_2 => ?_)
        · refine w_iinc (k := 0) (lv' := [(4, .int (J 2)), (3, .int (J 1)), (0, .int (J ((k : Nat) : Int))), (1, .int (J ((w : Nat) : Int))), (2, .int (J o))]) hx hb d_Pa_turnedBefore_24 hl rfl 2 (by omega) (by decide) rfl (fun ls hl => ?_)
          refine lv_goto (tgt := 5) hx hb d_Pa_turnedBefore_27 (by decide) ?_
          refine lv_iload hx hb d_Pa_turnedBefore_5 (lv_at hl 0 rfl) ?_
          refine lv_iload_n hx hb d_Pa_turnedBefore_7 rfl (lv_at hl 3 rfl) ?_
          refine w_icmp_ge (tgt := 30) hx hb d_Pa_turnedBefore_8 (by decide) (by omega) (by omega) (fun c_8_3 => ?_) (fun c_8_3 => ?_)
          · refine lv_iload_n hx hb d_Pa_turnedBefore_30 rfl (lv_at hl 1 rfl) ?_
            exact Ri_ret hx hb hr hlocks hQ hH d_Pa_turnedBefore_31 nb_i (by unfold tbf; split <;> split <;> omega)
          · exfalso; omega
        · refine w_iinc (k := 1) (lv' := [(3, .int (J 2)), (4, .int (J 1)), (0, .int (J ((k : Nat) : Int))), (1, .int (J ((w : Nat) : Int))), (2, .int (J o))]) hx hb d_Pa_turnedBefore_21 hl rfl 2 (by omega) (by decide) rfl (fun ls hl => ?_)
          refine w_iinc (k := 1) (lv' := [(4, .int (J 2)), (3, .int (J 2)), (0, .int (J ((k : Nat) : Int))), (1, .int (J ((w : Nat) : Int))), (2, .int (J o))]) hx hb d_Pa_turnedBefore_24 hl rfl 2 (by omega) (by decide) rfl (fun ls hl => ?_)
          refine lv_goto (tgt := 5) hx hb d_Pa_turnedBefore_27 (by decide) ?_
          refine lv_iload hx hb d_Pa_turnedBefore_5 (lv_at hl 0 rfl) ?_
          refine lv_iload_n hx hb d_Pa_turnedBefore_7 rfl (lv_at hl 3 rfl) ?_
          refine w_icmp_ge (tgt := 30) hx hb d_Pa_turnedBefore_8 (by decide) (by omega) (by omega) (fun c_8_3 => ?_) (fun c_8_3 => ?_)
          · refine lv_iload_n hx hb d_Pa_turnedBefore_30 rfl (lv_at hl 1 rfl) ?_
            exact Ri_ret hx hb hr hlocks hQ hH d_Pa_turnedBefore_31 nb_i (by unfold tbf; split <;> split <;> omega)
          · exfalso; omega
set_option maxHeartbeats 4000000 in
set_option maxRecDepth 100000 in
theorem c_Pa_start (l : Launch) (D : va_G) (cI cZ cJ : ClassId) (sz : Nat) (o : Nat) (wo : Nat) (ac : Nat) (wc : Int) (bw : Int)  : Mv l y_Pa_start w_Pa_start ({ frames := 0, cells := 0, slots := 0, locals := 0 }) false D classes [(cI, .int), (cZ, .boolean), (cJ, .long)] sz [.ref o] [(o, .inr (4, [.ref wo, .ref ac, .int (J wc), .int (J bw)]))] (S := Unit) (fun _ => True) (fun u : Unit => [(o, .inr (4, [.ref wo, .ref ac, .int (J 0), .int (J bw)]))]) 0 0 := by
  refine Mv_of (cc := b_Pa_start) (maxL := 1) (by decide) rfl (Nat.le_of_ble_eq_true rfl) ?_
  intro p e s m args below meth c hx hb hr hml hts hown hlocks hin A hA hP hK hD hT hS Q hQ H hH ls hl
  subst hH
  have hl : lv_has ls 1 [(0, .ref o)] := hl
  refine lv_aload_n hx hb d_Pa_start_0 rfl (lv_at hl 0 rfl) ?_
  refine lv_iconst (v := J (0)) hx hb d_Pa_start_1 rfl ?_
  refine va_put (D := D) (ci := 4) (v := .int (J 0)) (ty := .int) (C := R_Pa) (T := T_Pa) (N := 4) hx hb hts i_Pa t_Pa k_Pa n_Pa hown hK hP hD hS 0 rfl rfl 2 (by decide) (hts _ mw_146) (fun _ h9 => h9) rfl (by decide +kernel) rfl rfl (Nat.le_of_ble_eq_true rfl) d_Pa_start_2 (fun H locs hP hD hS => ?_)
  have hP : va_P D classes [(o, .inr (4, [.ref wo, .ref ac, .int (J 0), .int (J bw)]))] H := hP
  have hD : va_D A [(o, .inr (4, [.ref wo, .ref ac, .int (J 0), .int (J bw)]))] := hD
  exact Mv_ret hx hb hr hlocks hQ d_Pa_start_5 hP hK hD hS () (trivial) [0] rfl (by decide)
set_option maxHeartbeats 4000000 in
set_option maxRecDepth 100000 in
theorem c_Pa_countWord (l : Launch) (D : va_G) (cI cZ cJ : ClassId) (sz : Nat) (o : Nat) (wo : Nat) (ac : Nat) (wc : Int) (bw : Int) (z : Int) (hz : 0 ≤ z ∧ z ≤ 1) : Mv l y_Pa_countWord w_Pa_countWord ({ frames := 0, cells := 0, slots := 0, locals := 0 }) false D classes [(cI, .int), (cZ, .boolean), (cJ, .long)] sz [.ref o, .int (J z)] [(o, .inr (4, [.ref wo, .ref ac, .int (J wc), .int (J bw)]))] (S := Unit) (fun _ => True) (fun u : Unit => [(o, .inr (4, [.ref wo, .ref ac, .int (J (wc + z)), .int (J bw)]))]) 0 0 := by
  refine Mv_of (cc := b_Pa_countWord) (maxL := 2) (by decide) rfl (Nat.le_of_ble_eq_true rfl) ?_
  intro p e s m args below meth c hx hb hr hml hts hown hlocks hin A hA hP hK hD hT hS Q hQ H hH ls hl
  subst hH
  have hl : lv_has ls 2 [(0, .ref o), (1, .int (J z))] := hl
  refine lv_iload_n hx hb d_Pa_countWord_0 rfl (lv_at hl 1 rfl) ?_
  refine w_if_eq (tgt := 14) hx hb d_Pa_countWord_1 (by decide) (by omega) (fun c_1 => ?_) (fun c_1 => ?_)
  · obtain rfl : z = 0 := by omega
    rw [show wc = wc + 0 by omega] at hP hD
    exact Mv_ret hx hb hr hlocks hQ d_Pa_countWord_14 hP hK hD hS () (trivial) [0] rfl (by decide)
  · obtain rfl : z = 1 := by omega
    refine lv_aload_n hx hb d_Pa_countWord_4 rfl (lv_at hl 0 rfl) ?_
    refine lv_dup hx hb d_Pa_countWord_5 rfl ?_
    refine va_get (D := D) (ci := 4) (v := .int (J wc)) (C := R_Pa) (T := T_Pa) (N := 4) hx hb hts i_Pa hown hK hP 0 rfl rfl 2 (by decide) (hts _ mw_146) (fun _ h9 => h9) rfl d_Pa_countWord_6 ?_
    refine lv_iconst (v := J (1)) hx hb d_Pa_countWord_9 rfl ?_
    refine w_iadd hx hb d_Pa_countWord_10 (wc + 1) (rfl) ?_
    refine va_put (D := D) (ci := 4) (v := .int (J (wc + 1))) (ty := .int) (C := R_Pa) (T := T_Pa) (N := 4) hx hb hts i_Pa t_Pa k_Pa n_Pa hown hK hP hD hS 0 rfl rfl 2 (by decide) (hts _ mw_146) (fun _ h9 => h9) rfl (by decide +kernel) rfl rfl (Nat.le_of_ble_eq_true rfl) d_Pa_countWord_11 (fun H locs hP hD hS => ?_)
    have hP : va_P D classes [(o, .inr (4, [.ref wo, .ref ac, .int (J (wc + 1)), .int (J bw)]))] H := hP
    have hD : va_D A [(o, .inr (4, [.ref wo, .ref ac, .int (J (wc + 1)), .int (J bw)]))] := hD
    exact Mv_ret hx hb hr hlocks hQ d_Pa_countWord_14 hP hK hD hS () (trivial) [0] rfl (by decide)
set_option maxHeartbeats 4000000 in
set_option maxRecDepth 100000 in
theorem c_Pa_setCost (l : Launch) (D : va_G) (cI cZ cJ : ClassId) (sz : Nat) (o : Nat) (wo : Nat) (ac : Nat) (wc : Int) (bw : Int) (ck : Nat → Int) (w : Nat) (d : Nat) (z : Int) (hw3 : w < 3) (hd3 : d < 3) : Mv l y_Pa_setCost w_Pa_setCost ({ frames := 0, cells := 0, slots := 0, locals := 0 }) false D classes [(cI, .int), (cZ, .boolean), (cJ, .long)] sz [.ref o, .int (J ((w : Nat) : Int)), .int (J ((d : Nat) : Int)), .int (J z)] [(o, .inr (4, [.ref wo, .ref ac, .int (J wc), .int (J bw)])), (ac, ca cI 9 ck)] (S := Unit) (fun _ => True) (fun u : Unit => [(o, .inr (4, [.ref wo, .ref ac, .int (J wc), .int (J bw)])), (ac, ca cI 9 (iu ck (w * 3 + d) z))]) 0 0 := by
  refine Mv_of (cc := b_Pa_setCost) (maxL := 4) (by decide) rfl (Nat.le_of_ble_eq_true rfl) ?_
  intro p e s m args below meth c hx hb hr hml hts hown hlocks hin A hA hP hK hD hT hS Q hQ H hH ls hl
  subst hH
  have hl : lv_has ls 4 [(0, .ref o), (1, .int (J ((w : Nat) : Int))), (2, .int (J ((d : Nat) : Int))), (3, .int (J z))] := hl
  refine lv_aload_n hx hb d_Pa_setCost_0 rfl (lv_at hl 0 rfl) ?_
  refine va_get (D := D) (ci := 4) (v := .ref ac) (C := R_Pa) (T := T_Pa) (N := 4) hx hb hts i_Pa hown hK hP 0 rfl rfl 1 (by decide) (hts _ mw_145) (fun _ h9 => h9) rfl d_Pa_setCost_1 ?_
  refine lv_iload_n hx hb d_Pa_setCost_4 rfl (lv_at hl 1 rfl) ?_
  refine lv_iconst (v := J (3)) hx hb d_Pa_setCost_5 rfl ?_
  refine w_imul hx hb d_Pa_setCost_6 ((w * 3 : Nat) : Int) (by omega) ?_
  refine lv_iload_n hx hb d_Pa_setCost_7 rfl (lv_at hl 2 rfl) ?_
  refine w_iadd hx hb d_Pa_setCost_8 (((w * 3) + d : Nat) : Int) (by omega) ?_
  refine lv_iload_n hx hb d_Pa_setCost_9 rfl (lv_at hl 3 rfl) ?_
  refine w_iast hx hb hK hP hD hS 1 0 rfl rfl ((w * 3) + d) (by omega) (by omega) (by omega) d_Pa_setCost_10 (fun H locs hP hD hS => ?_)
  have hP : va_P D classes [(o, .inr (4, [.ref wo, .ref ac, .int (J wc), .int (J bw)])), (ac, ca cI 9 (iu ck ((w * 3) + d) z))] H := hP
  have hD : va_D A [(o, .inr (4, [.ref wo, .ref ac, .int (J wc), .int (J bw)])), (ac, ca cI 9 (iu ck ((w * 3) + d) z))] := hD
  exact Mv_ret hx hb hr hlocks hQ d_Pa_setCost_11 hP hK hD hS () (trivial) [0, 1] rfl (by decide)
theorem csv_n {cs : Nat → Int} {w : Nat} {d : Int} (h : d < 0) : csv cs w d = 0 := if_pos h
theorem csv_p {cs : Nat → Int} {w : Nat} {d : Int} (h : 0 ≤ d) : csv cs w d = cs (3 * w + d.toNat) := if_neg (by omega)
theorem one_n {d : Int} (h : d < 0) : one d = 0 := if_pos h
theorem one_p {d : Int} (h : 0 ≤ d) : one d = 1 := if_neg (by omega)
theorem trn_1 {a b : Int} (h : a < 0) : trn a b = 0 := if_neg (by omega)
theorem trn_2 {a b : Int} (h : b < 0) : trn a b = 0 := if_neg (by omega)
theorem tbf_0 (k : Nat) (o : Int) : tbf k 0 o = 0 := by unfold tbf; rw [if_neg (by omega), if_neg (by omega)]; rfl
theorem tbf_1 (k : Nat) {o : Int} (h : 0 ≤ o) : tbf k 1 o = trn (dgt k 0) o := by unfold tbf trn; split <;> split <;> split <;> omega
theorem tbf_2 (k : Nat) {o : Int} (h : 0 ≤ o) : tbf k 2 o = trn (dgt k 0) o + trn (dgt k 1) o := by unfold tbf trn; split <;> split <;> split <;> split <;> omega
set_option maxHeartbeats 4000000 in
set_option maxRecDepth 100000 in
theorem c_Pa_totalOf (l : Launch) (D : va_G) (cI cZ cJ : ClassId) (o : Nat) (wo : Nat) (wa : Nat) (ac : Nat) (wc : Int) (bw : Int) (wt : Nat → Int) (ck : Nat → Int) (k : Nat) (hk : k < 64) (hck : ∀ j, -1 ≤ ck j ∧ ck j ≤ 20000) : Ri l y_Pa_totalOf w_Pa_totalOf ({ frames := 2, cells := 0, slots := 0, locals := 45 }) D classes [(cI, .int), (cZ, .boolean), (cJ, .long)] [.ref o, .int (J ((k : Nat) : Int))] [(o, .inr (4, [.ref wo, .ref ac, .int (J wc), .int (J bw)])), (wo, .inr (5, [.ref wa])), (wa, ca cI 6 wt), (ac, ca cI 9 ck)] (tcl wt ck wc (dgt k 0) (dgt k 1) (dgt k 2)) := by
  refine Ri_of (cc := b_Pa_totalOf) (maxL := 7) (by decide) rfl (Nat.le_of_ble_eq_true rfl) ?_
  intro p e s m args below meth c hx hb hr hml hts hown hlocks hP hK Q hQ H hH ls hl
  rw [← hH] at hP
  have hl : lv_has ls 7 [(0, .ref o), (1, .int (J ((k : Nat) : Int)))] := hl
  have d0 := dgt_rg k 0
  have d1 := dgt_rg k 1
  have d2 := dgt_rg k 2
  refine lv_iconst (v := J (0)) hx hb d_Pa_totalOf_0 rfl ?_
  refine lv_istore_n (lv' := [(2, .int (J 0)), (0, .ref o), (1, .int (J ((k : Nat) : Int)))]) hx hb d_Pa_totalOf_1 rfl hl (by decide) rfl (fun ls hl => ?_)
  refine lv_aload_n hx hb d_Pa_totalOf_2 rfl (lv_at hl 1 rfl) ?_
  refine va_get (D := D) (ci := 4) (v := .int (J wc)) (C := R_Pa) (T := T_Pa) (N := 4) hx hb hts i_Pa hown hK hP 0 rfl rfl 2 (by decide) (hts _ mw_146) (fun _ h9 => h9) rfl d_Pa_totalOf_3 ?_
  refine lv_istore_n (lv' := [(3, .int (J wc)), (2, .int (J 0)), (0, .ref o), (1, .int (J ((k : Nat) : Int)))]) hx hb d_Pa_totalOf_6 rfl hl (by decide) rfl (fun ls hl => ?_)
  refine lv_iconst (v := J (0)) hx hb d_Pa_totalOf_7 rfl ?_
  refine lv_istore (lv' := [(4, .int (J 0)), (3, .int (J wc)), (2, .int (J 0)), (0, .ref o), (1, .int (J ((k : Nat) : Int)))]) hx hb d_Pa_totalOf_8 hl (by decide) rfl (fun ls hl => ?_)
  refine lv_iload hx hb d_Pa_totalOf_10 (lv_at hl 0 rfl) ?_
  refine lv_iconst (v := J (3)) hx hb d_Pa_totalOf_12 rfl ?_
  refine w_icmp_ge (tgt := 94) hx hb d_Pa_totalOf_13 (by decide) (by omega) (by omega) (fun c_13 => ?_) (fun c_13 => ?_)
  · exfalso; omega
  · refine lv_iload_n hx hb d_Pa_totalOf_16 rfl (lv_at hl 4 rfl) ?_
    refine lv_iload hx hb d_Pa_totalOf_17 (lv_at hl 0 rfl) ?_
    refine Ri_call (va_runS (As := [.int (J ((k : Nat) : Int)), .int (J 0)]) (rest := []) ⟨hx, hb, hml, hown, hts⟩ (c_Pa_partner l D cI cZ cJ k 0 (by first | assumption | omega) (by first | assumption | omega)) (va_cwS 2 hts (g_S mw_383 mw_384 mw_31 mw_385) rfl rfl rfl (by decide +kernel) ⟨Nat.le_of_ble_eq_true rfl, Nat.le_of_ble_eq_true rfl⟩) (pre_RS hP hK [] rfl) rfl rfl hl.1 rfl (lv_room (Nat.le_of_ble_eq_true rfl)) d_Pa_totalOf_19 ⟨Nat.le_of_ble_eq_true rfl, Nat.le_of_ble_eq_true rfl⟩) ?_
    refine lv_istore (lv' := [(5, .int (J (dgt k 0))), (4, .int (J 0)), (3, .int (J wc)), (2, .int (J 0)), (0, .ref o), (1, .int (J ((k : Nat) : Int)))]) hx hb d_Pa_totalOf_22 hl (by decide) rfl (fun ls hl => ?_)
    refine lv_iload hx hb d_Pa_totalOf_24 (lv_at hl 0 rfl) ?_
    refine w_if_lt (tgt := 88) hx hb d_Pa_totalOf_26 (by decide) (by omega) (fun c_26 => ?_) (fun c_26 => ?_)
    · refine w_iinc (k := 1) (lv' := [(4, .int (J 1)), (5, .int (J (dgt k 0))), (3, .int (J wc)), (2, .int (J 0)), (0, .ref o), (1, .int (J ((k : Nat) : Int)))]) hx hb d_Pa_totalOf_88 hl rfl 1 (by omega) (by decide) rfl (fun ls hl => ?_)
      refine lv_goto (tgt := 10) hx hb d_Pa_totalOf_91 (by decide) ?_
      refine lv_iload hx hb d_Pa_totalOf_10 (lv_at hl 0 rfl) ?_
      refine lv_iconst (v := J (3)) hx hb d_Pa_totalOf_12 rfl ?_
      refine w_icmp_ge (tgt := 94) hx hb d_Pa_totalOf_13 (by decide) (by omega) (by omega) (fun c_13_2 => ?_) (fun c_13_2 => ?_)
      · exfalso; omega
      · refine lv_iload_n hx hb d_Pa_totalOf_16 rfl (lv_at hl 5 rfl) ?_
        refine lv_iload hx hb d_Pa_totalOf_17 (lv_at hl 0 rfl) ?_
        refine Ri_call (va_runS (As := [.int (J ((k : Nat) : Int)), .int (J 1)]) (rest := []) ⟨hx, hb, hml, hown, hts⟩ (c_Pa_partner l D cI cZ cJ k 1 (by first | assumption | omega) (by first | assumption | omega)) (va_cwS 2 hts (g_S mw_383 mw_384 mw_31 mw_385) rfl rfl rfl (by decide +kernel) ⟨Nat.le_of_ble_eq_true rfl, Nat.le_of_ble_eq_true rfl⟩) (pre_RS hP hK [] rfl) rfl rfl hl.1 rfl (lv_room (Nat.le_of_ble_eq_true rfl)) d_Pa_totalOf_19 ⟨Nat.le_of_ble_eq_true rfl, Nat.le_of_ble_eq_true rfl⟩) ?_
        refine lv_istore (lv' := [(5, .int (J (dgt k 1))), (4, .int (J 1)), (3, .int (J wc)), (2, .int (J 0)), (0, .ref o), (1, .int (J ((k : Nat) : Int)))]) hx hb d_Pa_totalOf_22 hl (by decide) rfl (fun ls hl => ?_)
        refine lv_iload hx hb d_Pa_totalOf_24 (lv_at hl 0 rfl) ?_
        refine w_if_lt (tgt := 88) hx hb d_Pa_totalOf_26 (by decide) (by omega) (fun c_26_2 => ?_) (fun c_26_2 => ?_)
        · refine w_iinc (k := 1) (lv' := [(4, .int (J 2)), (5, .int (J (dgt k 1))), (3, .int (J wc)), (2, .int (J 0)), (0, .ref o), (1, .int (J ((k : Nat) : Int)))]) hx hb d_Pa_totalOf_88 hl rfl 2 (by omega) (by decide) rfl (fun ls hl => ?_)
          refine lv_goto (tgt := 10) hx hb d_Pa_totalOf_91 (by decide) ?_
          refine lv_iload hx hb d_Pa_totalOf_10 (lv_at hl 0 rfl) ?_
          refine lv_iconst (v := J (3)) hx hb d_Pa_totalOf_12 rfl ?_
          refine w_icmp_ge (tgt := 94) hx hb d_Pa_totalOf_13 (by decide) (by omega) (by omega) (fun c_13_3 => ?_) (fun c_13_3 => ?_)
          · exfalso; omega
          · refine lv_iload_n hx hb d_Pa_totalOf_16 rfl (lv_at hl 5 rfl) ?_
            refine lv_iload hx hb d_Pa_totalOf_17 (lv_at hl 0 rfl) ?_
            refine Ri_call (va_runS (As := [.int (J ((k : Nat) : Int)), .int (J 2)]) (rest := []) ⟨hx, hb, hml, hown, hts⟩ (c_Pa_partner l D cI cZ cJ k 2 (by first | assumption | omega) (by first | assumption | omega)) (va_cwS 2 hts (g_S mw_383 mw_384 mw_31 mw_385) rfl rfl rfl (by decide +kernel) ⟨Nat.le_of_ble_eq_true rfl, Nat.le_of_ble_eq_true rfl⟩) (pre_RS hP hK [] rfl) rfl rfl hl.1 rfl (lv_room (Nat.le_of_ble_eq_true rfl)) d_Pa_totalOf_19 ⟨Nat.le_of_ble_eq_true rfl, Nat.le_of_ble_eq_true rfl⟩) ?_
            refine lv_istore (lv' := [(5, .int (J (dgt k 2))), (4, .int (J 2)), (3, .int (J wc)), (2, .int (J 0)), (0, .ref o), (1, .int (J ((k : Nat) : Int)))]) hx hb d_Pa_totalOf_22 hl (by decide) rfl (fun ls hl => ?_)
            refine lv_iload hx hb d_Pa_totalOf_24 (lv_at hl 0 rfl) ?_
            refine w_if_lt (tgt := 88) hx hb d_Pa_totalOf_26 (by decide) (by omega) (fun c_26_3 => ?_) (fun c_26_3 => ?_)
            · refine w_iinc (k := 1) (lv' := [(4, .int (J 3)), (5, .int (J (dgt k 2))), (3, .int (J wc)), (2, .int (J 0)), (0, .ref o), (1, .int (J ((k : Nat) : Int)))]) hx hb d_Pa_totalOf_88 hl rfl 3 (by omega) (by decide) rfl (fun ls hl => ?_)
              refine lv_goto (tgt := 10) hx hb d_Pa_totalOf_91 (by decide) ?_
              refine lv_iload hx hb d_Pa_totalOf_10 (lv_at hl 0 rfl) ?_
              refine lv_iconst (v := J (3)) hx hb d_Pa_totalOf_12 rfl ?_
              refine w_icmp_ge (tgt := 94) hx hb d_Pa_totalOf_13 (by decide) (by omega) (by omega) (fun c_13_4 => ?_) (fun c_13_4 => ?_)
              · refine lv_iload_n hx hb d_Pa_totalOf_94 rfl (lv_at hl 3 rfl) ?_
                refine lv_iload_n hx hb d_Pa_totalOf_95 rfl (lv_at hl 2 rfl) ?_
                refine lv_aload_n hx hb d_Pa_totalOf_96 rfl (lv_at hl 4 rfl) ?_
                refine va_get (D := D) (ci := 4) (v := .ref wo) (C := R_Pa) (T := T_Pa) (N := 4) hx hb hts i_Pa hown hK hP 0 rfl rfl 0 (by decide) (hts _ mw_144) (fun _ h9 => h9) rfl d_Pa_totalOf_97 ?_
                refine Ri_call (va_runV (As := []) (rest := [.int (J wc), .int (J 0)]) ⟨hx, hb, hml, hown, hts⟩ (c_We_missing l D cI cZ cJ wo wa wt ) (cwV 0 hts (g_V mw_396 mw_397 mw_398 mw_28 mw_399) rfl rfl rfl (by decide +kernel) ⟨Nat.le_of_ble_eq_true rfl, Nat.le_of_ble_eq_true rfl⟩) (pre_RV hP hK [1, 2] rfl 5 0 rfl rfl) rfl rfl hl.1 rfl (lv_room (Nat.le_of_ble_eq_true rfl)) d_Pa_totalOf_100 ⟨Nat.le_of_ble_eq_true rfl, Nat.le_of_ble_eq_true rfl⟩) ?_
                refine w_imul hx hb d_Pa_totalOf_103 (wt 4 * (wc - 0)) (by rw [Int.mul_comm, Int.sub_zero]) ?_
                refine w_iadd hx hb d_Pa_totalOf_104 (0 + (wt 4 * (wc - 0))) (rfl) ?_
                have eo : wc - 2 * (one (dgt k 0) + one (dgt k 1) + one (dgt k 2)) = wc - 0 := by rw [one_n (d := dgt k 0) (by omega), one_n (d := dgt k 1) (by omega), one_n (d := dgt k 2) (by omega)]; omega
                have et : tcl wt ck wc (dgt k 0) (dgt k 1) (dgt k 2) = top wt ck wc (dgt k 0) (dgt k 1) (dgt k 2) := if_pos (by unfold okc; omega)
                rw [top, eo, csv_n (w := 0) (d := dgt k 0) (by omega), csv_n (w := 1) (d := dgt k 1) (by omega), csv_n (w := 2) (d := dgt k 2) (by omega)] at et
                exact Ri_ret hx hb hr hlocks hQ hH d_Pa_totalOf_105 nb_i (by rw [et]; simp only [trn_1 (a := dgt k 0) (b := dgt k 1) (show dgt k 0 < 0 by omega), trn_1 (a := dgt k 0) (b := dgt k 2) (show dgt k 0 < 0 by omega), trn_1 (a := dgt k 1) (b := dgt k 2) (show dgt k 1 < 0 by omega), Int.mul_add, Int.add_zero, Int.zero_add, Int.mul_zero] <;> omega)
              · exfalso; omega
            · refine lv_aload_n hx hb d_Pa_totalOf_29 rfl (lv_at hl 4 rfl) ?_
              refine va_get (D := D) (ci := 4) (v := .ref ac) (C := R_Pa) (T := T_Pa) (N := 4) hx hb hts i_Pa hown hK hP 0 rfl rfl 1 (by decide) (hts _ mw_145) (fun _ h9 => h9) rfl d_Pa_totalOf_30 ?_
              refine lv_iload hx hb d_Pa_totalOf_33 (lv_at hl 1 rfl) ?_
              refine lv_iconst (v := J (3)) hx hb d_Pa_totalOf_35 rfl ?_
              refine w_imul hx hb d_Pa_totalOf_36 6 (by decide) ?_
              refine lv_iload hx hb d_Pa_totalOf_37 (lv_at hl 0 rfl) ?_
              refine w_iadd hx hb d_Pa_totalOf_39 ((3 * 2 + (dgt k 2).toNat : Nat) : Int) (by omega) ?_
              refine w_iald hx hb hK hP 3 0 rfl rfl (3 * 2 + (dgt k 2).toNat) (by omega) (by omega) (by omega) d_Pa_totalOf_40 ?_
              refine lv_istore (lv' := [(6, .int (J (ck (3 * 2 + (dgt k 2).toNat)))), (5, .int (J (dgt k 2))), (4, .int (J 2)), (3, .int (J wc)), (2, .int (J 0)), (0, .ref o), (1, .int (J ((k : Nat) : Int)))]) hx hb d_Pa_totalOf_41 hl (by decide) rfl (fun ls hl => ?_)
              have k2 := hck ((3 * 2 + (dgt k 2).toNat))
              refine lv_iload hx hb d_Pa_totalOf_43 (lv_at hl 0 rfl) ?_
              refine lv_iconst (v := J (-1)) hx hb d_Pa_totalOf_45 rfl ?_
              refine w_icmp_eq (tgt := 60) hx hb d_Pa_totalOf_46 (by decide) (by omega) (by omega) (fun c_46 => ?_) (fun c_46 => ?_)
              · refine lv_ldc (v := J (1000000)) hx hb hown (hts _ mw_378) d_Pa_totalOf_60 ?_
                exact Ri_ret hx hb hr hlocks hQ hH d_Pa_totalOf_62 nb_i ((show tcl wt ck wc (dgt k 0) (dgt k 1) (dgt k 2) = 1000000 from if_neg (by unfold okc; omega)).symm)
              · refine lv_iload_n hx hb d_Pa_totalOf_49 rfl (lv_at hl 6 rfl) ?_
                refine lv_iload hx hb d_Pa_totalOf_50 (lv_at hl 2 rfl) ?_
                refine lv_iload hx hb d_Pa_totalOf_52 (lv_at hl 1 rfl) ?_
                refine Ri_call (va_runS (As := [.int (J ((k : Nat) : Int)), .int (J 2), .int (J (dgt k 2))]) (rest := []) ⟨hx, hb, hml, hown, hts⟩ (c_Pa_isTaken l D cI cZ cJ k 2 (dgt k 2) (by first | assumption | omega) (by first | assumption | omega) (by first | assumption | omega)) (va_cwS 3 hts (g_S mw_386 mw_387 mw_31 mw_388) rfl rfl rfl (by decide +kernel) ⟨Nat.le_of_ble_eq_true rfl, Nat.le_of_ble_eq_true rfl⟩) (pre_RS hP hK [] rfl) rfl rfl hl.1 rfl (lv_room (Nat.le_of_ble_eq_true rfl)) d_Pa_totalOf_54 ⟨Nat.le_of_ble_eq_true rfl, Nat.le_of_ble_eq_true rfl⟩) ?_
                refine w_if_eq (tgt := 63) hx hb d_Pa_totalOf_57 (by decide) (rg_b2) (fun c_57 => ?_) (fun c_57 => ?_)
                · have c_57 := b2_0.mp c_57
                  refine lv_iload_n hx hb d_Pa_totalOf_63 rfl (lv_at hl 4 rfl) ?_
                  refine lv_iload hx hb d_Pa_totalOf_64 (lv_at hl 0 rfl) ?_
                  refine lv_iload_n hx hb d_Pa_totalOf_66 rfl (lv_at hl 6 rfl) ?_
                  refine lv_iload hx hb d_Pa_totalOf_67 (lv_at hl 2 rfl) ?_
                  refine lv_iload hx hb d_Pa_totalOf_69 (lv_at hl 1 rfl) ?_
                  refine Ri_call (va_runS (As := [.int (J ((k : Nat) : Int)), .int (J 2), .int (J (dgt k 2))]) (rest := [.int (J (ck (3 * 2 + (dgt k 2).toNat))), .int (J 0)]) ⟨hx, hb, hml, hown, hts⟩ (c_Pa_turnedBefore l D cI cZ cJ k 2 (dgt k 2) (by first | assumption | omega) (by first | assumption | omega) (by first | assumption | omega)) (va_cwS 3 hts (g_S mw_389 mw_390 mw_31 mw_391) rfl rfl rfl (by decide +kernel) ⟨Nat.le_of_ble_eq_true rfl, Nat.le_of_ble_eq_true rfl⟩) (pre_RS hP hK [] rfl) rfl rfl hl.1 rfl (lv_room (Nat.le_of_ble_eq_true rfl)) d_Pa_totalOf_71 ⟨Nat.le_of_ble_eq_true rfl, Nat.le_of_ble_eq_true rfl⟩) ?_
                  refine lv_aload_n hx hb d_Pa_totalOf_74 rfl (lv_at hl 5 rfl) ?_
                  refine va_get (D := D) (ci := 4) (v := .ref wo) (C := R_Pa) (T := T_Pa) (N := 4) hx hb hts i_Pa hown hK hP 0 rfl rfl 0 (by decide) (hts _ mw_144) (fun _ h9 => h9) rfl d_Pa_totalOf_75 ?_
                  refine Ri_call (va_runV (As := []) (rest := [.int (J (tbf k 2 (dgt k 2))), .int (J (ck (3 * 2 + (dgt k 2).toNat))), .int (J 0)]) ⟨hx, hb, hml, hown, hts⟩ (c_We_turned l D cI cZ cJ wo wa wt ) (cwV 0 hts (g_V mw_392 mw_393 mw_394 mw_28 mw_395) rfl rfl rfl (by decide +kernel) ⟨Nat.le_of_ble_eq_true rfl, Nat.le_of_ble_eq_true rfl⟩) (pre_RV hP hK [1, 2] rfl 5 0 rfl rfl) rfl rfl hl.1 rfl (lv_room (Nat.le_of_ble_eq_true rfl)) d_Pa_totalOf_78 ⟨Nat.le_of_ble_eq_true rfl, Nat.le_of_ble_eq_true rfl⟩) ?_
                  refine w_imul hx hb d_Pa_totalOf_81 (wt 5 * (trn (dgt k 0) (dgt k 2) + trn (dgt k 1) (dgt k 2))) (by rw [tbf_2 k (by omega), Int.mul_comm]) ?_
                  refine w_iadd hx hb d_Pa_totalOf_82 ((ck (3 * 2 + (dgt k 2).toNat)) + (wt 5 * (trn (dgt k 0) (dgt k 2) + trn (dgt k 1) (dgt k 2)))) (rfl) ?_
                  refine w_iadd hx hb d_Pa_totalOf_83 (0 + ((ck (3 * 2 + (dgt k 2).toNat)) + (wt 5 * (trn (dgt k 0) (dgt k 2) + trn (dgt k 1) (dgt k 2))))) (rfl) ?_
                  refine lv_istore_n (lv' := [(2, .int (J (0 + ((ck (3 * 2 + (dgt k 2).toNat)) + (wt 5 * (trn (dgt k 0) (dgt k 2) + trn (dgt k 1) (dgt k 2))))))), (6, .int (J (ck (3 * 2 + (dgt k 2).toNat)))), (5, .int (J (dgt k 2))), (4, .int (J 2)), (3, .int (J wc)), (0, .ref o), (1, .int (J ((k : Nat) : Int)))]) hx hb d_Pa_totalOf_84 rfl hl (by decide) rfl (fun ls hl => ?_)
                  refine w_iinc (k := 4) (lv' := [(3, .int (J (wc - 2))), (2, .int (J (0 + ((ck (3 * 2 + (dgt k 2).toNat)) + (wt 5 * (trn (dgt k 0) (dgt k 2) + trn (dgt k 1) (dgt k 2))))))), (6, .int (J (ck (3 * 2 + (dgt k 2).toNat)))), (5, .int (J (dgt k 2))), (4, .int (J 2)), (0, .ref o), (1, .int (J ((k : Nat) : Int)))]) hx hb d_Pa_totalOf_85 hl rfl (wc - 2) (by omega) (by decide) rfl (fun ls hl => ?_)
                  refine w_iinc (k := 4) (lv' := [(4, .int (J 3)), (3, .int (J (wc - 2))), (2, .int (J (0 + ((ck (3 * 2 + (dgt k 2).toNat)) + (wt 5 * (trn (dgt k 0) (dgt k 2) + trn (dgt k 1) (dgt k 2))))))), (6, .int (J (ck (3 * 2 + (dgt k 2).toNat)))), (5, .int (J (dgt k 2))), (0, .ref o), (1, .int (J ((k : Nat) : Int)))]) hx hb d_Pa_totalOf_88 hl rfl 3 (by omega) (by decide) rfl (fun ls hl => ?_)
                  refine lv_goto (tgt := 10) hx hb d_Pa_totalOf_91 (by decide) ?_
                  refine lv_iload hx hb d_Pa_totalOf_10 (lv_at hl 0 rfl) ?_
                  refine lv_iconst (v := J (3)) hx hb d_Pa_totalOf_12 rfl ?_
                  refine w_icmp_ge (tgt := 94) hx hb d_Pa_totalOf_13 (by decide) (by omega) (by omega) (fun c_13_4 => ?_) (fun c_13_4 => ?_)
                  · refine lv_iload_n hx hb d_Pa_totalOf_94 rfl (lv_at hl 2 rfl) ?_
                    refine lv_iload_n hx hb d_Pa_totalOf_95 rfl (lv_at hl 1 rfl) ?_
                    refine lv_aload_n hx hb d_Pa_totalOf_96 rfl (lv_at hl 5 rfl) ?_
                    refine va_get (D := D) (ci := 4) (v := .ref wo) (C := R_Pa) (T := T_Pa) (N := 4) hx hb hts i_Pa hown hK hP 0 rfl rfl 0 (by decide) (hts _ mw_144) (fun _ h9 => h9) rfl d_Pa_totalOf_97 ?_
                    refine Ri_call (va_runV (As := []) (rest := [.int (J (wc - 2)), .int (J (0 + ((ck (3 * 2 + (dgt k 2).toNat)) + (wt 5 * (trn (dgt k 0) (dgt k 2) + trn (dgt k 1) (dgt k 2))))))]) ⟨hx, hb, hml, hown, hts⟩ (c_We_missing l D cI cZ cJ wo wa wt ) (cwV 0 hts (g_V mw_396 mw_397 mw_398 mw_28 mw_399) rfl rfl rfl (by decide +kernel) ⟨Nat.le_of_ble_eq_true rfl, Nat.le_of_ble_eq_true rfl⟩) (pre_RV hP hK [1, 2] rfl 5 0 rfl rfl) rfl rfl hl.1 rfl (lv_room (Nat.le_of_ble_eq_true rfl)) d_Pa_totalOf_100 ⟨Nat.le_of_ble_eq_true rfl, Nat.le_of_ble_eq_true rfl⟩) ?_
                    refine w_imul hx hb d_Pa_totalOf_103 (wt 4 * (wc - 2)) (by rw [Int.mul_comm, show wc - 2 = wc - 2 by omega]) ?_
                    refine w_iadd hx hb d_Pa_totalOf_104 ((0 + ((ck (3 * 2 + (dgt k 2).toNat)) + (wt 5 * (trn (dgt k 0) (dgt k 2) + trn (dgt k 1) (dgt k 2))))) + (wt 4 * (wc - 2))) (rfl) ?_
                    have eo : wc - 2 * (one (dgt k 0) + one (dgt k 1) + one (dgt k 2)) = wc - 2 := by rw [one_n (d := dgt k 0) (by omega), one_n (d := dgt k 1) (by omega), one_p (d := dgt k 2) (by omega)]; omega
                    have et : tcl wt ck wc (dgt k 0) (dgt k 1) (dgt k 2) = top wt ck wc (dgt k 0) (dgt k 1) (dgt k 2) := if_pos (by unfold okc; omega)
                    rw [top, eo, csv_n (w := 0) (d := dgt k 0) (by omega), csv_n (w := 1) (d := dgt k 1) (by omega), csv_p (w := 2) (d := dgt k 2) (by omega)] at et
                    exact Ri_ret hx hb hr hlocks hQ hH d_Pa_totalOf_105 nb_i (by rw [et]; simp only [trn_1 (a := dgt k 0) (b := dgt k 1) (show dgt k 0 < 0 by omega), trn_1 (a := dgt k 0) (b := dgt k 2) (show dgt k 0 < 0 by omega), trn_1 (a := dgt k 1) (b := dgt k 2) (show dgt k 1 < 0 by omega), Int.mul_add, Int.add_zero, Int.zero_add, Int.mul_zero] <;> omega)
                  · exfalso; omega
                · have c_57 := b2_n0.mp c_57
                  refine lv_ldc (v := J (1000000)) hx hb hown (hts _ mw_378) d_Pa_totalOf_60 ?_
                  exact Ri_ret hx hb hr hlocks hQ hH d_Pa_totalOf_62 nb_i ((show tcl wt ck wc (dgt k 0) (dgt k 1) (dgt k 2) = 1000000 from if_neg (by unfold okc; omega)).symm)
        · refine lv_aload_n hx hb d_Pa_totalOf_29 rfl (lv_at hl 4 rfl) ?_
          refine va_get (D := D) (ci := 4) (v := .ref ac) (C := R_Pa) (T := T_Pa) (N := 4) hx hb hts i_Pa hown hK hP 0 rfl rfl 1 (by decide) (hts _ mw_145) (fun _ h9 => h9) rfl d_Pa_totalOf_30 ?_
          refine lv_iload hx hb d_Pa_totalOf_33 (lv_at hl 1 rfl) ?_
          refine lv_iconst (v := J (3)) hx hb d_Pa_totalOf_35 rfl ?_
          refine w_imul hx hb d_Pa_totalOf_36 3 (by decide) ?_
          refine lv_iload hx hb d_Pa_totalOf_37 (lv_at hl 0 rfl) ?_
          refine w_iadd hx hb d_Pa_totalOf_39 ((3 * 1 + (dgt k 1).toNat : Nat) : Int) (by omega) ?_
          refine w_iald hx hb hK hP 3 0 rfl rfl (3 * 1 + (dgt k 1).toNat) (by omega) (by omega) (by omega) d_Pa_totalOf_40 ?_
          refine lv_istore (lv' := [(6, .int (J (ck (3 * 1 + (dgt k 1).toNat)))), (5, .int (J (dgt k 1))), (4, .int (J 1)), (3, .int (J wc)), (2, .int (J 0)), (0, .ref o), (1, .int (J ((k : Nat) : Int)))]) hx hb d_Pa_totalOf_41 hl (by decide) rfl (fun ls hl => ?_)
          have k1 := hck ((3 * 1 + (dgt k 1).toNat))
          refine lv_iload hx hb d_Pa_totalOf_43 (lv_at hl 0 rfl) ?_
          refine lv_iconst (v := J (-1)) hx hb d_Pa_totalOf_45 rfl ?_
          refine w_icmp_eq (tgt := 60) hx hb d_Pa_totalOf_46 (by decide) (by omega) (by omega) (fun c_46 => ?_) (fun c_46 => ?_)
          · refine lv_ldc (v := J (1000000)) hx hb hown (hts _ mw_378) d_Pa_totalOf_60 ?_
            exact Ri_ret hx hb hr hlocks hQ hH d_Pa_totalOf_62 nb_i ((show tcl wt ck wc (dgt k 0) (dgt k 1) (dgt k 2) = 1000000 from if_neg (by unfold okc; omega)).symm)
          · refine lv_iload_n hx hb d_Pa_totalOf_49 rfl (lv_at hl 6 rfl) ?_
            refine lv_iload hx hb d_Pa_totalOf_50 (lv_at hl 2 rfl) ?_
            refine lv_iload hx hb d_Pa_totalOf_52 (lv_at hl 1 rfl) ?_
            refine Ri_call (va_runS (As := [.int (J ((k : Nat) : Int)), .int (J 1), .int (J (dgt k 1))]) (rest := []) ⟨hx, hb, hml, hown, hts⟩ (c_Pa_isTaken l D cI cZ cJ k 1 (dgt k 1) (by first | assumption | omega) (by first | assumption | omega) (by first | assumption | omega)) (va_cwS 3 hts (g_S mw_386 mw_387 mw_31 mw_388) rfl rfl rfl (by decide +kernel) ⟨Nat.le_of_ble_eq_true rfl, Nat.le_of_ble_eq_true rfl⟩) (pre_RS hP hK [] rfl) rfl rfl hl.1 rfl (lv_room (Nat.le_of_ble_eq_true rfl)) d_Pa_totalOf_54 ⟨Nat.le_of_ble_eq_true rfl, Nat.le_of_ble_eq_true rfl⟩) ?_
            refine w_if_eq (tgt := 63) hx hb d_Pa_totalOf_57 (by decide) (rg_b2) (fun c_57 => ?_) (fun c_57 => ?_)
            · have c_57 := b2_0.mp c_57
              refine lv_iload_n hx hb d_Pa_totalOf_63 rfl (lv_at hl 4 rfl) ?_
              refine lv_iload hx hb d_Pa_totalOf_64 (lv_at hl 0 rfl) ?_
              refine lv_iload_n hx hb d_Pa_totalOf_66 rfl (lv_at hl 6 rfl) ?_
              refine lv_iload hx hb d_Pa_totalOf_67 (lv_at hl 2 rfl) ?_
              refine lv_iload hx hb d_Pa_totalOf_69 (lv_at hl 1 rfl) ?_
              refine Ri_call (va_runS (As := [.int (J ((k : Nat) : Int)), .int (J 1), .int (J (dgt k 1))]) (rest := [.int (J (ck (3 * 1 + (dgt k 1).toNat))), .int (J 0)]) ⟨hx, hb, hml, hown, hts⟩ (c_Pa_turnedBefore l D cI cZ cJ k 1 (dgt k 1) (by first | assumption | omega) (by first | assumption | omega) (by first | assumption | omega)) (va_cwS 3 hts (g_S mw_389 mw_390 mw_31 mw_391) rfl rfl rfl (by decide +kernel) ⟨Nat.le_of_ble_eq_true rfl, Nat.le_of_ble_eq_true rfl⟩) (pre_RS hP hK [] rfl) rfl rfl hl.1 rfl (lv_room (Nat.le_of_ble_eq_true rfl)) d_Pa_totalOf_71 ⟨Nat.le_of_ble_eq_true rfl, Nat.le_of_ble_eq_true rfl⟩) ?_
              refine lv_aload_n hx hb d_Pa_totalOf_74 rfl (lv_at hl 5 rfl) ?_
              refine va_get (D := D) (ci := 4) (v := .ref wo) (C := R_Pa) (T := T_Pa) (N := 4) hx hb hts i_Pa hown hK hP 0 rfl rfl 0 (by decide) (hts _ mw_144) (fun _ h9 => h9) rfl d_Pa_totalOf_75 ?_
              refine Ri_call (va_runV (As := []) (rest := [.int (J (tbf k 1 (dgt k 1))), .int (J (ck (3 * 1 + (dgt k 1).toNat))), .int (J 0)]) ⟨hx, hb, hml, hown, hts⟩ (c_We_turned l D cI cZ cJ wo wa wt ) (cwV 0 hts (g_V mw_392 mw_393 mw_394 mw_28 mw_395) rfl rfl rfl (by decide +kernel) ⟨Nat.le_of_ble_eq_true rfl, Nat.le_of_ble_eq_true rfl⟩) (pre_RV hP hK [1, 2] rfl 5 0 rfl rfl) rfl rfl hl.1 rfl (lv_room (Nat.le_of_ble_eq_true rfl)) d_Pa_totalOf_78 ⟨Nat.le_of_ble_eq_true rfl, Nat.le_of_ble_eq_true rfl⟩) ?_
              refine w_imul hx hb d_Pa_totalOf_81 (wt 5 * trn (dgt k 0) (dgt k 1)) (by rw [tbf_1 k (by omega), Int.mul_comm]) ?_
              refine w_iadd hx hb d_Pa_totalOf_82 ((ck (3 * 1 + (dgt k 1).toNat)) + (wt 5 * trn (dgt k 0) (dgt k 1))) (rfl) ?_
              refine w_iadd hx hb d_Pa_totalOf_83 (0 + ((ck (3 * 1 + (dgt k 1).toNat)) + (wt 5 * trn (dgt k 0) (dgt k 1)))) (rfl) ?_
              refine lv_istore_n (lv' := [(2, .int (J (0 + ((ck (3 * 1 + (dgt k 1).toNat)) + (wt 5 * trn (dgt k 0) (dgt k 1)))))), (6, .int (J (ck (3 * 1 + (dgt k 1).toNat)))), (5, .int (J (dgt k 1))), (4, .int (J 1)), (3, .int (J wc)), (0, .ref o), (1, .int (J ((k : Nat) : Int)))]) hx hb d_Pa_totalOf_84 rfl hl (by decide) rfl (fun ls hl => ?_)
              refine w_iinc (k := 4) (lv' := [(3, .int (J (wc - 2))), (2, .int (J (0 + ((ck (3 * 1 + (dgt k 1).toNat)) + (wt 5 * trn (dgt k 0) (dgt k 1)))))), (6, .int (J (ck (3 * 1 + (dgt k 1).toNat)))), (5, .int (J (dgt k 1))), (4, .int (J 1)), (0, .ref o), (1, .int (J ((k : Nat) : Int)))]) hx hb d_Pa_totalOf_85 hl rfl (wc - 2) (by omega) (by decide) rfl (fun ls hl => ?_)
              refine w_iinc (k := 4) (lv' := [(4, .int (J 2)), (3, .int (J (wc - 2))), (2, .int (J (0 + ((ck (3 * 1 + (dgt k 1).toNat)) + (wt 5 * trn (dgt k 0) (dgt k 1)))))), (6, .int (J (ck (3 * 1 + (dgt k 1).toNat)))), (5, .int (J (dgt k 1))), (0, .ref o), (1, .int (J ((k : Nat) : Int)))]) hx hb d_Pa_totalOf_88 hl rfl 2 (by omega) (by decide) rfl (fun ls hl => ?_)
              refine lv_goto (tgt := 10) hx hb d_Pa_totalOf_91 (by decide) ?_
              refine lv_iload hx hb d_Pa_totalOf_10 (lv_at hl 0 rfl) ?_
              refine lv_iconst (v := J (3)) hx hb d_Pa_totalOf_12 rfl ?_
              refine w_icmp_ge (tgt := 94) hx hb d_Pa_totalOf_13 (by decide) (by omega) (by omega) (fun c_13_3 => ?_) (fun c_13_3 => ?_)
              · exfalso; omega
              · refine lv_iload_n hx hb d_Pa_totalOf_16 rfl (lv_at hl 6 rfl) ?_
                refine lv_iload hx hb d_Pa_totalOf_17 (lv_at hl 0 rfl) ?_
                refine Ri_call (va_runS (As := [.int (J ((k : Nat) : Int)), .int (J 2)]) (rest := []) ⟨hx, hb, hml, hown, hts⟩ (c_Pa_partner l D cI cZ cJ k 2 (by first | assumption | omega) (by first | assumption | omega)) (va_cwS 2 hts (g_S mw_383 mw_384 mw_31 mw_385) rfl rfl rfl (by decide +kernel) ⟨Nat.le_of_ble_eq_true rfl, Nat.le_of_ble_eq_true rfl⟩) (pre_RS hP hK [] rfl) rfl rfl hl.1 rfl (lv_room (Nat.le_of_ble_eq_true rfl)) d_Pa_totalOf_19 ⟨Nat.le_of_ble_eq_true rfl, Nat.le_of_ble_eq_true rfl⟩) ?_
                refine lv_istore (lv' := [(5, .int (J (dgt k 2))), (4, .int (J 2)), (3, .int (J (wc - 2))), (2, .int (J (0 + ((ck (3 * 1 + (dgt k 1).toNat)) + (wt 5 * trn (dgt k 0) (dgt k 1)))))), (6, .int (J (ck (3 * 1 + (dgt k 1).toNat)))), (0, .ref o), (1, .int (J ((k : Nat) : Int)))]) hx hb d_Pa_totalOf_22 hl (by decide) rfl (fun ls hl => ?_)
                refine lv_iload hx hb d_Pa_totalOf_24 (lv_at hl 0 rfl) ?_
                refine w_if_lt (tgt := 88) hx hb d_Pa_totalOf_26 (by decide) (by omega) (fun c_26_3 => ?_) (fun c_26_3 => ?_)
                · refine w_iinc (k := 1) (lv' := [(4, .int (J 3)), (5, .int (J (dgt k 2))), (3, .int (J (wc - 2))), (2, .int (J (0 + ((ck (3 * 1 + (dgt k 1).toNat)) + (wt 5 * trn (dgt k 0) (dgt k 1)))))), (6, .int (J (ck (3 * 1 + (dgt k 1).toNat)))), (0, .ref o), (1, .int (J ((k : Nat) : Int)))]) hx hb d_Pa_totalOf_88 hl rfl 3 (by omega) (by decide) rfl (fun ls hl => ?_)
                  refine lv_goto (tgt := 10) hx hb d_Pa_totalOf_91 (by decide) ?_
                  refine lv_iload hx hb d_Pa_totalOf_10 (lv_at hl 0 rfl) ?_
                  refine lv_iconst (v := J (3)) hx hb d_Pa_totalOf_12 rfl ?_
                  refine w_icmp_ge (tgt := 94) hx hb d_Pa_totalOf_13 (by decide) (by omega) (by omega) (fun c_13_4 => ?_) (fun c_13_4 => ?_)
                  · refine lv_iload_n hx hb d_Pa_totalOf_94 rfl (lv_at hl 3 rfl) ?_
                    refine lv_iload_n hx hb d_Pa_totalOf_95 rfl (lv_at hl 2 rfl) ?_
                    refine lv_aload_n hx hb d_Pa_totalOf_96 rfl (lv_at hl 5 rfl) ?_
                    refine va_get (D := D) (ci := 4) (v := .ref wo) (C := R_Pa) (T := T_Pa) (N := 4) hx hb hts i_Pa hown hK hP 0 rfl rfl 0 (by decide) (hts _ mw_144) (fun _ h9 => h9) rfl d_Pa_totalOf_97 ?_
                    refine Ri_call (va_runV (As := []) (rest := [.int (J (wc - 2)), .int (J (0 + ((ck (3 * 1 + (dgt k 1).toNat)) + (wt 5 * trn (dgt k 0) (dgt k 1)))))]) ⟨hx, hb, hml, hown, hts⟩ (c_We_missing l D cI cZ cJ wo wa wt ) (cwV 0 hts (g_V mw_396 mw_397 mw_398 mw_28 mw_399) rfl rfl rfl (by decide +kernel) ⟨Nat.le_of_ble_eq_true rfl, Nat.le_of_ble_eq_true rfl⟩) (pre_RV hP hK [1, 2] rfl 5 0 rfl rfl) rfl rfl hl.1 rfl (lv_room (Nat.le_of_ble_eq_true rfl)) d_Pa_totalOf_100 ⟨Nat.le_of_ble_eq_true rfl, Nat.le_of_ble_eq_true rfl⟩) ?_
                    refine w_imul hx hb d_Pa_totalOf_103 (wt 4 * (wc - 2)) (by rw [Int.mul_comm, show wc - 2 = wc - 2 by omega]) ?_
                    refine w_iadd hx hb d_Pa_totalOf_104 ((0 + ((ck (3 * 1 + (dgt k 1).toNat)) + (wt 5 * trn (dgt k 0) (dgt k 1)))) + (wt 4 * (wc - 2))) (rfl) ?_
                    have eo : wc - 2 * (one (dgt k 0) + one (dgt k 1) + one (dgt k 2)) = wc - 2 := by rw [one_n (d := dgt k 0) (by omega), one_p (d := dgt k 1) (by omega), one_n (d := dgt k 2) (by omega)]; omega
                    have et : tcl wt ck wc (dgt k 0) (dgt k 1) (dgt k 2) = top wt ck wc (dgt k 0) (dgt k 1) (dgt k 2) := if_pos (by unfold okc; omega)
                    rw [top, eo, csv_n (w := 0) (d := dgt k 0) (by omega), csv_p (w := 1) (d := dgt k 1) (by omega), csv_n (w := 2) (d := dgt k 2) (by omega)] at et
                    exact Ri_ret hx hb hr hlocks hQ hH d_Pa_totalOf_105 nb_i (by rw [et]; simp only [trn_1 (a := dgt k 0) (b := dgt k 1) (show dgt k 0 < 0 by omega), trn_1 (a := dgt k 0) (b := dgt k 2) (show dgt k 0 < 0 by omega), trn_2 (a := dgt k 1) (b := dgt k 2) (show dgt k 2 < 0 by omega), Int.mul_add, Int.add_zero, Int.zero_add, Int.mul_zero] <;> omega)
                  · exfalso; omega
                · refine lv_aload_n hx hb d_Pa_totalOf_29 rfl (lv_at hl 5 rfl) ?_
                  refine va_get (D := D) (ci := 4) (v := .ref ac) (C := R_Pa) (T := T_Pa) (N := 4) hx hb hts i_Pa hown hK hP 0 rfl rfl 1 (by decide) (hts _ mw_145) (fun _ h9 => h9) rfl d_Pa_totalOf_30 ?_
                  refine lv_iload hx hb d_Pa_totalOf_33 (lv_at hl 1 rfl) ?_
                  refine lv_iconst (v := J (3)) hx hb d_Pa_totalOf_35 rfl ?_
                  refine w_imul hx hb d_Pa_totalOf_36 6 (by decide) ?_
                  refine lv_iload hx hb d_Pa_totalOf_37 (lv_at hl 0 rfl) ?_
                  refine w_iadd hx hb d_Pa_totalOf_39 ((3 * 2 + (dgt k 2).toNat : Nat) : Int) (by omega) ?_
                  refine w_iald hx hb hK hP 3 0 rfl rfl (3 * 2 + (dgt k 2).toNat) (by omega) (by omega) (by omega) d_Pa_totalOf_40 ?_
                  refine lv_istore (lv' := [(6, .int (J (ck (3 * 2 + (dgt k 2).toNat)))), (5, .int (J (dgt k 2))), (4, .int (J 2)), (3, .int (J (wc - 2))), (2, .int (J (0 + ((ck (3 * 1 + (dgt k 1).toNat)) + (wt 5 * trn (dgt k 0) (dgt k 1)))))), (0, .ref o), (1, .int (J ((k : Nat) : Int)))]) hx hb d_Pa_totalOf_41 hl (by decide) rfl (fun ls hl => ?_)
                  have k2 := hck ((3 * 2 + (dgt k 2).toNat))
                  refine lv_iload hx hb d_Pa_totalOf_43 (lv_at hl 0 rfl) ?_
                  refine lv_iconst (v := J (-1)) hx hb d_Pa_totalOf_45 rfl ?_
                  refine w_icmp_eq (tgt := 60) hx hb d_Pa_totalOf_46 (by decide) (by omega) (by omega) (fun c_46_2 => ?_) (fun c_46_2 => ?_)
                  · refine lv_ldc (v := J (1000000)) hx hb hown (hts _ mw_378) d_Pa_totalOf_60 ?_
                    exact Ri_ret hx hb hr hlocks hQ hH d_Pa_totalOf_62 nb_i ((show tcl wt ck wc (dgt k 0) (dgt k 1) (dgt k 2) = 1000000 from if_neg (by unfold okc; omega)).symm)
                  · refine lv_iload_n hx hb d_Pa_totalOf_49 rfl (lv_at hl 6 rfl) ?_
                    refine lv_iload hx hb d_Pa_totalOf_50 (lv_at hl 2 rfl) ?_
                    refine lv_iload hx hb d_Pa_totalOf_52 (lv_at hl 1 rfl) ?_
                    refine Ri_call (va_runS (As := [.int (J ((k : Nat) : Int)), .int (J 2), .int (J (dgt k 2))]) (rest := []) ⟨hx, hb, hml, hown, hts⟩ (c_Pa_isTaken l D cI cZ cJ k 2 (dgt k 2) (by first | assumption | omega) (by first | assumption | omega) (by first | assumption | omega)) (va_cwS 3 hts (g_S mw_386 mw_387 mw_31 mw_388) rfl rfl rfl (by decide +kernel) ⟨Nat.le_of_ble_eq_true rfl, Nat.le_of_ble_eq_true rfl⟩) (pre_RS hP hK [] rfl) rfl rfl hl.1 rfl (lv_room (Nat.le_of_ble_eq_true rfl)) d_Pa_totalOf_54 ⟨Nat.le_of_ble_eq_true rfl, Nat.le_of_ble_eq_true rfl⟩) ?_
                    refine w_if_eq (tgt := 63) hx hb d_Pa_totalOf_57 (by decide) (rg_b2) (fun c_57_2 => ?_) (fun c_57_2 => ?_)
                    · have c_57_2 := b2_0.mp c_57_2
                      refine lv_iload_n hx hb d_Pa_totalOf_63 rfl (lv_at hl 4 rfl) ?_
                      refine lv_iload hx hb d_Pa_totalOf_64 (lv_at hl 0 rfl) ?_
                      refine lv_iload_n hx hb d_Pa_totalOf_66 rfl (lv_at hl 6 rfl) ?_
                      refine lv_iload hx hb d_Pa_totalOf_67 (lv_at hl 2 rfl) ?_
                      refine lv_iload hx hb d_Pa_totalOf_69 (lv_at hl 1 rfl) ?_
                      refine Ri_call (va_runS (As := [.int (J ((k : Nat) : Int)), .int (J 2), .int (J (dgt k 2))]) (rest := [.int (J (ck (3 * 2 + (dgt k 2).toNat))), .int (J (0 + ((ck (3 * 1 + (dgt k 1).toNat)) + (wt 5 * trn (dgt k 0) (dgt k 1)))))]) ⟨hx, hb, hml, hown, hts⟩ (c_Pa_turnedBefore l D cI cZ cJ k 2 (dgt k 2) (by first | assumption | omega) (by first | assumption | omega) (by first | assumption | omega)) (va_cwS 3 hts (g_S mw_389 mw_390 mw_31 mw_391) rfl rfl rfl (by decide +kernel) ⟨Nat.le_of_ble_eq_true rfl, Nat.le_of_ble_eq_true rfl⟩) (pre_RS hP hK [] rfl) rfl rfl hl.1 rfl (lv_room (Nat.le_of_ble_eq_true rfl)) d_Pa_totalOf_71 ⟨Nat.le_of_ble_eq_true rfl, Nat.le_of_ble_eq_true rfl⟩) ?_
                      refine lv_aload_n hx hb d_Pa_totalOf_74 rfl (lv_at hl 5 rfl) ?_
                      refine va_get (D := D) (ci := 4) (v := .ref wo) (C := R_Pa) (T := T_Pa) (N := 4) hx hb hts i_Pa hown hK hP 0 rfl rfl 0 (by decide) (hts _ mw_144) (fun _ h9 => h9) rfl d_Pa_totalOf_75 ?_
                      refine Ri_call (va_runV (As := []) (rest := [.int (J (tbf k 2 (dgt k 2))), .int (J (ck (3 * 2 + (dgt k 2).toNat))), .int (J (0 + ((ck (3 * 1 + (dgt k 1).toNat)) + (wt 5 * trn (dgt k 0) (dgt k 1)))))]) ⟨hx, hb, hml, hown, hts⟩ (c_We_turned l D cI cZ cJ wo wa wt ) (cwV 0 hts (g_V mw_392 mw_393 mw_394 mw_28 mw_395) rfl rfl rfl (by decide +kernel) ⟨Nat.le_of_ble_eq_true rfl, Nat.le_of_ble_eq_true rfl⟩) (pre_RV hP hK [1, 2] rfl 5 0 rfl rfl) rfl rfl hl.1 rfl (lv_room (Nat.le_of_ble_eq_true rfl)) d_Pa_totalOf_78 ⟨Nat.le_of_ble_eq_true rfl, Nat.le_of_ble_eq_true rfl⟩) ?_
                      refine w_imul hx hb d_Pa_totalOf_81 (wt 5 * (trn (dgt k 0) (dgt k 2) + trn (dgt k 1) (dgt k 2))) (by rw [tbf_2 k (by omega), Int.mul_comm]) ?_
                      refine w_iadd hx hb d_Pa_totalOf_82 ((ck (3 * 2 + (dgt k 2).toNat)) + (wt 5 * (trn (dgt k 0) (dgt k 2) + trn (dgt k 1) (dgt k 2)))) (rfl) ?_
                      refine w_iadd hx hb d_Pa_totalOf_83 ((0 + ((ck (3 * 1 + (dgt k 1).toNat)) + (wt 5 * trn (dgt k 0) (dgt k 1)))) + ((ck (3 * 2 + (dgt k 2).toNat)) + (wt 5 * (trn (dgt k 0) (dgt k 2) + trn (dgt k 1) (dgt k 2))))) (rfl) ?_
                      refine lv_istore_n (lv' := [(2, .int (J ((0 + ((ck (3 * 1 + (dgt k 1).toNat)) + (wt 5 * trn (dgt k 0) (dgt k 1)))) + ((ck (3 * 2 + (dgt k 2).toNat)) + (wt 5 * (trn (dgt k 0) (dgt k 2) + trn (dgt k 1) (dgt k 2))))))), (6, .int (J (ck (3 * 2 + (dgt k 2).toNat)))), (5, .int (J (dgt k 2))), (4, .int (J 2)), (3, .int (J (wc - 2))), (0, .ref o), (1, .int (J ((k : Nat) : Int)))]) hx hb d_Pa_totalOf_84 rfl hl (by decide) rfl (fun ls hl => ?_)
                      refine w_iinc (k := 4) (lv' := [(3, .int (J (wc - 2 - 2))), (2, .int (J ((0 + ((ck (3 * 1 + (dgt k 1).toNat)) + (wt 5 * trn (dgt k 0) (dgt k 1)))) + ((ck (3 * 2 + (dgt k 2).toNat)) + (wt 5 * (trn (dgt k 0) (dgt k 2) + trn (dgt k 1) (dgt k 2))))))), (6, .int (J (ck (3 * 2 + (dgt k 2).toNat)))), (5, .int (J (dgt k 2))), (4, .int (J 2)), (0, .ref o), (1, .int (J ((k : Nat) : Int)))]) hx hb d_Pa_totalOf_85 hl rfl (wc - 2 - 2) (by omega) (by decide) rfl (fun ls hl => ?_)
                      refine w_iinc (k := 4) (lv' := [(4, .int (J 3)), (3, .int (J (wc - 2 - 2))), (2, .int (J ((0 + ((ck (3 * 1 + (dgt k 1).toNat)) + (wt 5 * trn (dgt k 0) (dgt k 1)))) + ((ck (3 * 2 + (dgt k 2).toNat)) + (wt 5 * (trn (dgt k 0) (dgt k 2) + trn (dgt k 1) (dgt k 2))))))), (6, .int (J (ck (3 * 2 + (dgt k 2).toNat)))), (5, .int (J (dgt k 2))), (0, .ref o), (1, .int (J ((k : Nat) : Int)))]) hx hb d_Pa_totalOf_88 hl rfl 3 (by omega) (by decide) rfl (fun ls hl => ?_)
                      refine lv_goto (tgt := 10) hx hb d_Pa_totalOf_91 (by decide) ?_
                      refine lv_iload hx hb d_Pa_totalOf_10 (lv_at hl 0 rfl) ?_
                      refine lv_iconst (v := J (3)) hx hb d_Pa_totalOf_12 rfl ?_
                      refine w_icmp_ge (tgt := 94) hx hb d_Pa_totalOf_13 (by decide) (by omega) (by omega) (fun c_13_4 => ?_) (fun c_13_4 => ?_)
                      · refine lv_iload_n hx hb d_Pa_totalOf_94 rfl (lv_at hl 2 rfl) ?_
                        refine lv_iload_n hx hb d_Pa_totalOf_95 rfl (lv_at hl 1 rfl) ?_
                        refine lv_aload_n hx hb d_Pa_totalOf_96 rfl (lv_at hl 5 rfl) ?_
                        refine va_get (D := D) (ci := 4) (v := .ref wo) (C := R_Pa) (T := T_Pa) (N := 4) hx hb hts i_Pa hown hK hP 0 rfl rfl 0 (by decide) (hts _ mw_144) (fun _ h9 => h9) rfl d_Pa_totalOf_97 ?_
                        refine Ri_call (va_runV (As := []) (rest := [.int (J (wc - 2 - 2)), .int (J ((0 + ((ck (3 * 1 + (dgt k 1).toNat)) + (wt 5 * trn (dgt k 0) (dgt k 1)))) + ((ck (3 * 2 + (dgt k 2).toNat)) + (wt 5 * (trn (dgt k 0) (dgt k 2) + trn (dgt k 1) (dgt k 2))))))]) ⟨hx, hb, hml, hown, hts⟩ (c_We_missing l D cI cZ cJ wo wa wt ) (cwV 0 hts (g_V mw_396 mw_397 mw_398 mw_28 mw_399) rfl rfl rfl (by decide +kernel) ⟨Nat.le_of_ble_eq_true rfl, Nat.le_of_ble_eq_true rfl⟩) (pre_RV hP hK [1, 2] rfl 5 0 rfl rfl) rfl rfl hl.1 rfl (lv_room (Nat.le_of_ble_eq_true rfl)) d_Pa_totalOf_100 ⟨Nat.le_of_ble_eq_true rfl, Nat.le_of_ble_eq_true rfl⟩) ?_
                        refine w_imul hx hb d_Pa_totalOf_103 (wt 4 * (wc - 4)) (by rw [Int.mul_comm, show wc - 2 - 2 = wc - 4 by omega]) ?_
                        refine w_iadd hx hb d_Pa_totalOf_104 (((0 + ((ck (3 * 1 + (dgt k 1).toNat)) + (wt 5 * trn (dgt k 0) (dgt k 1)))) + ((ck (3 * 2 + (dgt k 2).toNat)) + (wt 5 * (trn (dgt k 0) (dgt k 2) + trn (dgt k 1) (dgt k 2))))) + (wt 4 * (wc - 4))) (rfl) ?_
                        have eo : wc - 2 * (one (dgt k 0) + one (dgt k 1) + one (dgt k 2)) = wc - 4 := by rw [one_n (d := dgt k 0) (by omega), one_p (d := dgt k 1) (by omega), one_p (d := dgt k 2) (by omega)]; omega
                        have et : tcl wt ck wc (dgt k 0) (dgt k 1) (dgt k 2) = top wt ck wc (dgt k 0) (dgt k 1) (dgt k 2) := if_pos (by unfold okc; omega)
                        rw [top, eo, csv_n (w := 0) (d := dgt k 0) (by omega), csv_p (w := 1) (d := dgt k 1) (by omega), csv_p (w := 2) (d := dgt k 2) (by omega)] at et
                        exact Ri_ret hx hb hr hlocks hQ hH d_Pa_totalOf_105 nb_i (by rw [et]; simp only [trn_1 (a := dgt k 0) (b := dgt k 1) (show dgt k 0 < 0 by omega), trn_1 (a := dgt k 0) (b := dgt k 2) (show dgt k 0 < 0 by omega), Int.mul_add, Int.add_zero, Int.zero_add, Int.mul_zero] <;> omega)
                      · exfalso; omega
                    · have c_57_2 := b2_n0.mp c_57_2
                      refine lv_ldc (v := J (1000000)) hx hb hown (hts _ mw_378) d_Pa_totalOf_60 ?_
                      exact Ri_ret hx hb hr hlocks hQ hH d_Pa_totalOf_62 nb_i ((show tcl wt ck wc (dgt k 0) (dgt k 1) (dgt k 2) = 1000000 from if_neg (by unfold okc; omega)).symm)
            · have c_57 := b2_n0.mp c_57
              refine lv_ldc (v := J (1000000)) hx hb hown (hts _ mw_378) d_Pa_totalOf_60 ?_
              exact Ri_ret hx hb hr hlocks hQ hH d_Pa_totalOf_62 nb_i ((show tcl wt ck wc (dgt k 0) (dgt k 1) (dgt k 2) = 1000000 from if_neg (by unfold okc; omega)).symm)
    · refine lv_aload_n hx hb d_Pa_totalOf_29 rfl (lv_at hl 4 rfl) ?_
      refine va_get (D := D) (ci := 4) (v := .ref ac) (C := R_Pa) (T := T_Pa) (N := 4) hx hb hts i_Pa hown hK hP 0 rfl rfl 1 (by decide) (hts _ mw_145) (fun _ h9 => h9) rfl d_Pa_totalOf_30 ?_
      refine lv_iload hx hb d_Pa_totalOf_33 (lv_at hl 1 rfl) ?_
      refine lv_iconst (v := J (3)) hx hb d_Pa_totalOf_35 rfl ?_
      refine w_imul hx hb d_Pa_totalOf_36 0 (by decide) ?_
      refine lv_iload hx hb d_Pa_totalOf_37 (lv_at hl 0 rfl) ?_
      refine w_iadd hx hb d_Pa_totalOf_39 ((3 * 0 + (dgt k 0).toNat : Nat) : Int) (by omega) ?_
      refine w_iald hx hb hK hP 3 0 rfl rfl (3 * 0 + (dgt k 0).toNat) (by omega) (by omega) (by omega) d_Pa_totalOf_40 ?_
      refine lv_istore (lv' := [(6, .int (J (ck (3 * 0 + (dgt k 0).toNat)))), (5, .int (J (dgt k 0))), (4, .int (J 0)), (3, .int (J wc)), (2, .int (J 0)), (0, .ref o), (1, .int (J ((k : Nat) : Int)))]) hx hb d_Pa_totalOf_41 hl (by decide) rfl (fun ls hl => ?_)
      have k0 := hck ((3 * 0 + (dgt k 0).toNat))
      refine lv_iload hx hb d_Pa_totalOf_43 (lv_at hl 0 rfl) ?_
      refine lv_iconst (v := J (-1)) hx hb d_Pa_totalOf_45 rfl ?_
      refine w_icmp_eq (tgt := 60) hx hb d_Pa_totalOf_46 (by decide) (by omega) (by omega) (fun c_46 => ?_) (fun c_46 => ?_)
      · refine lv_ldc (v := J (1000000)) hx hb hown (hts _ mw_378) d_Pa_totalOf_60 ?_
        exact Ri_ret hx hb hr hlocks hQ hH d_Pa_totalOf_62 nb_i ((show tcl wt ck wc (dgt k 0) (dgt k 1) (dgt k 2) = 1000000 from if_neg (by unfold okc; omega)).symm)
      · refine lv_iload_n hx hb d_Pa_totalOf_49 rfl (lv_at hl 6 rfl) ?_
        refine lv_iload hx hb d_Pa_totalOf_50 (lv_at hl 2 rfl) ?_
        refine lv_iload hx hb d_Pa_totalOf_52 (lv_at hl 1 rfl) ?_
        refine Ri_call (va_runS (As := [.int (J ((k : Nat) : Int)), .int (J 0), .int (J (dgt k 0))]) (rest := []) ⟨hx, hb, hml, hown, hts⟩ (c_Pa_isTaken l D cI cZ cJ k 0 (dgt k 0) (by first | assumption | omega) (by first | assumption | omega) (by first | assumption | omega)) (va_cwS 3 hts (g_S mw_386 mw_387 mw_31 mw_388) rfl rfl rfl (by decide +kernel) ⟨Nat.le_of_ble_eq_true rfl, Nat.le_of_ble_eq_true rfl⟩) (pre_RS hP hK [] rfl) rfl rfl hl.1 rfl (lv_room (Nat.le_of_ble_eq_true rfl)) d_Pa_totalOf_54 ⟨Nat.le_of_ble_eq_true rfl, Nat.le_of_ble_eq_true rfl⟩) ?_
        refine w_if_eq (tgt := 63) hx hb d_Pa_totalOf_57 (by decide) (rg_b2) (fun c_57 => ?_) (fun c_57 => ?_)
        · have c_57 := b2_0.mp c_57
          refine lv_iload_n hx hb d_Pa_totalOf_63 rfl (lv_at hl 4 rfl) ?_
          refine lv_iload hx hb d_Pa_totalOf_64 (lv_at hl 0 rfl) ?_
          refine lv_iload_n hx hb d_Pa_totalOf_66 rfl (lv_at hl 6 rfl) ?_
          refine lv_iload hx hb d_Pa_totalOf_67 (lv_at hl 2 rfl) ?_
          refine lv_iload hx hb d_Pa_totalOf_69 (lv_at hl 1 rfl) ?_
          refine Ri_call (va_runS (As := [.int (J ((k : Nat) : Int)), .int (J 0), .int (J (dgt k 0))]) (rest := [.int (J (ck (3 * 0 + (dgt k 0).toNat))), .int (J 0)]) ⟨hx, hb, hml, hown, hts⟩ (c_Pa_turnedBefore l D cI cZ cJ k 0 (dgt k 0) (by first | assumption | omega) (by first | assumption | omega) (by first | assumption | omega)) (va_cwS 3 hts (g_S mw_389 mw_390 mw_31 mw_391) rfl rfl rfl (by decide +kernel) ⟨Nat.le_of_ble_eq_true rfl, Nat.le_of_ble_eq_true rfl⟩) (pre_RS hP hK [] rfl) rfl rfl hl.1 rfl (lv_room (Nat.le_of_ble_eq_true rfl)) d_Pa_totalOf_71 ⟨Nat.le_of_ble_eq_true rfl, Nat.le_of_ble_eq_true rfl⟩) ?_
          refine lv_aload_n hx hb d_Pa_totalOf_74 rfl (lv_at hl 5 rfl) ?_
          refine va_get (D := D) (ci := 4) (v := .ref wo) (C := R_Pa) (T := T_Pa) (N := 4) hx hb hts i_Pa hown hK hP 0 rfl rfl 0 (by decide) (hts _ mw_144) (fun _ h9 => h9) rfl d_Pa_totalOf_75 ?_
          refine Ri_call (va_runV (As := []) (rest := [.int (J (tbf k 0 (dgt k 0))), .int (J (ck (3 * 0 + (dgt k 0).toNat))), .int (J 0)]) ⟨hx, hb, hml, hown, hts⟩ (c_We_turned l D cI cZ cJ wo wa wt ) (cwV 0 hts (g_V mw_392 mw_393 mw_394 mw_28 mw_395) rfl rfl rfl (by decide +kernel) ⟨Nat.le_of_ble_eq_true rfl, Nat.le_of_ble_eq_true rfl⟩) (pre_RV hP hK [1, 2] rfl 5 0 rfl rfl) rfl rfl hl.1 rfl (lv_room (Nat.le_of_ble_eq_true rfl)) d_Pa_totalOf_78 ⟨Nat.le_of_ble_eq_true rfl, Nat.le_of_ble_eq_true rfl⟩) ?_
          refine w_imul hx hb d_Pa_totalOf_81 0 (by rw [tbf_0]; omega) ?_
          refine w_iadd hx hb d_Pa_totalOf_82 ((ck (3 * 0 + (dgt k 0).toNat)) + 0) (rfl) ?_
          refine w_iadd hx hb d_Pa_totalOf_83 (0 + ((ck (3 * 0 + (dgt k 0).toNat)) + 0)) (rfl) ?_
          refine lv_istore_n (lv' := [(2, .int (J (0 + ((ck (3 * 0 + (dgt k 0).toNat)) + 0)))), (6, .int (J (ck (3 * 0 + (dgt k 0).toNat)))), (5, .int (J (dgt k 0))), (4, .int (J 0)), (3, .int (J wc)), (0, .ref o), (1, .int (J ((k : Nat) : Int)))]) hx hb d_Pa_totalOf_84 rfl hl (by decide) rfl (fun ls hl => ?_)
          refine w_iinc (k := 4) (lv' := [(3, .int (J (wc - 2))), (2, .int (J (0 + ((ck (3 * 0 + (dgt k 0).toNat)) + 0)))), (6, .int (J (ck (3 * 0 + (dgt k 0).toNat)))), (5, .int (J (dgt k 0))), (4, .int (J 0)), (0, .ref o), (1, .int (J ((k : Nat) : Int)))]) hx hb d_Pa_totalOf_85 hl rfl (wc - 2) (by omega) (by decide) rfl (fun ls hl => ?_)
          refine w_iinc (k := 4) (lv' := [(4, .int (J 1)), (3, .int (J (wc - 2))), (2, .int (J (0 + ((ck (3 * 0 + (dgt k 0).toNat)) + 0)))), (6, .int (J (ck (3 * 0 + (dgt k 0).toNat)))), (5, .int (J (dgt k 0))), (0, .ref o), (1, .int (J ((k : Nat) : Int)))]) hx hb d_Pa_totalOf_88 hl rfl 1 (by omega) (by decide) rfl (fun ls hl => ?_)
          refine lv_goto (tgt := 10) hx hb d_Pa_totalOf_91 (by decide) ?_
          refine lv_iload hx hb d_Pa_totalOf_10 (lv_at hl 0 rfl) ?_
          refine lv_iconst (v := J (3)) hx hb d_Pa_totalOf_12 rfl ?_
          refine w_icmp_ge (tgt := 94) hx hb d_Pa_totalOf_13 (by decide) (by omega) (by omega) (fun c_13_2 => ?_) (fun c_13_2 => ?_)
          · exfalso; omega
          · refine lv_iload_n hx hb d_Pa_totalOf_16 rfl (lv_at hl 6 rfl) ?_
            refine lv_iload hx hb d_Pa_totalOf_17 (lv_at hl 0 rfl) ?_
            refine Ri_call (va_runS (As := [.int (J ((k : Nat) : Int)), .int (J 1)]) (rest := []) ⟨hx, hb, hml, hown, hts⟩ (c_Pa_partner l D cI cZ cJ k 1 (by first | assumption | omega) (by first | assumption | omega)) (va_cwS 2 hts (g_S mw_383 mw_384 mw_31 mw_385) rfl rfl rfl (by decide +kernel) ⟨Nat.le_of_ble_eq_true rfl, Nat.le_of_ble_eq_true rfl⟩) (pre_RS hP hK [] rfl) rfl rfl hl.1 rfl (lv_room (Nat.le_of_ble_eq_true rfl)) d_Pa_totalOf_19 ⟨Nat.le_of_ble_eq_true rfl, Nat.le_of_ble_eq_true rfl⟩) ?_
            refine lv_istore (lv' := [(5, .int (J (dgt k 1))), (4, .int (J 1)), (3, .int (J (wc - 2))), (2, .int (J (0 + ((ck (3 * 0 + (dgt k 0).toNat)) + 0)))), (6, .int (J (ck (3 * 0 + (dgt k 0).toNat)))), (0, .ref o), (1, .int (J ((k : Nat) : Int)))]) hx hb d_Pa_totalOf_22 hl (by decide) rfl (fun ls hl => ?_)
            refine lv_iload hx hb d_Pa_totalOf_24 (lv_at hl 0 rfl) ?_
            refine w_if_lt (tgt := 88) hx hb d_Pa_totalOf_26 (by decide) (by omega) (fun c_26_2 => ?_) (fun c_26_2 => ?_)
            · refine w_iinc (k := 1) (lv' := [(4, .int (J 2)), (5, .int (J (dgt k 1))), (3, .int (J (wc - 2))), (2, .int (J (0 + ((ck (3 * 0 + (dgt k 0).toNat)) + 0)))), (6, .int (J (ck (3 * 0 + (dgt k 0).toNat)))), (0, .ref o), (1, .int (J ((k : Nat) : Int)))]) hx hb d_Pa_totalOf_88 hl rfl 2 (by omega) (by decide) rfl (fun ls hl => ?_)
              refine lv_goto (tgt := 10) hx hb d_Pa_totalOf_91 (by decide) ?_
              refine lv_iload hx hb d_Pa_totalOf_10 (lv_at hl 0 rfl) ?_
              refine lv_iconst (v := J (3)) hx hb d_Pa_totalOf_12 rfl ?_
              refine w_icmp_ge (tgt := 94) hx hb d_Pa_totalOf_13 (by decide) (by omega) (by omega) (fun c_13_3 => ?_) (fun c_13_3 => ?_)
              · exfalso; omega
              · refine lv_iload_n hx hb d_Pa_totalOf_16 rfl (lv_at hl 6 rfl) ?_
                refine lv_iload hx hb d_Pa_totalOf_17 (lv_at hl 0 rfl) ?_
                refine Ri_call (va_runS (As := [.int (J ((k : Nat) : Int)), .int (J 2)]) (rest := []) ⟨hx, hb, hml, hown, hts⟩ (c_Pa_partner l D cI cZ cJ k 2 (by first | assumption | omega) (by first | assumption | omega)) (va_cwS 2 hts (g_S mw_383 mw_384 mw_31 mw_385) rfl rfl rfl (by decide +kernel) ⟨Nat.le_of_ble_eq_true rfl, Nat.le_of_ble_eq_true rfl⟩) (pre_RS hP hK [] rfl) rfl rfl hl.1 rfl (lv_room (Nat.le_of_ble_eq_true rfl)) d_Pa_totalOf_19 ⟨Nat.le_of_ble_eq_true rfl, Nat.le_of_ble_eq_true rfl⟩) ?_
                refine lv_istore (lv' := [(5, .int (J (dgt k 2))), (4, .int (J 2)), (3, .int (J (wc - 2))), (2, .int (J (0 + ((ck (3 * 0 + (dgt k 0).toNat)) + 0)))), (6, .int (J (ck (3 * 0 + (dgt k 0).toNat)))), (0, .ref o), (1, .int (J ((k : Nat) : Int)))]) hx hb d_Pa_totalOf_22 hl (by decide) rfl (fun ls hl => ?_)
                refine lv_iload hx hb d_Pa_totalOf_24 (lv_at hl 0 rfl) ?_
                refine w_if_lt (tgt := 88) hx hb d_Pa_totalOf_26 (by decide) (by omega) (fun c_26_3 => ?_) (fun c_26_3 => ?_)
                · refine w_iinc (k := 1) (lv' := [(4, .int (J 3)), (5, .int (J (dgt k 2))), (3, .int (J (wc - 2))), (2, .int (J (0 + ((ck (3 * 0 + (dgt k 0).toNat)) + 0)))), (6, .int (J (ck (3 * 0 + (dgt k 0).toNat)))), (0, .ref o), (1, .int (J ((k : Nat) : Int)))]) hx hb d_Pa_totalOf_88 hl rfl 3 (by omega) (by decide) rfl (fun ls hl => ?_)
                  refine lv_goto (tgt := 10) hx hb d_Pa_totalOf_91 (by decide) ?_
                  refine lv_iload hx hb d_Pa_totalOf_10 (lv_at hl 0 rfl) ?_
                  refine lv_iconst (v := J (3)) hx hb d_Pa_totalOf_12 rfl ?_
                  refine w_icmp_ge (tgt := 94) hx hb d_Pa_totalOf_13 (by decide) (by omega) (by omega) (fun c_13_4 => ?_) (fun c_13_4 => ?_)
                  · refine lv_iload_n hx hb d_Pa_totalOf_94 rfl (lv_at hl 3 rfl) ?_
                    refine lv_iload_n hx hb d_Pa_totalOf_95 rfl (lv_at hl 2 rfl) ?_
                    refine lv_aload_n hx hb d_Pa_totalOf_96 rfl (lv_at hl 5 rfl) ?_
                    refine va_get (D := D) (ci := 4) (v := .ref wo) (C := R_Pa) (T := T_Pa) (N := 4) hx hb hts i_Pa hown hK hP 0 rfl rfl 0 (by decide) (hts _ mw_144) (fun _ h9 => h9) rfl d_Pa_totalOf_97 ?_
                    refine Ri_call (va_runV (As := []) (rest := [.int (J (wc - 2)), .int (J (0 + ((ck (3 * 0 + (dgt k 0).toNat)) + 0)))]) ⟨hx, hb, hml, hown, hts⟩ (c_We_missing l D cI cZ cJ wo wa wt ) (cwV 0 hts (g_V mw_396 mw_397 mw_398 mw_28 mw_399) rfl rfl rfl (by decide +kernel) ⟨Nat.le_of_ble_eq_true rfl, Nat.le_of_ble_eq_true rfl⟩) (pre_RV hP hK [1, 2] rfl 5 0 rfl rfl) rfl rfl hl.1 rfl (lv_room (Nat.le_of_ble_eq_true rfl)) d_Pa_totalOf_100 ⟨Nat.le_of_ble_eq_true rfl, Nat.le_of_ble_eq_true rfl⟩) ?_
                    refine w_imul hx hb d_Pa_totalOf_103 (wt 4 * (wc - 2)) (by rw [Int.mul_comm, show wc - 2 = wc - 2 by omega]) ?_
                    refine w_iadd hx hb d_Pa_totalOf_104 ((0 + ((ck (3 * 0 + (dgt k 0).toNat)) + 0)) + (wt 4 * (wc - 2))) (rfl) ?_
                    have eo : wc - 2 * (one (dgt k 0) + one (dgt k 1) + one (dgt k 2)) = wc - 2 := by rw [one_p (d := dgt k 0) (by omega), one_n (d := dgt k 1) (by omega), one_n (d := dgt k 2) (by omega)]; omega
                    have et : tcl wt ck wc (dgt k 0) (dgt k 1) (dgt k 2) = top wt ck wc (dgt k 0) (dgt k 1) (dgt k 2) := if_pos (by unfold okc; omega)
                    rw [top, eo, csv_p (w := 0) (d := dgt k 0) (by omega), csv_n (w := 1) (d := dgt k 1) (by omega), csv_n (w := 2) (d := dgt k 2) (by omega)] at et
                    exact Ri_ret hx hb hr hlocks hQ hH d_Pa_totalOf_105 nb_i (by rw [et]; simp only [trn_2 (a := dgt k 0) (b := dgt k 1) (show dgt k 1 < 0 by omega), trn_2 (a := dgt k 0) (b := dgt k 2) (show dgt k 2 < 0 by omega), trn_1 (a := dgt k 1) (b := dgt k 2) (show dgt k 1 < 0 by omega), Int.mul_add, Int.add_zero, Int.zero_add, Int.mul_zero] <;> omega)
                  · exfalso; omega
                · refine lv_aload_n hx hb d_Pa_totalOf_29 rfl (lv_at hl 5 rfl) ?_
                  refine va_get (D := D) (ci := 4) (v := .ref ac) (C := R_Pa) (T := T_Pa) (N := 4) hx hb hts i_Pa hown hK hP 0 rfl rfl 1 (by decide) (hts _ mw_145) (fun _ h9 => h9) rfl d_Pa_totalOf_30 ?_
                  refine lv_iload hx hb d_Pa_totalOf_33 (lv_at hl 1 rfl) ?_
                  refine lv_iconst (v := J (3)) hx hb d_Pa_totalOf_35 rfl ?_
                  refine w_imul hx hb d_Pa_totalOf_36 6 (by decide) ?_
                  refine lv_iload hx hb d_Pa_totalOf_37 (lv_at hl 0 rfl) ?_
                  refine w_iadd hx hb d_Pa_totalOf_39 ((3 * 2 + (dgt k 2).toNat : Nat) : Int) (by omega) ?_
                  refine w_iald hx hb hK hP 3 0 rfl rfl (3 * 2 + (dgt k 2).toNat) (by omega) (by omega) (by omega) d_Pa_totalOf_40 ?_
                  refine lv_istore (lv' := [(6, .int (J (ck (3 * 2 + (dgt k 2).toNat)))), (5, .int (J (dgt k 2))), (4, .int (J 2)), (3, .int (J (wc - 2))), (2, .int (J (0 + ((ck (3 * 0 + (dgt k 0).toNat)) + 0)))), (0, .ref o), (1, .int (J ((k : Nat) : Int)))]) hx hb d_Pa_totalOf_41 hl (by decide) rfl (fun ls hl => ?_)
                  have k2 := hck ((3 * 2 + (dgt k 2).toNat))
                  refine lv_iload hx hb d_Pa_totalOf_43 (lv_at hl 0 rfl) ?_
                  refine lv_iconst (v := J (-1)) hx hb d_Pa_totalOf_45 rfl ?_
                  refine w_icmp_eq (tgt := 60) hx hb d_Pa_totalOf_46 (by decide) (by omega) (by omega) (fun c_46_2 => ?_) (fun c_46_2 => ?_)
                  · refine lv_ldc (v := J (1000000)) hx hb hown (hts _ mw_378) d_Pa_totalOf_60 ?_
                    exact Ri_ret hx hb hr hlocks hQ hH d_Pa_totalOf_62 nb_i ((show tcl wt ck wc (dgt k 0) (dgt k 1) (dgt k 2) = 1000000 from if_neg (by unfold okc; omega)).symm)
                  · refine lv_iload_n hx hb d_Pa_totalOf_49 rfl (lv_at hl 6 rfl) ?_
                    refine lv_iload hx hb d_Pa_totalOf_50 (lv_at hl 2 rfl) ?_
                    refine lv_iload hx hb d_Pa_totalOf_52 (lv_at hl 1 rfl) ?_
                    refine Ri_call (va_runS (As := [.int (J ((k : Nat) : Int)), .int (J 2), .int (J (dgt k 2))]) (rest := []) ⟨hx, hb, hml, hown, hts⟩ (c_Pa_isTaken l D cI cZ cJ k 2 (dgt k 2) (by first | assumption | omega) (by first | assumption | omega) (by first | assumption | omega)) (va_cwS 3 hts (g_S mw_386 mw_387 mw_31 mw_388) rfl rfl rfl (by decide +kernel) ⟨Nat.le_of_ble_eq_true rfl, Nat.le_of_ble_eq_true rfl⟩) (pre_RS hP hK [] rfl) rfl rfl hl.1 rfl (lv_room (Nat.le_of_ble_eq_true rfl)) d_Pa_totalOf_54 ⟨Nat.le_of_ble_eq_true rfl, Nat.le_of_ble_eq_true rfl⟩) ?_
                    refine w_if_eq (tgt := 63) hx hb d_Pa_totalOf_57 (by decide) (rg_b2) (fun c_57_2 => ?_) (fun c_57_2 => ?_)
                    · have c_57_2 := b2_0.mp c_57_2
                      refine lv_iload_n hx hb d_Pa_totalOf_63 rfl (lv_at hl 4 rfl) ?_
                      refine lv_iload hx hb d_Pa_totalOf_64 (lv_at hl 0 rfl) ?_
                      refine lv_iload_n hx hb d_Pa_totalOf_66 rfl (lv_at hl 6 rfl) ?_
                      refine lv_iload hx hb d_Pa_totalOf_67 (lv_at hl 2 rfl) ?_
                      refine lv_iload hx hb d_Pa_totalOf_69 (lv_at hl 1 rfl) ?_
                      refine Ri_call (va_runS (As := [.int (J ((k : Nat) : Int)), .int (J 2), .int (J (dgt k 2))]) (rest := [.int (J (ck (3 * 2 + (dgt k 2).toNat))), .int (J (0 + ((ck (3 * 0 + (dgt k 0).toNat)) + 0)))]) ⟨hx, hb, hml, hown, hts⟩ (c_Pa_turnedBefore l D cI cZ cJ k 2 (dgt k 2) (by first | assumption | omega) (by first | assumption | omega) (by first | assumption | omega)) (va_cwS 3 hts (g_S mw_389 mw_390 mw_31 mw_391) rfl rfl rfl (by decide +kernel) ⟨Nat.le_of_ble_eq_true rfl, Nat.le_of_ble_eq_true rfl⟩) (pre_RS hP hK [] rfl) rfl rfl hl.1 rfl (lv_room (Nat.le_of_ble_eq_true rfl)) d_Pa_totalOf_71 ⟨Nat.le_of_ble_eq_true rfl, Nat.le_of_ble_eq_true rfl⟩) ?_
                      refine lv_aload_n hx hb d_Pa_totalOf_74 rfl (lv_at hl 5 rfl) ?_
                      refine va_get (D := D) (ci := 4) (v := .ref wo) (C := R_Pa) (T := T_Pa) (N := 4) hx hb hts i_Pa hown hK hP 0 rfl rfl 0 (by decide) (hts _ mw_144) (fun _ h9 => h9) rfl d_Pa_totalOf_75 ?_
                      refine Ri_call (va_runV (As := []) (rest := [.int (J (tbf k 2 (dgt k 2))), .int (J (ck (3 * 2 + (dgt k 2).toNat))), .int (J (0 + ((ck (3 * 0 + (dgt k 0).toNat)) + 0)))]) ⟨hx, hb, hml, hown, hts⟩ (c_We_turned l D cI cZ cJ wo wa wt ) (cwV 0 hts (g_V mw_392 mw_393 mw_394 mw_28 mw_395) rfl rfl rfl (by decide +kernel) ⟨Nat.le_of_ble_eq_true rfl, Nat.le_of_ble_eq_true rfl⟩) (pre_RV hP hK [1, 2] rfl 5 0 rfl rfl) rfl rfl hl.1 rfl (lv_room (Nat.le_of_ble_eq_true rfl)) d_Pa_totalOf_78 ⟨Nat.le_of_ble_eq_true rfl, Nat.le_of_ble_eq_true rfl⟩) ?_
                      refine w_imul hx hb d_Pa_totalOf_81 (wt 5 * (trn (dgt k 0) (dgt k 2) + trn (dgt k 1) (dgt k 2))) (by rw [tbf_2 k (by omega), Int.mul_comm]) ?_
                      refine w_iadd hx hb d_Pa_totalOf_82 ((ck (3 * 2 + (dgt k 2).toNat)) + (wt 5 * (trn (dgt k 0) (dgt k 2) + trn (dgt k 1) (dgt k 2)))) (rfl) ?_
                      refine w_iadd hx hb d_Pa_totalOf_83 ((0 + ((ck (3 * 0 + (dgt k 0).toNat)) + 0)) + ((ck (3 * 2 + (dgt k 2).toNat)) + (wt 5 * (trn (dgt k 0) (dgt k 2) + trn (dgt k 1) (dgt k 2))))) (rfl) ?_
                      refine lv_istore_n (lv' := [(2, .int (J ((0 + ((ck (3 * 0 + (dgt k 0).toNat)) + 0)) + ((ck (3 * 2 + (dgt k 2).toNat)) + (wt 5 * (trn (dgt k 0) (dgt k 2) + trn (dgt k 1) (dgt k 2))))))), (6, .int (J (ck (3 * 2 + (dgt k 2).toNat)))), (5, .int (J (dgt k 2))), (4, .int (J 2)), (3, .int (J (wc - 2))), (0, .ref o), (1, .int (J ((k : Nat) : Int)))]) hx hb d_Pa_totalOf_84 rfl hl (by decide) rfl (fun ls hl => ?_)
                      refine w_iinc (k := 4) (lv' := [(3, .int (J (wc - 2 - 2))), (2, .int (J ((0 + ((ck (3 * 0 + (dgt k 0).toNat)) + 0)) + ((ck (3 * 2 + (dgt k 2).toNat)) + (wt 5 * (trn (dgt k 0) (dgt k 2) + trn (dgt k 1) (dgt k 2))))))), (6, .int (J (ck (3 * 2 + (dgt k 2).toNat)))), (5, .int (J (dgt k 2))), (4, .int (J 2)), (0, .ref o), (1, .int (J ((k : Nat) : Int)))]) hx hb d_Pa_totalOf_85 hl rfl (wc - 2 - 2) (by omega) (by decide) rfl (fun ls hl => ?_)
                      refine w_iinc (k := 4) (lv' := [(4, .int (J 3)), (3, .int (J (wc - 2 - 2))), (2, .int (J ((0 + ((ck (3 * 0 + (dgt k 0).toNat)) + 0)) + ((ck (3 * 2 + (dgt k 2).toNat)) + (wt 5 * (trn (dgt k 0) (dgt k 2) + trn (dgt k 1) (dgt k 2))))))), (6, .int (J (ck (3 * 2 + (dgt k 2).toNat)))), (5, .int (J (dgt k 2))), (0, .ref o), (1, .int (J ((k : Nat) : Int)))]) hx hb d_Pa_totalOf_88 hl rfl 3 (by omega) (by decide) rfl (fun ls hl => ?_)
                      refine lv_goto (tgt := 10) hx hb d_Pa_totalOf_91 (by decide) ?_
                      refine lv_iload hx hb d_Pa_totalOf_10 (lv_at hl 0 rfl) ?_
                      refine lv_iconst (v := J (3)) hx hb d_Pa_totalOf_12 rfl ?_
                      refine w_icmp_ge (tgt := 94) hx hb d_Pa_totalOf_13 (by decide) (by omega) (by omega) (fun c_13_4 => ?_) (fun c_13_4 => ?_)
                      · refine lv_iload_n hx hb d_Pa_totalOf_94 rfl (lv_at hl 2 rfl) ?_
                        refine lv_iload_n hx hb d_Pa_totalOf_95 rfl (lv_at hl 1 rfl) ?_
                        refine lv_aload_n hx hb d_Pa_totalOf_96 rfl (lv_at hl 5 rfl) ?_
                        refine va_get (D := D) (ci := 4) (v := .ref wo) (C := R_Pa) (T := T_Pa) (N := 4) hx hb hts i_Pa hown hK hP 0 rfl rfl 0 (by decide) (hts _ mw_144) (fun _ h9 => h9) rfl d_Pa_totalOf_97 ?_
                        refine Ri_call (va_runV (As := []) (rest := [.int (J (wc - 2 - 2)), .int (J ((0 + ((ck (3 * 0 + (dgt k 0).toNat)) + 0)) + ((ck (3 * 2 + (dgt k 2).toNat)) + (wt 5 * (trn (dgt k 0) (dgt k 2) + trn (dgt k 1) (dgt k 2))))))]) ⟨hx, hb, hml, hown, hts⟩ (c_We_missing l D cI cZ cJ wo wa wt ) (cwV 0 hts (g_V mw_396 mw_397 mw_398 mw_28 mw_399) rfl rfl rfl (by decide +kernel) ⟨Nat.le_of_ble_eq_true rfl, Nat.le_of_ble_eq_true rfl⟩) (pre_RV hP hK [1, 2] rfl 5 0 rfl rfl) rfl rfl hl.1 rfl (lv_room (Nat.le_of_ble_eq_true rfl)) d_Pa_totalOf_100 ⟨Nat.le_of_ble_eq_true rfl, Nat.le_of_ble_eq_true rfl⟩) ?_
                        refine w_imul hx hb d_Pa_totalOf_103 (wt 4 * (wc - 4)) (by rw [Int.mul_comm, show wc - 2 - 2 = wc - 4 by omega]) ?_
                        refine w_iadd hx hb d_Pa_totalOf_104 (((0 + ((ck (3 * 0 + (dgt k 0).toNat)) + 0)) + ((ck (3 * 2 + (dgt k 2).toNat)) + (wt 5 * (trn (dgt k 0) (dgt k 2) + trn (dgt k 1) (dgt k 2))))) + (wt 4 * (wc - 4))) (rfl) ?_
                        have eo : wc - 2 * (one (dgt k 0) + one (dgt k 1) + one (dgt k 2)) = wc - 4 := by rw [one_p (d := dgt k 0) (by omega), one_n (d := dgt k 1) (by omega), one_p (d := dgt k 2) (by omega)]; omega
                        have et : tcl wt ck wc (dgt k 0) (dgt k 1) (dgt k 2) = top wt ck wc (dgt k 0) (dgt k 1) (dgt k 2) := if_pos (by unfold okc; omega)
                        rw [top, eo, csv_p (w := 0) (d := dgt k 0) (by omega), csv_n (w := 1) (d := dgt k 1) (by omega), csv_p (w := 2) (d := dgt k 2) (by omega)] at et
                        exact Ri_ret hx hb hr hlocks hQ hH d_Pa_totalOf_105 nb_i (by rw [et]; simp only [trn_2 (a := dgt k 0) (b := dgt k 1) (show dgt k 1 < 0 by omega), trn_1 (a := dgt k 1) (b := dgt k 2) (show dgt k 1 < 0 by omega), Int.mul_add, Int.add_zero, Int.zero_add, Int.mul_zero] <;> omega)
                      · exfalso; omega
                    · have c_57_2 := b2_n0.mp c_57_2
                      refine lv_ldc (v := J (1000000)) hx hb hown (hts _ mw_378) d_Pa_totalOf_60 ?_
                      exact Ri_ret hx hb hr hlocks hQ hH d_Pa_totalOf_62 nb_i ((show tcl wt ck wc (dgt k 0) (dgt k 1) (dgt k 2) = 1000000 from if_neg (by unfold okc; omega)).symm)
            · refine lv_aload_n hx hb d_Pa_totalOf_29 rfl (lv_at hl 5 rfl) ?_
              refine va_get (D := D) (ci := 4) (v := .ref ac) (C := R_Pa) (T := T_Pa) (N := 4) hx hb hts i_Pa hown hK hP 0 rfl rfl 1 (by decide) (hts _ mw_145) (fun _ h9 => h9) rfl d_Pa_totalOf_30 ?_
              refine lv_iload hx hb d_Pa_totalOf_33 (lv_at hl 1 rfl) ?_
              refine lv_iconst (v := J (3)) hx hb d_Pa_totalOf_35 rfl ?_
              refine w_imul hx hb d_Pa_totalOf_36 3 (by decide) ?_
              refine lv_iload hx hb d_Pa_totalOf_37 (lv_at hl 0 rfl) ?_
              refine w_iadd hx hb d_Pa_totalOf_39 ((3 * 1 + (dgt k 1).toNat : Nat) : Int) (by omega) ?_
              refine w_iald hx hb hK hP 3 0 rfl rfl (3 * 1 + (dgt k 1).toNat) (by omega) (by omega) (by omega) d_Pa_totalOf_40 ?_
              refine lv_istore (lv' := [(6, .int (J (ck (3 * 1 + (dgt k 1).toNat)))), (5, .int (J (dgt k 1))), (4, .int (J 1)), (3, .int (J (wc - 2))), (2, .int (J (0 + ((ck (3 * 0 + (dgt k 0).toNat)) + 0)))), (0, .ref o), (1, .int (J ((k : Nat) : Int)))]) hx hb d_Pa_totalOf_41 hl (by decide) rfl (fun ls hl => ?_)
              have k1 := hck ((3 * 1 + (dgt k 1).toNat))
              refine lv_iload hx hb d_Pa_totalOf_43 (lv_at hl 0 rfl) ?_
              refine lv_iconst (v := J (-1)) hx hb d_Pa_totalOf_45 rfl ?_
              refine w_icmp_eq (tgt := 60) hx hb d_Pa_totalOf_46 (by decide) (by omega) (by omega) (fun c_46_2 => ?_) (fun c_46_2 => ?_)
              · refine lv_ldc (v := J (1000000)) hx hb hown (hts _ mw_378) d_Pa_totalOf_60 ?_
                exact Ri_ret hx hb hr hlocks hQ hH d_Pa_totalOf_62 nb_i ((show tcl wt ck wc (dgt k 0) (dgt k 1) (dgt k 2) = 1000000 from if_neg (by unfold okc; omega)).symm)
              · refine lv_iload_n hx hb d_Pa_totalOf_49 rfl (lv_at hl 6 rfl) ?_
                refine lv_iload hx hb d_Pa_totalOf_50 (lv_at hl 2 rfl) ?_
                refine lv_iload hx hb d_Pa_totalOf_52 (lv_at hl 1 rfl) ?_
                refine Ri_call (va_runS (As := [.int (J ((k : Nat) : Int)), .int (J 1), .int (J (dgt k 1))]) (rest := []) ⟨hx, hb, hml, hown, hts⟩ (c_Pa_isTaken l D cI cZ cJ k 1 (dgt k 1) (by first | assumption | omega) (by first | assumption | omega) (by first | assumption | omega)) (va_cwS 3 hts (g_S mw_386 mw_387 mw_31 mw_388) rfl rfl rfl (by decide +kernel) ⟨Nat.le_of_ble_eq_true rfl, Nat.le_of_ble_eq_true rfl⟩) (pre_RS hP hK [] rfl) rfl rfl hl.1 rfl (lv_room (Nat.le_of_ble_eq_true rfl)) d_Pa_totalOf_54 ⟨Nat.le_of_ble_eq_true rfl, Nat.le_of_ble_eq_true rfl⟩) ?_
                refine w_if_eq (tgt := 63) hx hb d_Pa_totalOf_57 (by decide) (rg_b2) (fun c_57_2 => ?_) (fun c_57_2 => ?_)
                · have c_57_2 := b2_0.mp c_57_2
                  refine lv_iload_n hx hb d_Pa_totalOf_63 rfl (lv_at hl 4 rfl) ?_
                  refine lv_iload hx hb d_Pa_totalOf_64 (lv_at hl 0 rfl) ?_
                  refine lv_iload_n hx hb d_Pa_totalOf_66 rfl (lv_at hl 6 rfl) ?_
                  refine lv_iload hx hb d_Pa_totalOf_67 (lv_at hl 2 rfl) ?_
                  refine lv_iload hx hb d_Pa_totalOf_69 (lv_at hl 1 rfl) ?_
                  refine Ri_call (va_runS (As := [.int (J ((k : Nat) : Int)), .int (J 1), .int (J (dgt k 1))]) (rest := [.int (J (ck (3 * 1 + (dgt k 1).toNat))), .int (J (0 + ((ck (3 * 0 + (dgt k 0).toNat)) + 0)))]) ⟨hx, hb, hml, hown, hts⟩ (c_Pa_turnedBefore l D cI cZ cJ k 1 (dgt k 1) (by first | assumption | omega) (by first | assumption | omega) (by first | assumption | omega)) (va_cwS 3 hts (g_S mw_389 mw_390 mw_31 mw_391) rfl rfl rfl (by decide +kernel) ⟨Nat.le_of_ble_eq_true rfl, Nat.le_of_ble_eq_true rfl⟩) (pre_RS hP hK [] rfl) rfl rfl hl.1 rfl (lv_room (Nat.le_of_ble_eq_true rfl)) d_Pa_totalOf_71 ⟨Nat.le_of_ble_eq_true rfl, Nat.le_of_ble_eq_true rfl⟩) ?_
                  refine lv_aload_n hx hb d_Pa_totalOf_74 rfl (lv_at hl 5 rfl) ?_
                  refine va_get (D := D) (ci := 4) (v := .ref wo) (C := R_Pa) (T := T_Pa) (N := 4) hx hb hts i_Pa hown hK hP 0 rfl rfl 0 (by decide) (hts _ mw_144) (fun _ h9 => h9) rfl d_Pa_totalOf_75 ?_
                  refine Ri_call (va_runV (As := []) (rest := [.int (J (tbf k 1 (dgt k 1))), .int (J (ck (3 * 1 + (dgt k 1).toNat))), .int (J (0 + ((ck (3 * 0 + (dgt k 0).toNat)) + 0)))]) ⟨hx, hb, hml, hown, hts⟩ (c_We_turned l D cI cZ cJ wo wa wt ) (cwV 0 hts (g_V mw_392 mw_393 mw_394 mw_28 mw_395) rfl rfl rfl (by decide +kernel) ⟨Nat.le_of_ble_eq_true rfl, Nat.le_of_ble_eq_true rfl⟩) (pre_RV hP hK [1, 2] rfl 5 0 rfl rfl) rfl rfl hl.1 rfl (lv_room (Nat.le_of_ble_eq_true rfl)) d_Pa_totalOf_78 ⟨Nat.le_of_ble_eq_true rfl, Nat.le_of_ble_eq_true rfl⟩) ?_
                  refine w_imul hx hb d_Pa_totalOf_81 (wt 5 * trn (dgt k 0) (dgt k 1)) (by rw [tbf_1 k (by omega), Int.mul_comm]) ?_
                  refine w_iadd hx hb d_Pa_totalOf_82 ((ck (3 * 1 + (dgt k 1).toNat)) + (wt 5 * trn (dgt k 0) (dgt k 1))) (rfl) ?_
                  refine w_iadd hx hb d_Pa_totalOf_83 ((0 + ((ck (3 * 0 + (dgt k 0).toNat)) + 0)) + ((ck (3 * 1 + (dgt k 1).toNat)) + (wt 5 * trn (dgt k 0) (dgt k 1)))) (rfl) ?_
                  refine lv_istore_n (lv' := [(2, .int (J ((0 + ((ck (3 * 0 + (dgt k 0).toNat)) + 0)) + ((ck (3 * 1 + (dgt k 1).toNat)) + (wt 5 * trn (dgt k 0) (dgt k 1)))))), (6, .int (J (ck (3 * 1 + (dgt k 1).toNat)))), (5, .int (J (dgt k 1))), (4, .int (J 1)), (3, .int (J (wc - 2))), (0, .ref o), (1, .int (J ((k : Nat) : Int)))]) hx hb d_Pa_totalOf_84 rfl hl (by decide) rfl (fun ls hl => ?_)
                  refine w_iinc (k := 4) (lv' := [(3, .int (J (wc - 2 - 2))), (2, .int (J ((0 + ((ck (3 * 0 + (dgt k 0).toNat)) + 0)) + ((ck (3 * 1 + (dgt k 1).toNat)) + (wt 5 * trn (dgt k 0) (dgt k 1)))))), (6, .int (J (ck (3 * 1 + (dgt k 1).toNat)))), (5, .int (J (dgt k 1))), (4, .int (J 1)), (0, .ref o), (1, .int (J ((k : Nat) : Int)))]) hx hb d_Pa_totalOf_85 hl rfl (wc - 2 - 2) (by omega) (by decide) rfl (fun ls hl => ?_)
                  refine w_iinc (k := 4) (lv' := [(4, .int (J 2)), (3, .int (J (wc - 2 - 2))), (2, .int (J ((0 + ((ck (3 * 0 + (dgt k 0).toNat)) + 0)) + ((ck (3 * 1 + (dgt k 1).toNat)) + (wt 5 * trn (dgt k 0) (dgt k 1)))))), (6, .int (J (ck (3 * 1 + (dgt k 1).toNat)))), (5, .int (J (dgt k 1))), (0, .ref o), (1, .int (J ((k : Nat) : Int)))]) hx hb d_Pa_totalOf_88 hl rfl 2 (by omega) (by decide) rfl (fun ls hl => ?_)
                  refine lv_goto (tgt := 10) hx hb d_Pa_totalOf_91 (by decide) ?_
                  refine lv_iload hx hb d_Pa_totalOf_10 (lv_at hl 0 rfl) ?_
                  refine lv_iconst (v := J (3)) hx hb d_Pa_totalOf_12 rfl ?_
                  refine w_icmp_ge (tgt := 94) hx hb d_Pa_totalOf_13 (by decide) (by omega) (by omega) (fun c_13_3 => ?_) (fun c_13_3 => ?_)
                  · exfalso; omega
                  · refine lv_iload_n hx hb d_Pa_totalOf_16 rfl (lv_at hl 6 rfl) ?_
                    refine lv_iload hx hb d_Pa_totalOf_17 (lv_at hl 0 rfl) ?_
                    refine Ri_call (va_runS (As := [.int (J ((k : Nat) : Int)), .int (J 2)]) (rest := []) ⟨hx, hb, hml, hown, hts⟩ (c_Pa_partner l D cI cZ cJ k 2 (by first | assumption | omega) (by first | assumption | omega)) (va_cwS 2 hts (g_S mw_383 mw_384 mw_31 mw_385) rfl rfl rfl (by decide +kernel) ⟨Nat.le_of_ble_eq_true rfl, Nat.le_of_ble_eq_true rfl⟩) (pre_RS hP hK [] rfl) rfl rfl hl.1 rfl (lv_room (Nat.le_of_ble_eq_true rfl)) d_Pa_totalOf_19 ⟨Nat.le_of_ble_eq_true rfl, Nat.le_of_ble_eq_true rfl⟩) ?_
                    refine lv_istore (lv' := [(5, .int (J (dgt k 2))), (4, .int (J 2)), (3, .int (J (wc - 2 - 2))), (2, .int (J ((0 + ((ck (3 * 0 + (dgt k 0).toNat)) + 0)) + ((ck (3 * 1 + (dgt k 1).toNat)) + (wt 5 * trn (dgt k 0) (dgt k 1)))))), (6, .int (J (ck (3 * 1 + (dgt k 1).toNat)))), (0, .ref o), (1, .int (J ((k : Nat) : Int)))]) hx hb d_Pa_totalOf_22 hl (by decide) rfl (fun ls hl => ?_)
                    refine lv_iload hx hb d_Pa_totalOf_24 (lv_at hl 0 rfl) ?_
                    refine w_if_lt (tgt := 88) hx hb d_Pa_totalOf_26 (by decide) (by omega) (fun c_26_3 => ?_) (fun c_26_3 => ?_)
                    · refine w_iinc (k := 1) (lv' := [(4, .int (J 3)), (5, .int (J (dgt k 2))), (3, .int (J (wc - 2 - 2))), (2, .int (J ((0 + ((ck (3 * 0 + (dgt k 0).toNat)) + 0)) + ((ck (3 * 1 + (dgt k 1).toNat)) + (wt 5 * trn (dgt k 0) (dgt k 1)))))), (6, .int (J (ck (3 * 1 + (dgt k 1).toNat)))), (0, .ref o), (1, .int (J ((k : Nat) : Int)))]) hx hb d_Pa_totalOf_88 hl rfl 3 (by omega) (by decide) rfl (fun ls hl => ?_)
                      refine lv_goto (tgt := 10) hx hb d_Pa_totalOf_91 (by decide) ?_
                      refine lv_iload hx hb d_Pa_totalOf_10 (lv_at hl 0 rfl) ?_
                      refine lv_iconst (v := J (3)) hx hb d_Pa_totalOf_12 rfl ?_
                      refine w_icmp_ge (tgt := 94) hx hb d_Pa_totalOf_13 (by decide) (by omega) (by omega) (fun c_13_4 => ?_) (fun c_13_4 => ?_)
                      · refine lv_iload_n hx hb d_Pa_totalOf_94 rfl (lv_at hl 3 rfl) ?_
                        refine lv_iload_n hx hb d_Pa_totalOf_95 rfl (lv_at hl 2 rfl) ?_
                        refine lv_aload_n hx hb d_Pa_totalOf_96 rfl (lv_at hl 5 rfl) ?_
                        refine va_get (D := D) (ci := 4) (v := .ref wo) (C := R_Pa) (T := T_Pa) (N := 4) hx hb hts i_Pa hown hK hP 0 rfl rfl 0 (by decide) (hts _ mw_144) (fun _ h9 => h9) rfl d_Pa_totalOf_97 ?_
                        refine Ri_call (va_runV (As := []) (rest := [.int (J (wc - 2 - 2)), .int (J ((0 + ((ck (3 * 0 + (dgt k 0).toNat)) + 0)) + ((ck (3 * 1 + (dgt k 1).toNat)) + (wt 5 * trn (dgt k 0) (dgt k 1)))))]) ⟨hx, hb, hml, hown, hts⟩ (c_We_missing l D cI cZ cJ wo wa wt ) (cwV 0 hts (g_V mw_396 mw_397 mw_398 mw_28 mw_399) rfl rfl rfl (by decide +kernel) ⟨Nat.le_of_ble_eq_true rfl, Nat.le_of_ble_eq_true rfl⟩) (pre_RV hP hK [1, 2] rfl 5 0 rfl rfl) rfl rfl hl.1 rfl (lv_room (Nat.le_of_ble_eq_true rfl)) d_Pa_totalOf_100 ⟨Nat.le_of_ble_eq_true rfl, Nat.le_of_ble_eq_true rfl⟩) ?_
                        refine w_imul hx hb d_Pa_totalOf_103 (wt 4 * (wc - 4)) (by rw [Int.mul_comm, show wc - 2 - 2 = wc - 4 by omega]) ?_
                        refine w_iadd hx hb d_Pa_totalOf_104 (((0 + ((ck (3 * 0 + (dgt k 0).toNat)) + 0)) + ((ck (3 * 1 + (dgt k 1).toNat)) + (wt 5 * trn (dgt k 0) (dgt k 1)))) + (wt 4 * (wc - 4))) (rfl) ?_
                        have eo : wc - 2 * (one (dgt k 0) + one (dgt k 1) + one (dgt k 2)) = wc - 4 := by rw [one_p (d := dgt k 0) (by omega), one_p (d := dgt k 1) (by omega), one_n (d := dgt k 2) (by omega)]; omega
                        have et : tcl wt ck wc (dgt k 0) (dgt k 1) (dgt k 2) = top wt ck wc (dgt k 0) (dgt k 1) (dgt k 2) := if_pos (by unfold okc; omega)
                        rw [top, eo, csv_p (w := 0) (d := dgt k 0) (by omega), csv_p (w := 1) (d := dgt k 1) (by omega), csv_n (w := 2) (d := dgt k 2) (by omega)] at et
                        exact Ri_ret hx hb hr hlocks hQ hH d_Pa_totalOf_105 nb_i (by rw [et]; simp only [trn_2 (a := dgt k 0) (b := dgt k 2) (show dgt k 2 < 0 by omega), trn_2 (a := dgt k 1) (b := dgt k 2) (show dgt k 2 < 0 by omega), Int.mul_add, Int.add_zero, Int.zero_add, Int.mul_zero] <;> omega)
                      · exfalso; omega
                    · refine lv_aload_n hx hb d_Pa_totalOf_29 rfl (lv_at hl 5 rfl) ?_
                      refine va_get (D := D) (ci := 4) (v := .ref ac) (C := R_Pa) (T := T_Pa) (N := 4) hx hb hts i_Pa hown hK hP 0 rfl rfl 1 (by decide) (hts _ mw_145) (fun _ h9 => h9) rfl d_Pa_totalOf_30 ?_
                      refine lv_iload hx hb d_Pa_totalOf_33 (lv_at hl 1 rfl) ?_
                      refine lv_iconst (v := J (3)) hx hb d_Pa_totalOf_35 rfl ?_
                      refine w_imul hx hb d_Pa_totalOf_36 6 (by decide) ?_
                      refine lv_iload hx hb d_Pa_totalOf_37 (lv_at hl 0 rfl) ?_
                      refine w_iadd hx hb d_Pa_totalOf_39 ((3 * 2 + (dgt k 2).toNat : Nat) : Int) (by omega) ?_
                      refine w_iald hx hb hK hP 3 0 rfl rfl (3 * 2 + (dgt k 2).toNat) (by omega) (by omega) (by omega) d_Pa_totalOf_40 ?_
                      refine lv_istore (lv' := [(6, .int (J (ck (3 * 2 + (dgt k 2).toNat)))), (5, .int (J (dgt k 2))), (4, .int (J 2)), (3, .int (J (wc - 2 - 2))), (2, .int (J ((0 + ((ck (3 * 0 + (dgt k 0).toNat)) + 0)) + ((ck (3 * 1 + (dgt k 1).toNat)) + (wt 5 * trn (dgt k 0) (dgt k 1)))))), (0, .ref o), (1, .int (J ((k : Nat) : Int)))]) hx hb d_Pa_totalOf_41 hl (by decide) rfl (fun ls hl => ?_)
                      have k2 := hck ((3 * 2 + (dgt k 2).toNat))
                      refine lv_iload hx hb d_Pa_totalOf_43 (lv_at hl 0 rfl) ?_
                      refine lv_iconst (v := J (-1)) hx hb d_Pa_totalOf_45 rfl ?_
                      refine w_icmp_eq (tgt := 60) hx hb d_Pa_totalOf_46 (by decide) (by omega) (by omega) (fun c_46_3 => ?_) (fun c_46_3 => ?_)
                      · refine lv_ldc (v := J (1000000)) hx hb hown (hts _ mw_378) d_Pa_totalOf_60 ?_
                        exact Ri_ret hx hb hr hlocks hQ hH d_Pa_totalOf_62 nb_i ((show tcl wt ck wc (dgt k 0) (dgt k 1) (dgt k 2) = 1000000 from if_neg (by unfold okc; omega)).symm)
                      · refine lv_iload_n hx hb d_Pa_totalOf_49 rfl (lv_at hl 6 rfl) ?_
                        refine lv_iload hx hb d_Pa_totalOf_50 (lv_at hl 2 rfl) ?_
                        refine lv_iload hx hb d_Pa_totalOf_52 (lv_at hl 1 rfl) ?_
                        refine Ri_call (va_runS (As := [.int (J ((k : Nat) : Int)), .int (J 2), .int (J (dgt k 2))]) (rest := []) ⟨hx, hb, hml, hown, hts⟩ (c_Pa_isTaken l D cI cZ cJ k 2 (dgt k 2) (by first | assumption | omega) (by first | assumption | omega) (by first | assumption | omega)) (va_cwS 3 hts (g_S mw_386 mw_387 mw_31 mw_388) rfl rfl rfl (by decide +kernel) ⟨Nat.le_of_ble_eq_true rfl, Nat.le_of_ble_eq_true rfl⟩) (pre_RS hP hK [] rfl) rfl rfl hl.1 rfl (lv_room (Nat.le_of_ble_eq_true rfl)) d_Pa_totalOf_54 ⟨Nat.le_of_ble_eq_true rfl, Nat.le_of_ble_eq_true rfl⟩) ?_
                        refine w_if_eq (tgt := 63) hx hb d_Pa_totalOf_57 (by decide) (rg_b2) (fun c_57_3 => ?_) (fun c_57_3 => ?_)
                        · have c_57_3 := b2_0.mp c_57_3
                          refine lv_iload_n hx hb d_Pa_totalOf_63 rfl (lv_at hl 4 rfl) ?_
                          refine lv_iload hx hb d_Pa_totalOf_64 (lv_at hl 0 rfl) ?_
                          refine lv_iload_n hx hb d_Pa_totalOf_66 rfl (lv_at hl 6 rfl) ?_
                          refine lv_iload hx hb d_Pa_totalOf_67 (lv_at hl 2 rfl) ?_
                          refine lv_iload hx hb d_Pa_totalOf_69 (lv_at hl 1 rfl) ?_
                          refine Ri_call (va_runS (As := [.int (J ((k : Nat) : Int)), .int (J 2), .int (J (dgt k 2))]) (rest := [.int (J (ck (3 * 2 + (dgt k 2).toNat))), .int (J ((0 + ((ck (3 * 0 + (dgt k 0).toNat)) + 0)) + ((ck (3 * 1 + (dgt k 1).toNat)) + (wt 5 * trn (dgt k 0) (dgt k 1)))))]) ⟨hx, hb, hml, hown, hts⟩ (c_Pa_turnedBefore l D cI cZ cJ k 2 (dgt k 2) (by first | assumption | omega) (by first | assumption | omega) (by first | assumption | omega)) (va_cwS 3 hts (g_S mw_389 mw_390 mw_31 mw_391) rfl rfl rfl (by decide +kernel) ⟨Nat.le_of_ble_eq_true rfl, Nat.le_of_ble_eq_true rfl⟩) (pre_RS hP hK [] rfl) rfl rfl hl.1 rfl (lv_room (Nat.le_of_ble_eq_true rfl)) d_Pa_totalOf_71 ⟨Nat.le_of_ble_eq_true rfl, Nat.le_of_ble_eq_true rfl⟩) ?_
                          refine lv_aload_n hx hb d_Pa_totalOf_74 rfl (lv_at hl 5 rfl) ?_
                          refine va_get (D := D) (ci := 4) (v := .ref wo) (C := R_Pa) (T := T_Pa) (N := 4) hx hb hts i_Pa hown hK hP 0 rfl rfl 0 (by decide) (hts _ mw_144) (fun _ h9 => h9) rfl d_Pa_totalOf_75 ?_
                          refine Ri_call (va_runV (As := []) (rest := [.int (J (tbf k 2 (dgt k 2))), .int (J (ck (3 * 2 + (dgt k 2).toNat))), .int (J ((0 + ((ck (3 * 0 + (dgt k 0).toNat)) + 0)) + ((ck (3 * 1 + (dgt k 1).toNat)) + (wt 5 * trn (dgt k 0) (dgt k 1)))))]) ⟨hx, hb, hml, hown, hts⟩ (c_We_turned l D cI cZ cJ wo wa wt ) (cwV 0 hts (g_V mw_392 mw_393 mw_394 mw_28 mw_395) rfl rfl rfl (by decide +kernel) ⟨Nat.le_of_ble_eq_true rfl, Nat.le_of_ble_eq_true rfl⟩) (pre_RV hP hK [1, 2] rfl 5 0 rfl rfl) rfl rfl hl.1 rfl (lv_room (Nat.le_of_ble_eq_true rfl)) d_Pa_totalOf_78 ⟨Nat.le_of_ble_eq_true rfl, Nat.le_of_ble_eq_true rfl⟩) ?_
                          refine w_imul hx hb d_Pa_totalOf_81 (wt 5 * (trn (dgt k 0) (dgt k 2) + trn (dgt k 1) (dgt k 2))) (by rw [tbf_2 k (by omega), Int.mul_comm]) ?_
                          refine w_iadd hx hb d_Pa_totalOf_82 ((ck (3 * 2 + (dgt k 2).toNat)) + (wt 5 * (trn (dgt k 0) (dgt k 2) + trn (dgt k 1) (dgt k 2)))) (rfl) ?_
                          refine w_iadd hx hb d_Pa_totalOf_83 (((0 + ((ck (3 * 0 + (dgt k 0).toNat)) + 0)) + ((ck (3 * 1 + (dgt k 1).toNat)) + (wt 5 * trn (dgt k 0) (dgt k 1)))) + ((ck (3 * 2 + (dgt k 2).toNat)) + (wt 5 * (trn (dgt k 0) (dgt k 2) + trn (dgt k 1) (dgt k 2))))) (rfl) ?_
                          refine lv_istore_n (lv' := [(2, .int (J (((0 + ((ck (3 * 0 + (dgt k 0).toNat)) + 0)) + ((ck (3 * 1 + (dgt k 1).toNat)) + (wt 5 * trn (dgt k 0) (dgt k 1)))) + ((ck (3 * 2 + (dgt k 2).toNat)) + (wt 5 * (trn (dgt k 0) (dgt k 2) + trn (dgt k 1) (dgt k 2))))))), (6, .int (J (ck (3 * 2 + (dgt k 2).toNat)))), (5, .int (J (dgt k 2))), (4, .int (J 2)), (3, .int (J (wc - 2 - 2))), (0, .ref o), (1, .int (J ((k : Nat) : Int)))]) hx hb d_Pa_totalOf_84 rfl hl (by decide) rfl (fun ls hl => ?_)
                          refine w_iinc (k := 4) (lv' := [(3, .int (J (wc - 2 - 2 - 2))), (2, .int (J (((0 + ((ck (3 * 0 + (dgt k 0).toNat)) + 0)) + ((ck (3 * 1 + (dgt k 1).toNat)) + (wt 5 * trn (dgt k 0) (dgt k 1)))) + ((ck (3 * 2 + (dgt k 2).toNat)) + (wt 5 * (trn (dgt k 0) (dgt k 2) + trn (dgt k 1) (dgt k 2))))))), (6, .int (J (ck (3 * 2 + (dgt k 2).toNat)))), (5, .int (J (dgt k 2))), (4, .int (J 2)), (0, .ref o), (1, .int (J ((k : Nat) : Int)))]) hx hb d_Pa_totalOf_85 hl rfl (wc - 2 - 2 - 2) (by omega) (by decide) rfl (fun ls hl => ?_)
                          refine w_iinc (k := 4) (lv' := [(4, .int (J 3)), (3, .int (J (wc - 2 - 2 - 2))), (2, .int (J (((0 + ((ck (3 * 0 + (dgt k 0).toNat)) + 0)) + ((ck (3 * 1 + (dgt k 1).toNat)) + (wt 5 * trn (dgt k 0) (dgt k 1)))) + ((ck (3 * 2 + (dgt k 2).toNat)) + (wt 5 * (trn (dgt k 0) (dgt k 2) + trn (dgt k 1) (dgt k 2))))))), (6, .int (J (ck (3 * 2 + (dgt k 2).toNat)))), (5, .int (J (dgt k 2))), (0, .ref o), (1, .int (J ((k : Nat) : Int)))]) hx hb d_Pa_totalOf_88 hl rfl 3 (by omega) (by decide) rfl (fun ls hl => ?_)
                          refine lv_goto (tgt := 10) hx hb d_Pa_totalOf_91 (by decide) ?_
                          refine lv_iload hx hb d_Pa_totalOf_10 (lv_at hl 0 rfl) ?_
                          refine lv_iconst (v := J (3)) hx hb d_Pa_totalOf_12 rfl ?_
                          refine w_icmp_ge (tgt := 94) hx hb d_Pa_totalOf_13 (by decide) (by omega) (by omega) (fun c_13_4 => ?_) (fun c_13_4 => ?_)
                          · refine lv_iload_n hx hb d_Pa_totalOf_94 rfl (lv_at hl 2 rfl) ?_
                            refine lv_iload_n hx hb d_Pa_totalOf_95 rfl (lv_at hl 1 rfl) ?_
                            refine lv_aload_n hx hb d_Pa_totalOf_96 rfl (lv_at hl 5 rfl) ?_
                            refine va_get (D := D) (ci := 4) (v := .ref wo) (C := R_Pa) (T := T_Pa) (N := 4) hx hb hts i_Pa hown hK hP 0 rfl rfl 0 (by decide) (hts _ mw_144) (fun _ h9 => h9) rfl d_Pa_totalOf_97 ?_
                            refine Ri_call (va_runV (As := []) (rest := [.int (J (wc - 2 - 2 - 2)), .int (J (((0 + ((ck (3 * 0 + (dgt k 0).toNat)) + 0)) + ((ck (3 * 1 + (dgt k 1).toNat)) + (wt 5 * trn (dgt k 0) (dgt k 1)))) + ((ck (3 * 2 + (dgt k 2).toNat)) + (wt 5 * (trn (dgt k 0) (dgt k 2) + trn (dgt k 1) (dgt k 2))))))]) ⟨hx, hb, hml, hown, hts⟩ (c_We_missing l D cI cZ cJ wo wa wt ) (cwV 0 hts (g_V mw_396 mw_397 mw_398 mw_28 mw_399) rfl rfl rfl (by decide +kernel) ⟨Nat.le_of_ble_eq_true rfl, Nat.le_of_ble_eq_true rfl⟩) (pre_RV hP hK [1, 2] rfl 5 0 rfl rfl) rfl rfl hl.1 rfl (lv_room (Nat.le_of_ble_eq_true rfl)) d_Pa_totalOf_100 ⟨Nat.le_of_ble_eq_true rfl, Nat.le_of_ble_eq_true rfl⟩) ?_
                            refine w_imul hx hb d_Pa_totalOf_103 (wt 4 * (wc - 6)) (by rw [Int.mul_comm, show wc - 2 - 2 - 2 = wc - 6 by omega]) ?_
                            refine w_iadd hx hb d_Pa_totalOf_104 ((((0 + ((ck (3 * 0 + (dgt k 0).toNat)) + 0)) + ((ck (3 * 1 + (dgt k 1).toNat)) + (wt 5 * trn (dgt k 0) (dgt k 1)))) + ((ck (3 * 2 + (dgt k 2).toNat)) + (wt 5 * (trn (dgt k 0) (dgt k 2) + trn (dgt k 1) (dgt k 2))))) + (wt 4 * (wc - 6))) (rfl) ?_
                            have eo : wc - 2 * (one (dgt k 0) + one (dgt k 1) + one (dgt k 2)) = wc - 6 := by rw [one_p (d := dgt k 0) (by omega), one_p (d := dgt k 1) (by omega), one_p (d := dgt k 2) (by omega)]; omega
                            have et : tcl wt ck wc (dgt k 0) (dgt k 1) (dgt k 2) = top wt ck wc (dgt k 0) (dgt k 1) (dgt k 2) := if_pos (by unfold okc; omega)
                            rw [top, eo, csv_p (w := 0) (d := dgt k 0) (by omega), csv_p (w := 1) (d := dgt k 1) (by omega), csv_p (w := 2) (d := dgt k 2) (by omega)] at et
                            exact Ri_ret hx hb hr hlocks hQ hH d_Pa_totalOf_105 nb_i (by rw [et]; simp only [Int.mul_add, Int.add_zero, Int.zero_add, Int.mul_zero] <;> omega)
                          · exfalso; omega
                        · have c_57_3 := b2_n0.mp c_57_3
                          refine lv_ldc (v := J (1000000)) hx hb hown (hts _ mw_378) d_Pa_totalOf_60 ?_
                          exact Ri_ret hx hb hr hlocks hQ hH d_Pa_totalOf_62 nb_i ((show tcl wt ck wc (dgt k 0) (dgt k 1) (dgt k 2) = 1000000 from if_neg (by unfold okc; omega)).symm)
                · have c_57_2 := b2_n0.mp c_57_2
                  refine lv_ldc (v := J (1000000)) hx hb hown (hts _ mw_378) d_Pa_totalOf_60 ?_
                  exact Ri_ret hx hb hr hlocks hQ hH d_Pa_totalOf_62 nb_i ((show tcl wt ck wc (dgt k 0) (dgt k 1) (dgt k 2) = 1000000 from if_neg (by unfold okc; omega)).symm)
        · have c_57 := b2_n0.mp c_57
          refine lv_ldc (v := J (1000000)) hx hb hown (hts _ mw_378) d_Pa_totalOf_60 ?_
          exact Ri_ret hx hb hr hlocks hQ hH d_Pa_totalOf_62 nb_i ((show tcl wt ck wc (dgt k 0) (dgt k 1) (dgt k 2) = 1000000 from if_neg (by unfold okc; omega)).symm)
end
section
theorem tcl_rg {la lt wt cs ck : Nat → Int} (hw : ∀ k, 0 ≤ wt k ∧ wt k ≤ 1000) (hcs : ∀ j, 0 ≤ cs j ∧ cs j ≤ 20000) (h : ckf la lt cs ck) (n : Nat) : 0 ≤ tcl wt ck (nw la + nw lt) (dgt n 0) (dgt n 1) (dgt n 2) ∧ tcl wt ck (nw la + nw lt) (dgt n 0) (dgt n 1) (dgt n 2) ≤ 1000000 := by
  have e0 := okc_okp (fun j => (hcs j).1) h (dgt_rg n 0) (dgt_rg n 1) (dgt_rg n 2)
  unfold tcl
  by_cases q : okc ck (dgt n 0) (dgt n 1) (dgt n 2)
  · have q2 := e0.mp q
    have := top_rg hw hcs (dgt_rg n 0) (dgt_rg n 1) (dgt_rg n 2) q2
    rw [if_pos q, top_ck h wt _ (dgt_rg n 0) (dgt_rg n 1) (dgt_rg n 2) q2]
    omega
  · rw [if_neg q]
    omega
set_option maxHeartbeats 4000000 in
set_option maxRecDepth 100000 in
theorem c_Pa_choose (l : Launch) (D : va_G) (cI cZ cJ : ClassId) (sz : Nat) (o : Nat) (wo : Nat) (wa : Nat) (ac : Nat) (bw : Int) (wt : Nat → Int) (ck : Nat → Int) (la : Nat → Int) (lt : Nat → Int) (cs : Nat → Int) (hw : ∀ k, 0 ≤ wt k ∧ wt k ≤ 1000) (hck : ∀ j, -1 ≤ ck j ∧ ck j ≤ 20000) (hcs : ∀ j, 0 ≤ cs j ∧ cs j ≤ 20000) (hck2 : ckf la lt cs ck) : Mi l y_Pa_choose w_Pa_choose ({ frames := 3, cells := 0, slots := 0, locals := 71 }) false D classes [(cI, .int), (cZ, .boolean), (cJ, .long)] sz [.ref o] [(o, .inr (4, [.ref wo, .ref ac, .int (J (nw la + nw lt)), .int (J bw)])), (wo, .inr (5, [.ref wa])), (wa, ca cI 6 wt), (ac, ca cI 9 ck)] ((pkw la lt wt cs (nw la + nw lt) 64).1) (S := Unit) (fun _ => True) (fun u : Unit => [(o, .inr (4, [.ref wo, .ref ac, .int (J (nw la + nw lt)), .int (J (((pkw la lt wt cs (nw la + nw lt) 64).2 : Nat) : Int))])), (wo, .inr (5, [.ref wa])), (wa, ca cI 6 wt), (ac, ca cI 9 ck)]) 0 0 := by
  refine Mi_of (cc := b_Pa_choose) (maxL := 4) (by decide) rfl (Nat.le_of_ble_eq_true rfl) ?_
  intro p e s m args below meth c hx hb hr hml hts hown hlocks A hA hP hK hD hT hS Q hQ H hH ls hl
  subst hH
  have hl : lv_has ls 4 [(0, .ref o)] := hl
  refine lv_ldc (v := J (1000000)) hx hb hown (hts _ mw_378) d_Pa_choose_0 ?_
  refine lv_istore_n (lv' := [(1, .int (J 1000000)), (0, .ref o)]) hx hb d_Pa_choose_2 rfl hl (by decide) rfl (fun ls hl => ?_)
  refine lv_iconst (v := J (0)) hx hb d_Pa_choose_3 rfl ?_
  refine lv_istore_n (lv' := [(2, .int (J 0)), (1, .int (J 1000000)), (0, .ref o)]) hx hb d_Pa_choose_4 rfl hl (by decide) rfl (fun ls hl => ?_)
  have lp_5 : ∀ (fu : Nat) (i : Nat) (t : Int) (y : Int), (i ≤ 64) → (t = lst la lt wt cs (nw la + nw lt) i) → (0 < i → y = (((pkw la lt wt cs (nw la + nw lt) i).2 : Nat) : Int)) → (64 - i) < fu → ∀ (H : Heap) (locs : List Loc), va_P D classes [(o, .inr (4, [.ref wo, .ref ac, .int (J (nw la + nw lt)), .int (J y)])), (wo, .inr (5, [.ref wa])), (wa, ca cI 6 wt), (ac, ca cI 9 ck)] H → va_D A [(o, .inr (4, [.ref wo, .ref ac, .int (J (nw la + nw lt)), .int (J y)])), (wo, .inr (5, [.ref wa])), (wa, ca cI 6 wt), (ac, ca cI 9 ck)] → va_S A s.heap H locs → ∀ ls : Array Slot, lv_has ls 4 [(0, .ref o), (1, .int (J t)), (2, .int (J ((i : Nat) : Int)))] → W p l e ({ frames := 3, cells := 0, slots := 0, locals := 71 }) s m args below meth c H locs 0 0 Q (F0 m 5 ls []) := by
    intro fu
    induction fu with
    | zero => intro i t y hi ht hy hfu; exact absurd hfu (Nat.not_lt_zero _)
    | succ fu ih_5 =>
      intro i t y hi ht hy hfu H locs hP hD hS ls hl
      refine lv_iload_n hx hb d_Pa_choose_5 rfl (lv_at hl 2 rfl) ?_
      refine lv_bipush (v := J (64)) hx hb d_Pa_choose_6 (by decide) ?_
      refine w_icmp_ge (tgt := 35) hx hb d_Pa_choose_8 (by decide) (by omega) (by omega) (fun c_8 => ?_) (fun c_8 => ?_)
      · obtain rfl : 64 = i := by omega
        rw [hy (by decide)] at hP hD
        refine lv_iload_n hx hb d_Pa_choose_35 rfl (lv_at hl 1 rfl) ?_
        exact Mi_ret hx hb hr hlocks hQ d_Pa_choose_36 hP hK hD hS nb_i (by rw [ht]; rfl) () (trivial) [0, 1, 2, 3] rfl (by decide)
      · refine lv_aload_n hx hb d_Pa_choose_11 rfl (lv_at hl 0 rfl) ?_
        refine lv_iload_n hx hb d_Pa_choose_12 rfl (lv_at hl 2 rfl) ?_
        refine Ri_call (va_runV (As := [.int (J ((i : Nat) : Int))]) (rest := []) ⟨hx, hb, hml, hown, hts⟩ (c_Pa_totalOf l D cI cZ cJ o wo wa ac (nw la + nw lt) y wt ck i (by first | assumption | omega) (by first | assumption | omega)) (cwV 1 hts (g_V mw_379 mw_381 mw_6 mw_31 mw_382) rfl rfl rfl (by decide +kernel) ⟨Nat.le_of_ble_eq_true rfl, Nat.le_of_ble_eq_true rfl⟩) (pre_RV hP hK [0, 1, 2, 3] rfl 4 0 rfl rfl) rfl rfl hl.1 rfl (lv_room (Nat.le_of_ble_eq_true rfl)) d_Pa_choose_13 ⟨Nat.le_of_ble_eq_true rfl, Nat.le_of_ble_eq_true rfl⟩) ?_
        have t1 := tcl_rg hw hcs hck2 i
        have t2 := lst_rg (la := la) (lt := lt) hw hcs i
        rw [← ht] at t2
        refine lv_istore_n (lv' := [(3, .int (J (tcl wt ck (nw la + nw lt) (dgt i 0) (dgt i 1) (dgt i 2)))), (0, .ref o), (1, .int (J t)), (2, .int (J ((i : Nat) : Int)))]) hx hb d_Pa_choose_16 rfl hl (by decide) rfl (fun ls hl => ?_)
        refine lv_iload_n hx hb d_Pa_choose_17 rfl (lv_at hl 0 rfl) ?_
        refine lv_iload_n hx hb d_Pa_choose_18 rfl (lv_at hl 2 rfl) ?_
        refine w_icmp_ge (tgt := 29) hx hb d_Pa_choose_19 (by decide) (by omega) (by omega) (fun c_19 => ?_) (fun c_19 => ?_)
        · refine w_iinc (k := 3) (lv' := [(2, .int (J ((i + 1 : Nat) : Int))), (3, .int (J (tcl wt ck (nw la + nw lt) (dgt i 0) (dgt i 1) (dgt i 2)))), (0, .ref o), (1, .int (J t))]) hx hb d_Pa_choose_29 hl rfl ((i + 1 : Nat) : Int) (by omega) (by decide) rfl (fun ls hl => ?_)
          refine lv_goto (tgt := 5) hx hb d_Pa_choose_32 (by decide) ?_
          have e9 := lst_ge hw hcs hck2 i (by rw [← ht]; omega)
          exact ih_5 (i + 1) t y (by omega) (by unfold lst at ht ⊢; rw [if_neg (by omega)] at ht ⊢; rw [e9.2]; exact ht) (fun _ => by rw [e9.2]; exact hy e9.1) (by omega) _ _ (P_map hP [0, 1, 2, 3] rfl) (hD.sub [0, 1, 2, 3] (by decide) rfl) hS ls (lv_sub hl [2, 3, 0] rfl)
        · refine lv_iload_n hx hb d_Pa_choose_22 rfl (lv_at hl 0 rfl) ?_
          refine lv_istore_n (lv' := [(1, .int (J (tcl wt ck (nw la + nw lt) (dgt i 0) (dgt i 1) (dgt i 2)))), (3, .int (J (tcl wt ck (nw la + nw lt) (dgt i 0) (dgt i 1) (dgt i 2)))), (0, .ref o), (2, .int (J ((i : Nat) : Int)))]) hx hb d_Pa_choose_23 rfl hl (by decide) rfl (fun ls hl => ?_)
          refine lv_aload_n hx hb d_Pa_choose_24 rfl (lv_at hl 2 rfl) ?_
          refine lv_iload_n hx hb d_Pa_choose_25 rfl (lv_at hl 3 rfl) ?_
          refine va_put (D := D) (ci := 4) (v := .int (J ((i : Nat) : Int))) (ty := .int) (C := R_Pa) (T := T_Pa) (N := 4) hx hb hts i_Pa t_Pa k_Pa n_Pa hown hK hP hD hS 0 rfl rfl 3 (by decide) (hts _ mw_147) (fun _ h9 => h9) rfl (by decide +kernel) rfl rfl (Nat.le_of_ble_eq_true rfl) d_Pa_choose_26 (fun H locs hP hD hS => ?_)
          have hP : va_P D classes [(o, .inr (4, [.ref wo, .ref ac, .int (J (nw la + nw lt)), .int (J ((i : Nat) : Int))])), (wo, .inr (5, [.ref wa])), (wa, ca cI 6 wt), (ac, ca cI 9 ck)] H := hP
          have hD : va_D A [(o, .inr (4, [.ref wo, .ref ac, .int (J (nw la + nw lt)), .int (J ((i : Nat) : Int))])), (wo, .inr (5, [.ref wa])), (wa, ca cI 6 wt), (ac, ca cI 9 ck)] := hD
          refine w_iinc (k := 3) (lv' := [(2, .int (J ((i + 1 : Nat) : Int))), (1, .int (J (tcl wt ck (nw la + nw lt) (dgt i 0) (dgt i 1) (dgt i 2)))), (3, .int (J (tcl wt ck (nw la + nw lt) (dgt i 0) (dgt i 1) (dgt i 2)))), (0, .ref o)]) hx hb d_Pa_choose_29 hl rfl ((i + 1 : Nat) : Int) (by omega) (by decide) rfl (fun ls hl => ?_)
          refine lv_goto (tgt := 5) hx hb d_Pa_choose_32 (by decide) ?_
          have e9 := lst_lt hw hcs hck2 i (by rw [← ht]; omega)
          exact ih_5 (i + 1) (tcl wt ck (nw la + nw lt) (dgt i 0) (dgt i 1) (dgt i 2)) ((i : Nat) : Int) (by omega) (by unfold lst; rw [if_neg (by omega), e9]) (fun _ => by rw [e9]) (by omega) _ _ (P_map hP [0, 1, 2, 3] rfl) (hD.sub [0, 1, 2, 3] (by decide) rfl) hS ls (lv_sub hl [3, 1, 0] rfl)
  exact lp_5 ((64 - 0) + 1) 0 1000000 bw (by omega) (rfl) (fun h => absurd h (Nat.lt_irrefl 0)) (Nat.lt_succ_self _) _ _ (P_map hP [0, 1, 2, 3] rfl) (hD.sub [0, 1, 2, 3] (by decide) rfl) hS ls (lv_sub hl [2, 1, 0] rfl)
set_option maxHeartbeats 4000000 in
set_option maxRecDepth 100000 in
theorem c_Hi_start (l : Launch) (D : va_G) (cI cZ cJ : ClassId) (sz : Nat) (o : Nat) (e0 : Nat) (e1 : Nat) (e2 : Nat) (mo : Int) (bd : Int) (s0 : Int) (k : Int) (b : Int)  : Mv l y_Hi_start w_Hi_start ({ frames := 0, cells := 0, slots := 0, locals := 0 }) false D classes [(cI, .int), (cZ, .boolean), (cJ, .long)] sz [.ref o, .int (J k), .int (J b)] [(o, .inr (3, [.ref e0, .ref e1, .ref e2, .int (J mo), .int (J bd), .int (J s0)]))] (S := Unit) (fun _ => True) (fun u : Unit => [(o, .inr (3, [.ref e0, .ref e1, .ref e2, .int (J k), .int (J b), .int (J 0)]))]) 0 0 := by
  refine Mv_of (cc := b_Hi_start) (maxL := 3) (by decide) rfl (Nat.le_of_ble_eq_true rfl) ?_
  intro p e s m args below meth c hx hb hr hml hts hown hlocks hin A hA hP hK hD hT hS Q hQ H hH ls hl
  subst hH
  have hl : lv_has ls 3 [(0, .ref o), (1, .int (J k)), (2, .int (J b))] := hl
  refine lv_aload_n hx hb d_Hi_start_0 rfl (lv_at hl 0 rfl) ?_
  refine lv_iload_n hx hb d_Hi_start_1 rfl (lv_at hl 1 rfl) ?_
  refine va_put (D := D) (ci := 3) (v := .int (J k)) (ty := .int) (C := R_Hi) (T := T_Hi) (N := 6) hx hb hts i_Hi t_Hi k_Hi n_Hi hown hK hP hD hS 0 rfl rfl 3 (by decide) (hts _ mw_169) (fun _ h9 => h9) rfl (by decide +kernel) rfl rfl (Nat.le_of_ble_eq_true rfl) d_Hi_start_2 (fun H locs hP hD hS => ?_)
  have hP : va_P D classes [(o, .inr (3, [.ref e0, .ref e1, .ref e2, .int (J k), .int (J bd), .int (J s0)]))] H := hP
  have hD : va_D A [(o, .inr (3, [.ref e0, .ref e1, .ref e2, .int (J k), .int (J bd), .int (J s0)]))] := hD
  refine lv_aload_n hx hb d_Hi_start_5 rfl (lv_at hl 0 rfl) ?_
  refine lv_iload_n hx hb d_Hi_start_6 rfl (lv_at hl 2 rfl) ?_
  refine va_put (D := D) (ci := 3) (v := .int (J b)) (ty := .int) (C := R_Hi) (T := T_Hi) (N := 6) hx hb hts i_Hi t_Hi k_Hi n_Hi hown hK hP hD hS 0 rfl rfl 4 (by decide) (hts _ mw_170) (fun _ h9 => h9) rfl (by decide +kernel) rfl rfl (Nat.le_of_ble_eq_true rfl) d_Hi_start_7 (fun H locs hP hD hS => ?_)
  have hP : va_P D classes [(o, .inr (3, [.ref e0, .ref e1, .ref e2, .int (J k), .int (J b), .int (J s0)]))] H := hP
  have hD : va_D A [(o, .inr (3, [.ref e0, .ref e1, .ref e2, .int (J k), .int (J b), .int (J s0)]))] := hD
  refine lv_aload_n hx hb d_Hi_start_10 rfl (lv_at hl 0 rfl) ?_
  refine lv_iconst (v := J (0)) hx hb d_Hi_start_11 rfl ?_
  refine va_put (D := D) (ci := 3) (v := .int (J 0)) (ty := .int) (C := R_Hi) (T := T_Hi) (N := 6) hx hb hts i_Hi t_Hi k_Hi n_Hi hown hK hP hD hS 0 rfl rfl 5 (by decide) (hts _ mw_171) (fun _ h9 => h9) rfl (by decide +kernel) rfl rfl (Nat.le_of_ble_eq_true rfl) d_Hi_start_12 (fun H locs hP hD hS => ?_)
  have hP : va_P D classes [(o, .inr (3, [.ref e0, .ref e1, .ref e2, .int (J k), .int (J b), .int (J 0)]))] H := hP
  have hD : va_D A [(o, .inr (3, [.ref e0, .ref e1, .ref e2, .int (J k), .int (J b), .int (J 0)]))] := hD
  exact Mv_ret hx hb hr hlocks hQ d_Hi_start_15 hP hK hD hS () (trivial) [0] rfl (by decide)
set_option maxHeartbeats 4000000 in
set_option maxRecDepth 100000 in
theorem c_Hi_has (l : Launch) (D : va_G) (cI cZ cJ : ClassId) (o : Nat) (e0 : Nat) (e1 : Nat) (e2 : Nat) (mo : Int) (bd : Int) (n : Nat) (z : Int) (hz : rg z) (hn : n ≤ 40) : Ri l y_Hi_has w_Hi_has ({ frames := 0, cells := 0, slots := 0, locals := 0 }) D classes [(cI, .int), (cZ, .boolean), (cJ, .long)] [.ref o, .int (J z)] [(o, .inr (3, [.ref e0, .ref e1, .ref e2, .int (J mo), .int (J bd), .int (J ((n : Nat) : Int))]))] (b2 (0 ≤ z ∧ z < (n : Int))) := by
  refine Ri_of (cc := b_Hi_has) (maxL := 2) (by decide) rfl (Nat.le_of_ble_eq_true rfl) ?_
  intro p e s m args below meth c hx hb hr hml hts hown hlocks hP hK Q hQ H hH ls hl
  rw [← hH] at hP
  have hl : lv_has ls 2 [(0, .ref o), (1, .int (J z))] := hl
  refine lv_iload_n hx hb d_Hi_has_0 rfl (lv_at hl 1 rfl) ?_
  refine w_if_lt (tgt := 16) hx hb d_Hi_has_1 (by decide) (by omega) (fun c_1 => ?_) (fun c_1 => ?_)
  · refine lv_iconst (v := J (0)) hx hb d_Hi_has_16 rfl ?_
    exact Ri_ret hx hb hr hlocks hQ hH d_Hi_has_17 (nb_z (by omega)) (by unfold b2; split <;> omega)
  · refine lv_iload_n hx hb d_Hi_has_4 rfl (lv_at hl 1 rfl) ?_
    refine lv_aload_n hx hb d_Hi_has_5 rfl (lv_at hl 0 rfl) ?_
    refine va_get (D := D) (ci := 3) (v := .int (J ((n : Nat) : Int))) (C := R_Hi) (T := T_Hi) (N := 6) hx hb hts i_Hi hown hK hP 0 rfl rfl 5 (by decide) (hts _ mw_171) (fun _ h9 => h9) rfl d_Hi_has_6 ?_
    refine w_icmp_ge (tgt := 16) hx hb d_Hi_has_9 (by decide) (by omega) (by omega) (fun c_9 => ?_) (fun c_9 => ?_)
    · refine lv_iconst (v := J (0)) hx hb d_Hi_has_16 rfl ?_
      exact Ri_ret hx hb hr hlocks hQ hH d_Hi_has_17 (nb_z (by omega)) (by unfold b2; split <;> omega)
    · refine lv_iconst (v := J (1)) hx hb d_Hi_has_12 rfl ?_
      refine lv_goto (tgt := 17) hx hb d_Hi_has_13 (by decide) ?_
      exact Ri_ret hx hb hr hlocks hQ hH d_Hi_has_17 (nb_z (by omega)) (by unfold b2; split <;> omega)
set_option maxHeartbeats 4000000 in
set_option maxRecDepth 100000 in
theorem c_Hi_limit (l : Launch) (D : va_G) (cI cZ cJ : ClassId) (o : Nat) (e0 : Nat) (e1 : Nat) (e2 : Nat) (bd : Int) (n : Nat) (k : Nat) (fs : Nat → Int) (hn : n ≤ k) (hk : 1 ≤ k ∧ k ≤ 40) : Ri l y_Hi_limit w_Hi_limit ({ frames := 0, cells := 0, slots := 0, locals := 0 }) D classes [(cI, .int), (cZ, .boolean), (cJ, .long)] [.ref o] [(o, .inr (3, [.ref e0, .ref e1, .ref e2, .int (J ((k : Nat) : Int)), .int (J bd), .int (J ((n : Nat) : Int))])), (e1, ca cI 40 fs)] (if n = k then fs (k - 1) else bd) := by
  refine Ri_of (cc := b_Hi_limit) (maxL := 1) (by decide) rfl (Nat.le_of_ble_eq_true rfl) ?_
  intro p e s m args below meth c hx hb hr hml hts hown hlocks hP hK Q hQ H hH ls hl
  rw [← hH] at hP
  have hl : lv_has ls 1 [(0, .ref o)] := hl
  refine lv_aload_n hx hb d_Hi_limit_0 rfl (lv_at hl 0 rfl) ?_
  refine va_get (D := D) (ci := 3) (v := .int (J ((n : Nat) : Int))) (C := R_Hi) (T := T_Hi) (N := 6) hx hb hts i_Hi hown hK hP 0 rfl rfl 5 (by decide) (hts _ mw_171) (fun _ h9 => h9) rfl d_Hi_limit_1 ?_
  refine w_if_le (tgt := 32) hx hb d_Hi_limit_4 (by decide) (by omega) (fun c_4 => ?_) (fun c_4 => ?_)
  · refine lv_aload_n hx hb d_Hi_limit_32 rfl (lv_at hl 0 rfl) ?_
    refine va_get (D := D) (ci := 3) (v := .int (J bd)) (C := R_Hi) (T := T_Hi) (N := 6) hx hb hts i_Hi hown hK hP 0 rfl rfl 4 (by decide) (hts _ mw_170) (fun _ h9 => h9) rfl d_Hi_limit_33 ?_
    exact Ri_ret hx hb hr hlocks hQ hH d_Hi_limit_36 nb_i (by rw [if_neg (by omega)])
  · refine lv_aload_n hx hb d_Hi_limit_7 rfl (lv_at hl 0 rfl) ?_
    refine va_get (D := D) (ci := 3) (v := .int (J ((n : Nat) : Int))) (C := R_Hi) (T := T_Hi) (N := 6) hx hb hts i_Hi hown hK hP 0 rfl rfl 5 (by decide) (hts _ mw_171) (fun _ h9 => h9) rfl d_Hi_limit_8 ?_
    refine lv_aload_n hx hb d_Hi_limit_11 rfl (lv_at hl 0 rfl) ?_
    refine va_get (D := D) (ci := 3) (v := .int (J ((k : Nat) : Int))) (C := R_Hi) (T := T_Hi) (N := 6) hx hb hts i_Hi hown hK hP 0 rfl rfl 3 (by decide) (hts _ mw_169) (fun _ h9 => h9) rfl d_Hi_limit_12 ?_
    refine w_icmp_lt (tgt := 32) hx hb d_Hi_limit_15 (by decide) (by omega) (by omega) (fun c_15 => ?_) (fun c_15 => ?_)
    · refine lv_aload_n hx hb d_Hi_limit_32 rfl (lv_at hl 0 rfl) ?_
      refine va_get (D := D) (ci := 3) (v := .int (J bd)) (C := R_Hi) (T := T_Hi) (N := 6) hx hb hts i_Hi hown hK hP 0 rfl rfl 4 (by decide) (hts _ mw_170) (fun _ h9 => h9) rfl d_Hi_limit_33 ?_
      exact Ri_ret hx hb hr hlocks hQ hH d_Hi_limit_36 nb_i (by rw [if_neg (by omega)])
    · refine lv_aload_n hx hb d_Hi_limit_18 rfl (lv_at hl 0 rfl) ?_
      refine va_get (D := D) (ci := 3) (v := .ref e1) (C := R_Hi) (T := T_Hi) (N := 6) hx hb hts i_Hi hown hK hP 0 rfl rfl 1 (by decide) (hts _ mw_166) (fun _ h9 => h9) rfl d_Hi_limit_19 ?_
      refine lv_aload_n hx hb d_Hi_limit_22 rfl (lv_at hl 0 rfl) ?_
      refine va_get (D := D) (ci := 3) (v := .int (J ((n : Nat) : Int))) (C := R_Hi) (T := T_Hi) (N := 6) hx hb hts i_Hi hown hK hP 0 rfl rfl 5 (by decide) (hts _ mw_171) (fun _ h9 => h9) rfl d_Hi_limit_23 ?_
      refine lv_iconst (v := J (1)) hx hb d_Hi_limit_26 rfl ?_
      refine w_isub hx hb d_Hi_limit_27 ((n - 1 : Nat) : Int) (by omega) ?_
      refine w_iald hx hb hK hP 1 0 rfl rfl (n - 1) (by omega) (by omega) (by omega) d_Hi_limit_28 ?_
      refine lv_goto (tgt := 36) hx hb d_Hi_limit_29 (by decide) ?_
      exact Ri_ret hx hb hr hlocks hQ hH d_Hi_limit_36 nb_i (by rw [if_pos (by omega), show n - 1 = k - 1 by omega])
set_option maxHeartbeats 4000000 in
set_option maxRecDepth 100000 in
theorem c_Hi_isNearer (l : Launch) (D : va_G) (cI cZ cJ : ClassId) (o : Nat) (e0 : Nat) (e1 : Nat) (e2 : Nat) (mo : Int) (bd : Int) (n : Nat) (fs : Nat → Int) (hd : Nat → Int) (z : Int) (y : Int) (i : Nat) (hz : rg z) (hy : rg y) (hi : i < 40) (hfs : ∀ k, rg (fs k)) (hhd : ∀ k, rg (hd k)) : Ri l y_Hi_isNearer w_Hi_isNearer ({ frames := 0, cells := 0, slots := 0, locals := 0 }) D classes [(cI, .int), (cZ, .boolean), (cJ, .long)] [.ref o, .int (J z), .int (J y), .int (J ((i : Nat) : Int))] [(o, .inr (3, [.ref e0, .ref e1, .ref e2, .int (J mo), .int (J bd), .int (J ((n : Nat) : Int))])), (e1, ca cI 40 fs), (e2, ca cI 40 hd)] (b2 (nr fs hd z y i)) := by
  refine Ri_of (cc := b_Hi_isNearer) (maxL := 4) (by decide) rfl (Nat.le_of_ble_eq_true rfl) ?_
  intro p e s m args below meth c hx hb hr hml hts hown hlocks hP hK Q hQ H hH ls hl
  rw [← hH] at hP
  have hl : lv_has ls 4 [(0, .ref o), (1, .int (J z)), (2, .int (J y)), (3, .int (J ((i : Nat) : Int)))] := hl
  have f1 := hfs i
  have f2 := hhd i
  refine lv_iload_n hx hb d_Hi_isNearer_0 rfl (lv_at hl 1 rfl) ?_
  refine lv_aload_n hx hb d_Hi_isNearer_1 rfl (lv_at hl 0 rfl) ?_
  refine va_get (D := D) (ci := 3) (v := .ref e1) (C := R_Hi) (T := T_Hi) (N := 6) hx hb hts i_Hi hown hK hP 0 rfl rfl 1 (by decide) (hts _ mw_166) (fun _ h9 => h9) rfl d_Hi_isNearer_2 ?_
  refine lv_iload_n hx hb d_Hi_isNearer_5 rfl (lv_at hl 3 rfl) ?_
  refine w_iald hx hb hK hP 1 0 rfl rfl i (by omega) (by omega) (by omega) d_Hi_isNearer_6 ?_
  refine w_icmp_lt (tgt := 30) hx hb d_Hi_isNearer_7 (by decide) (by omega) (by omega) (fun c_7 => ?_) (fun c_7 => ?_)
  · refine lv_iconst (v := J (1)) hx hb d_Hi_isNearer_30 rfl ?_
    refine lv_goto (tgt := 35) hx hb d_Hi_isNearer_31 (by decide) ?_
    exact Ri_ret hx hb hr hlocks hQ hH d_Hi_isNearer_35 (nb_z (by omega)) (by unfold b2 nr; split <;> omega)
  · refine lv_iload_n hx hb d_Hi_isNearer_10 rfl (lv_at hl 1 rfl) ?_
    refine lv_aload_n hx hb d_Hi_isNearer_11 rfl (lv_at hl 0 rfl) ?_
    refine va_get (D := D) (ci := 3) (v := .ref e1) (C := R_Hi) (T := T_Hi) (N := 6) hx hb hts i_Hi hown hK hP 0 rfl rfl 1 (by decide) (hts _ mw_166) (fun _ h9 => h9) rfl d_Hi_isNearer_12 ?_
    refine lv_iload_n hx hb d_Hi_isNearer_15 rfl (lv_at hl 3 rfl) ?_
    refine w_iald hx hb hK hP 1 0 rfl rfl i (by omega) (by omega) (by omega) d_Hi_isNearer_16 ?_
    refine w_icmp_ne (tgt := 34) hx hb d_Hi_isNearer_17 (by decide) (by omega) (by omega) (fun c_17 => ?_) (fun c_17 => ?_)
    · refine lv_iconst (v := J (0)) hx hb d_Hi_isNearer_34 rfl ?_
      exact Ri_ret hx hb hr hlocks hQ hH d_Hi_isNearer_35 (nb_z (by omega)) (by unfold b2 nr; split <;> omega)
    · refine lv_iload_n hx hb d_Hi_isNearer_20 rfl (lv_at hl 2 rfl) ?_
      refine lv_aload_n hx hb d_Hi_isNearer_21 rfl (lv_at hl 0 rfl) ?_
      refine va_get (D := D) (ci := 3) (v := .ref e2) (C := R_Hi) (T := T_Hi) (N := 6) hx hb hts i_Hi hown hK hP 0 rfl rfl 2 (by decide) (hts _ mw_168) (fun _ h9 => h9) rfl d_Hi_isNearer_22 ?_
      refine lv_iload_n hx hb d_Hi_isNearer_25 rfl (lv_at hl 3 rfl) ?_
      refine w_iald hx hb hK hP 2 0 rfl rfl i (by omega) (by omega) (by omega) d_Hi_isNearer_26 ?_
      refine w_icmp_le (tgt := 34) hx hb d_Hi_isNearer_27 (by decide) (by omega) (by omega) (fun c_27 => ?_) (fun c_27 => ?_)
      · refine lv_iconst (v := J (0)) hx hb d_Hi_isNearer_34 rfl ?_
        exact Ri_ret hx hb hr hlocks hQ hH d_Hi_isNearer_35 (nb_z (by omega)) (by unfold b2 nr; split <;> omega)
      · refine lv_iconst (v := J (1)) hx hb d_Hi_isNearer_30 rfl ?_
        refine lv_goto (tgt := 35) hx hb d_Hi_isNearer_31 (by decide) ?_
        exact Ri_ret hx hb hr hlocks hQ hH d_Hi_isNearer_35 (nb_z (by omega)) (by unfold b2 nr; split <;> omega)
set_option maxHeartbeats 4000000 in
set_option maxRecDepth 100000 in
theorem c_Hi_copy (l : Launch) (D : va_G) (cI cZ cJ : ClassId) (sz : Nat) (o : Nat) (e0 : Nat) (e1 : Nat) (e2 : Nat) (mo : Int) (bd : Int) (n : Nat) (fe : Nat → Int) (fs : Nat → Int) (hd : Nat → Int) (i : Nat) (j : Nat) (hi : i < 40) (hj : j < 40) : Mv l y_Hi_copy w_Hi_copy ({ frames := 0, cells := 0, slots := 0, locals := 0 }) false D classes [(cI, .int), (cZ, .boolean), (cJ, .long)] sz [.ref o, .int (J ((i : Nat) : Int)), .int (J ((j : Nat) : Int))] [(o, .inr (3, [.ref e0, .ref e1, .ref e2, .int (J mo), .int (J bd), .int (J ((n : Nat) : Int))])), (e0, ca cI 40 fe), (e1, ca cI 40 fs), (e2, ca cI 40 hd)] (S := Unit) (fun _ => True) (fun u : Unit => [(o, .inr (3, [.ref e0, .ref e1, .ref e2, .int (J mo), .int (J bd), .int (J ((n : Nat) : Int))])), (e0, ca cI 40 (iu fe j (fe i))), (e1, ca cI 40 (iu fs j (fs i))), (e2, ca cI 40 (iu hd j (hd i)))]) 0 0 := by
  refine Mv_of (cc := b_Hi_copy) (maxL := 3) (by decide) rfl (Nat.le_of_ble_eq_true rfl) ?_
  intro p e s m args below meth c hx hb hr hml hts hown hlocks hin A hA hP hK hD hT hS Q hQ H hH ls hl
  subst hH
  have hl : lv_has ls 3 [(0, .ref o), (1, .int (J ((i : Nat) : Int))), (2, .int (J ((j : Nat) : Int)))] := hl
  refine lv_aload_n hx hb d_Hi_copy_0 rfl (lv_at hl 0 rfl) ?_
  refine va_get (D := D) (ci := 3) (v := .ref e0) (C := R_Hi) (T := T_Hi) (N := 6) hx hb hts i_Hi hown hK hP 0 rfl rfl 0 (by decide) (hts _ mw_164) (fun _ h9 => h9) rfl d_Hi_copy_1 ?_
  refine lv_iload_n hx hb d_Hi_copy_4 rfl (lv_at hl 2 rfl) ?_
  refine lv_aload_n hx hb d_Hi_copy_5 rfl (lv_at hl 0 rfl) ?_
  refine va_get (D := D) (ci := 3) (v := .ref e0) (C := R_Hi) (T := T_Hi) (N := 6) hx hb hts i_Hi hown hK hP 0 rfl rfl 0 (by decide) (hts _ mw_164) (fun _ h9 => h9) rfl d_Hi_copy_6 ?_
  refine lv_iload_n hx hb d_Hi_copy_9 rfl (lv_at hl 1 rfl) ?_
  refine w_iald hx hb hK hP 1 0 rfl rfl i (by omega) (by omega) (by omega) d_Hi_copy_10 ?_
  refine w_iast hx hb hK hP hD hS 1 0 rfl rfl j (by omega) (by omega) (by omega) d_Hi_copy_11 (fun H locs hP hD hS => ?_)
  have hP : va_P D classes [(o, .inr (3, [.ref e0, .ref e1, .ref e2, .int (J mo), .int (J bd), .int (J ((n : Nat) : Int))])), (e0, ca cI 40 (iu fe j (fe i))), (e1, ca cI 40 fs), (e2, ca cI 40 hd)] H := hP
  have hD : va_D A [(o, .inr (3, [.ref e0, .ref e1, .ref e2, .int (J mo), .int (J bd), .int (J ((n : Nat) : Int))])), (e0, ca cI 40 (iu fe j (fe i))), (e1, ca cI 40 fs), (e2, ca cI 40 hd)] := hD
  refine lv_aload_n hx hb d_Hi_copy_12 rfl (lv_at hl 0 rfl) ?_
  refine va_get (D := D) (ci := 3) (v := .ref e1) (C := R_Hi) (T := T_Hi) (N := 6) hx hb hts i_Hi hown hK hP 0 rfl rfl 1 (by decide) (hts _ mw_166) (fun _ h9 => h9) rfl d_Hi_copy_13 ?_
  refine lv_iload_n hx hb d_Hi_copy_16 rfl (lv_at hl 2 rfl) ?_
  refine lv_aload_n hx hb d_Hi_copy_17 rfl (lv_at hl 0 rfl) ?_
  refine va_get (D := D) (ci := 3) (v := .ref e1) (C := R_Hi) (T := T_Hi) (N := 6) hx hb hts i_Hi hown hK hP 0 rfl rfl 1 (by decide) (hts _ mw_166) (fun _ h9 => h9) rfl d_Hi_copy_18 ?_
  refine lv_iload_n hx hb d_Hi_copy_21 rfl (lv_at hl 1 rfl) ?_
  refine w_iald hx hb hK hP 2 0 rfl rfl i (by omega) (by omega) (by omega) d_Hi_copy_22 ?_
  refine w_iast hx hb hK hP hD hS 2 0 rfl rfl j (by omega) (by omega) (by omega) d_Hi_copy_23 (fun H locs hP hD hS => ?_)
  have hP : va_P D classes [(o, .inr (3, [.ref e0, .ref e1, .ref e2, .int (J mo), .int (J bd), .int (J ((n : Nat) : Int))])), (e0, ca cI 40 (iu fe j (fe i))), (e1, ca cI 40 (iu fs j (fs i))), (e2, ca cI 40 hd)] H := hP
  have hD : va_D A [(o, .inr (3, [.ref e0, .ref e1, .ref e2, .int (J mo), .int (J bd), .int (J ((n : Nat) : Int))])), (e0, ca cI 40 (iu fe j (fe i))), (e1, ca cI 40 (iu fs j (fs i))), (e2, ca cI 40 hd)] := hD
  refine lv_aload_n hx hb d_Hi_copy_24 rfl (lv_at hl 0 rfl) ?_
  refine va_get (D := D) (ci := 3) (v := .ref e2) (C := R_Hi) (T := T_Hi) (N := 6) hx hb hts i_Hi hown hK hP 0 rfl rfl 2 (by decide) (hts _ mw_168) (fun _ h9 => h9) rfl d_Hi_copy_25 ?_
  refine lv_iload_n hx hb d_Hi_copy_28 rfl (lv_at hl 2 rfl) ?_
  refine lv_aload_n hx hb d_Hi_copy_29 rfl (lv_at hl 0 rfl) ?_
  refine va_get (D := D) (ci := 3) (v := .ref e2) (C := R_Hi) (T := T_Hi) (N := 6) hx hb hts i_Hi hown hK hP 0 rfl rfl 2 (by decide) (hts _ mw_168) (fun _ h9 => h9) rfl d_Hi_copy_30 ?_
  refine lv_iload_n hx hb d_Hi_copy_33 rfl (lv_at hl 1 rfl) ?_
  refine w_iald hx hb hK hP 3 0 rfl rfl i (by omega) (by omega) (by omega) d_Hi_copy_34 ?_
  refine w_iast hx hb hK hP hD hS 3 0 rfl rfl j (by omega) (by omega) (by omega) d_Hi_copy_35 (fun H locs hP hD hS => ?_)
  have hP : va_P D classes [(o, .inr (3, [.ref e0, .ref e1, .ref e2, .int (J mo), .int (J bd), .int (J ((n : Nat) : Int))])), (e0, ca cI 40 (iu fe j (fe i))), (e1, ca cI 40 (iu fs j (fs i))), (e2, ca cI 40 (iu hd j (hd i)))] H := hP
  have hD : va_D A [(o, .inr (3, [.ref e0, .ref e1, .ref e2, .int (J mo), .int (J bd), .int (J ((n : Nat) : Int))])), (e0, ca cI 40 (iu fe j (fe i))), (e1, ca cI 40 (iu fs j (fs i))), (e2, ca cI 40 (iu hd j (hd i)))] := hD
  exact Mv_ret hx hb hr hlocks hQ d_Hi_copy_36 hP hK hD hS () (trivial) [0, 1, 2, 3] rfl (by decide)
end
section
theorem sd_rg (j : Nat) : 0 ≤ sd j ∧ sd j ≤ 13 := by
  by_cases h : j < 26
  · have : ∀ j, j < 26 → 0 ≤ sd j ∧ sd j ≤ 13 := by decide
    exact this j h
  · unfold sd
    rw [List.getD_eq_getElem?_getD, List.getElem?_eq_none (by simpa using h)]
    decide
theorem w_ti {p : Program} {l : Launch} {e : Env} {R : Room} {s : State} {m : MethodId} {args : Array Value} {below : List Frame} {meth : Method} {c : Code} {H : Heap} {locs : List Loc} {cells slots : Nat} {Q : State → Prop} {cc : ByteArray} {pc : Nat} {ls : Array Slot} {rest : List Value} {A : Nat → Prop} {t : Nat}
    (hexec : p.tables.exec = Jvm.exec) (hb : c.code = cc) (hT : va_T .int t 26 (fun j => .int (J (sd j))) A s s.heap) (hS : va_S A s.heap H locs) (k : Nat) {z : Int} (hz : z = (k : Int)) (hk : k < 26) (hdg : decode cc pc = .ok (.iaload, 1))
    (kk : W p l e R s m args below meth c H locs cells slots Q (F0 m (pc + 1) ls (.int (J (sd k)) :: rest))) : W p l e R s m args below meth c H locs cells slots Q (F0 m pc ls (.int (J z) :: .ref t :: rest)) := by
  subst hz
  refine va_ti (v := .int (J (sd k))) hexec hb hT hS (J_in hk (by decide)) ?_ hdg kk
  rw [J_cl (by omega)]
/-- f below i, g from there on -/
def rwl (f g : Nat → Int) (i : Nat) : Nat → Int := fun j => if j < i then f j else g j
theorem rwl_0 (f g : Nat → Int) : rwl f g 0 = g := by funext k; unfold rwl; rw [if_neg (by omega)]
theorem rwl_lt (f g : Nat → Int) {i j : Nat} (h : j < i) : rwl f g i j = f j := if_pos h
theorem rwl_ge (f g : Nat → Int) {i j : Nat} (h : i ≤ j) : rwl f g i j = g j := if_neg (by omega)
theorem rwl_s (f g : Nat → Int) (i : Nat) : iu (rwl f g i) i (f i) = rwl f g (i + 1) := by
  funext k
  by_cases h : k = i
  · subst h; rw [iu_s, rwl_lt _ _ (by omega)]
  · rw [iu_n _ _ h]
    by_cases q : k < i
    · rw [rwl_lt _ _ q, rwl_lt _ _ (by omega)]
    · rw [rwl_ge _ _ (by omega), rwl_ge _ _ (by omega)]
theorem rwl_1 (f g : Nat → Int) {v : Int} (h : v = f 0) : iu g 0 v = rwl f g 1 := by
  rw [h, ← rwl_s, rwl_0]
theorem edr_eq {wt : Nat → Int} {a : Int} {v pr pr' : Nat → Int} {m : Nat} (h : ∀ j, j ≤ m → pr j = pr' j) : ∀ j, j ≤ m → edr wt a v pr j = edr wt a v pr' j
  | 0, _ => by rw [edr, edr, h 0 (by omega)]
  | j + 1, hj => by rw [edr, edr, h j (by omega), h (j + 1) hj, edr_eq h j (by omega)]
theorem rwl_ed (wt : Nat → Int) (x v r : Nat → Int) (i m : Nat) : rwl (edr wt (x i) v (rwl (ed wt x v i) r (m + 1))) (rwl (ed wt x v i) r (m + 1)) (m + 1) = rwl (ed wt x v (i + 1)) r (m + 1) := by
  funext j
  by_cases h : j < m + 1
  · rw [rwl_lt _ _ h, rwl_lt _ _ h]
    exact edr_eq (m := m) (fun q hq => rwl_lt _ _ (by omega)) j (by omega)
  · rw [rwl_ge _ _ (by omega), rwl_ge _ _ (by omega), rwl_ge _ _ (by omega)]
set_option maxHeartbeats 4000000 in
set_option maxRecDepth 100000 in
theorem c_Hi_offer_no (l : Launch) (D : va_G) (cI cZ cJ : ClassId) (sz : Nat) (o : Nat) (e0 : Nat) (e1 : Nat) (e2 : Nat) (bd : Int) (n : Nat) (k : Nat) (fe : Nat → Int) (fs : Nat → Int) (hd : Nat → Int) (en : Int) (z : Int) (y : Int) (q : Nat) (hz : rg z) (hy : rg y) (hbd : rg bd) (hfs : ∀ k, rg (fs k)) (hhd : ∀ k, rg (hd k)) (hnk : n ≤ k) (hk : 1 ≤ k ∧ k ≤ 40) (hqn : psn fs hd z y n = q) (hno : bd < z ∨ k ≤ q) : Mv l y_Hi_offer w_Hi_offer ({ frames := 1, cells := 0, slots := 0, locals := 23 }) false D classes [(cI, .int), (cZ, .boolean), (cJ, .long)] sz [.ref o, .int (J en), .int (J z), .int (J y)] [(o, .inr (3, [.ref e0, .ref e1, .ref e2, .int (J ((k : Nat) : Int)), .int (J bd), .int (J ((n : Nat) : Int))])), (e0, ca cI 40 fe), (e1, ca cI 40 fs), (e2, ca cI 40 hd)] (S := Unit) (fun _ => True) (fun u : Unit => [(o, .inr (3, [.ref e0, .ref e1, .ref e2, .int (J ((k : Nat) : Int)), .int (J bd), .int (J ((n : Nat) : Int))])), (e0, ca cI 40 fe), (e1, ca cI 40 fs), (e2, ca cI 40 hd)]) 0 0 := by
  refine Mv_of (cc := b_Hi_offer) (maxL := 6) (by decide) rfl (Nat.le_of_ble_eq_true rfl) ?_
  intro p e s m args below meth c hx hb hr hml hts hown hlocks hin A hA hP hK hD hT hS Q hQ H hH ls hl
  subst hH
  have hl : lv_has ls 6 [(0, .ref o), (1, .int (J en)), (2, .int (J z)), (3, .int (J y))] := hl
  have q1 := psn_le fs hd z y n
  refine lv_iload_n hx hb d_Hi_offer_0 rfl (lv_at hl 2 rfl) ?_
  refine lv_aload_n hx hb d_Hi_offer_1 rfl (lv_at hl 0 rfl) ?_
  refine va_get (D := D) (ci := 3) (v := .int (J bd)) (C := R_Hi) (T := T_Hi) (N := 6) hx hb hts i_Hi hown hK hP 0 rfl rfl 4 (by decide) (hts _ mw_170) (fun _ h9 => h9) rfl d_Hi_offer_2 ?_
  refine w_icmp_le (tgt := 9) hx hb d_Hi_offer_5 (by decide) (by omega) (by omega) (fun c_5 => ?_) (fun c_5 => ?_)
  · refine lv_aload_n hx hb d_Hi_offer_9 rfl (lv_at hl 0 rfl) ?_
    refine va_get (D := D) (ci := 3) (v := .int (J ((n : Nat) : Int))) (C := R_Hi) (T := T_Hi) (N := 6) hx hb hts i_Hi hown hK hP 0 rfl rfl 5 (by decide) (hts _ mw_171) (fun _ h9 => h9) rfl d_Hi_offer_10 ?_
    refine lv_istore (lv' := [(4, .int (J ((n : Nat) : Int))), (0, .ref o), (1, .int (J en)), (2, .int (J z)), (3, .int (J y))]) hx hb d_Hi_offer_13 hl (by decide) rfl (fun ls hl => ?_)
    have lp_15 : ∀ (fu : Nat) (j : Nat), (j ≤ n) → (psn fs hd z y n = psn fs hd z y j) → j < fu → ∀ (H : Heap) (locs : List Loc), va_P D classes [(o, .inr (3, [.ref e0, .ref e1, .ref e2, .int (J ((k : Nat) : Int)), .int (J bd), .int (J ((n : Nat) : Int))])), (e0, ca cI 40 fe), (e1, ca cI 40 fs), (e2, ca cI 40 hd)] H → va_D A [(o, .inr (3, [.ref e0, .ref e1, .ref e2, .int (J ((k : Nat) : Int)), .int (J bd), .int (J ((n : Nat) : Int))])), (e0, ca cI 40 fe), (e1, ca cI 40 fs), (e2, ca cI 40 hd)] → va_S A s.heap H locs → ∀ ls : Array Slot, lv_has ls 6 [(0, .ref o), (1, .int (J en)), (2, .int (J z)), (3, .int (J y)), (4, .int (J ((j : Nat) : Int)))] → W p l e ({ frames := 1, cells := 0, slots := 0, locals := 23 }) s m args below meth c H locs 0 0 Q (F0 m 15 ls []) := by
      intro fu
      induction fu with
      | zero => intro j hj hps hfu; exact absurd hfu (Nat.not_lt_zero _)
      | succ fu ih_15 =>
        intro j hj hps hfu H locs hP hD hS ls hl
        refine lv_iload hx hb d_Hi_offer_15 (lv_at hl 4 rfl) ?_
        refine w_if_le (tgt := 39) hx hb d_Hi_offer_17 (by decide) (by omega) (fun c_17 => ?_) (fun c_17 => ?_)
        · obtain rfl : q = j := by rw [← hqn, hps, show j = 0 by omega]; rfl
          refine lv_iload hx hb d_Hi_offer_39 (lv_at hl 4 rfl) ?_
          refine lv_aload_n hx hb d_Hi_offer_41 rfl (lv_at hl 0 rfl) ?_
          refine va_get (D := D) (ci := 3) (v := .int (J ((k : Nat) : Int))) (C := R_Hi) (T := T_Hi) (N := 6) hx hb hts i_Hi hown hK hP 0 rfl rfl 3 (by decide) (hts _ mw_169) (fun _ h9 => h9) rfl d_Hi_offer_42 ?_
          refine w_icmp_lt (tgt := 49) hx hb d_Hi_offer_45 (by decide) (by omega) (by omega) (fun c_45 => ?_) (fun c_45 => ?_)
          · exfalso; omega
          · exact Mv_ret hx hb hr hlocks hQ d_Hi_offer_48 hP hK hD hS () (trivial) [0, 1, 2, 3] rfl (by decide)
        · obtain ⟨i, rfl⟩ : ∃ i : Nat, j = i + 1 := ⟨j - 1, by omega⟩
          refine lv_aload_n hx hb d_Hi_offer_20 rfl (lv_at hl 0 rfl) ?_
          refine lv_iload_n hx hb d_Hi_offer_21 rfl (lv_at hl 2 rfl) ?_
          refine lv_iload_n hx hb d_Hi_offer_22 rfl (lv_at hl 3 rfl) ?_
          refine lv_iload hx hb d_Hi_offer_23 (lv_at hl 4 rfl) ?_
          refine lv_iconst (v := J (1)) hx hb d_Hi_offer_25 rfl ?_
          refine w_isub hx hb d_Hi_offer_26 ((i : Nat) : Int) (by omega) ?_
          refine Ri_call (va_runV (As := [.int (J z), .int (J y), .int (J ((i : Nat) : Int))]) (rest := []) ⟨hx, hb, hml, hown, hts⟩ (c_Hi_isNearer l D cI cZ cJ o e0 e1 e2 ((k : Nat) : Int) bd n fs hd z y i (by first | assumption | omega) (by first | assumption | omega) (by first | assumption | omega) (by first | assumption | omega) (by first | assumption | omega)) (cwV 3 hts (g_V mw_408 mw_410 mw_7 mw_32 mw_411) rfl rfl rfl (by decide +kernel) ⟨Nat.le_of_ble_eq_true rfl, Nat.le_of_ble_eq_true rfl⟩) (pre_RV hP hK [0, 2, 3] rfl 3 0 rfl rfl) rfl rfl hl.1 rfl (lv_room (Nat.le_of_ble_eq_true rfl)) d_Hi_offer_27 ⟨Nat.le_of_ble_eq_true rfl, Nat.le_of_ble_eq_true rfl⟩) ?_
          refine w_if_eq (tgt := 39) hx hb d_Hi_offer_30 (by decide) (rg_b2) (fun c_30 => ?_) (fun c_30 => ?_)
          · have c_30 := b2_0.mp c_30
            have e9 : q = i + 1 := by rw [← hqn, hps, psn, if_neg c_30]
            rw [← e9] at hl
            refine lv_iload hx hb d_Hi_offer_39 (lv_at hl 4 rfl) ?_
            refine lv_aload_n hx hb d_Hi_offer_41 rfl (lv_at hl 0 rfl) ?_
            refine va_get (D := D) (ci := 3) (v := .int (J ((k : Nat) : Int))) (C := R_Hi) (T := T_Hi) (N := 6) hx hb hts i_Hi hown hK hP 0 rfl rfl 3 (by decide) (hts _ mw_169) (fun _ h9 => h9) rfl d_Hi_offer_42 ?_
            refine w_icmp_lt (tgt := 49) hx hb d_Hi_offer_45 (by decide) (by omega) (by omega) (fun c_45 => ?_) (fun c_45 => ?_)
            · exfalso; omega
            · exact Mv_ret hx hb hr hlocks hQ d_Hi_offer_48 hP hK hD hS () (trivial) [0, 1, 2, 3] rfl (by decide)
          · have c_30 := b2_n0.mp c_30
            refine w_iinc (k := 4) (lv' := [(4, .int (J ((i : Nat) : Int))), (0, .ref o), (1, .int (J en)), (2, .int (J z)), (3, .int (J y))]) hx hb d_Hi_offer_33 hl rfl ((i : Nat) : Int) (by omega) (by decide) rfl (fun ls hl => ?_)
            refine lv_goto (tgt := 15) hx hb d_Hi_offer_36 (by decide) ?_
            exact ih_15 i (by omega) (by rw [hps, psn, if_pos c_30]) (by omega) _ _ (P_map hP [0, 1, 2, 3] rfl) (hD.sub [0, 1, 2, 3] (by decide) rfl) hS ls (lv_sub hl [1, 2, 3, 4, 0] rfl)
    exact lp_15 (n + 1) n (by omega) (rfl) (Nat.lt_succ_self _) _ _ (P_map hP [0, 1, 2, 3] rfl) (hD.sub [0, 1, 2, 3] (by decide) rfl) hS ls (lv_sub hl [1, 2, 3, 4, 0] rfl)
  · exact Mv_ret hx hb hr hlocks hQ d_Hi_offer_8 hP hK hD hS () (trivial) [0, 1, 2, 3] rfl (by decide)
set_option maxHeartbeats 4000000 in
set_option maxRecDepth 100000 in
theorem c_Hi_offer_lt (l : Launch) (D : va_G) (cI cZ cJ : ClassId) (sz : Nat) (o : Nat) (e0 : Nat) (e1 : Nat) (e2 : Nat) (bd : Int) (n : Nat) (k : Nat) (fe : Nat → Int) (fs : Nat → Int) (hd : Nat → Int) (en : Int) (z : Int) (y : Int) (q : Nat) (hz : rg z) (hy : rg y) (hbd : rg bd) (hfs : ∀ k, rg (fs k)) (hhd : ∀ k, rg (hd k)) (hnk : n ≤ k) (hk : 1 ≤ k ∧ k ≤ 40) (hqn : psn fs hd z y n = q) (hyes : z ≤ bd ∧ q < k ∧ n < k) : Mv l y_Hi_offer w_Hi_offer ({ frames := 1, cells := 0, slots := 0, locals := 23 }) false D classes [(cI, .int), (cZ, .boolean), (cJ, .long)] sz [.ref o, .int (J en), .int (J z), .int (J y)] [(o, .inr (3, [.ref e0, .ref e1, .ref e2, .int (J ((k : Nat) : Int)), .int (J bd), .int (J ((n : Nat) : Int))])), (e0, ca cI 40 fe), (e1, ca cI 40 fs), (e2, ca cI 40 hd)] (S := Unit) (fun _ => True) (fun u : Unit => [(o, .inr (3, [.ref e0, .ref e1, .ref e2, .int (J ((k : Nat) : Int)), .int (J bd), .int (J ((n + 1 : Nat) : Int))])), (e0, ca cI 40 (ins fe q (n + 1) en)), (e1, ca cI 40 (ins fs q (n + 1) z)), (e2, ca cI 40 (ins hd q (n + 1) y))]) 0 0 := by
  refine Mv_of (cc := b_Hi_offer) (maxL := 6) (by decide) rfl (Nat.le_of_ble_eq_true rfl) ?_
  intro p e s m args below meth c hx hb hr hml hts hown hlocks hin A hA hP hK hD hT hS Q hQ H hH ls hl
  subst hH
  have hl : lv_has ls 6 [(0, .ref o), (1, .int (J en)), (2, .int (J z)), (3, .int (J y))] := hl
  have q1 := psn_le fs hd z y n
  refine lv_iload_n hx hb d_Hi_offer_0 rfl (lv_at hl 2 rfl) ?_
  refine lv_aload_n hx hb d_Hi_offer_1 rfl (lv_at hl 0 rfl) ?_
  refine va_get (D := D) (ci := 3) (v := .int (J bd)) (C := R_Hi) (T := T_Hi) (N := 6) hx hb hts i_Hi hown hK hP 0 rfl rfl 4 (by decide) (hts _ mw_170) (fun _ h9 => h9) rfl d_Hi_offer_2 ?_
  refine w_icmp_le (tgt := 9) hx hb d_Hi_offer_5 (by decide) (by omega) (by omega) (fun c_5 => ?_) (fun c_5 => ?_)
  · refine lv_aload_n hx hb d_Hi_offer_9 rfl (lv_at hl 0 rfl) ?_
    refine va_get (D := D) (ci := 3) (v := .int (J ((n : Nat) : Int))) (C := R_Hi) (T := T_Hi) (N := 6) hx hb hts i_Hi hown hK hP 0 rfl rfl 5 (by decide) (hts _ mw_171) (fun _ h9 => h9) rfl d_Hi_offer_10 ?_
    refine lv_istore (lv' := [(4, .int (J ((n : Nat) : Int))), (0, .ref o), (1, .int (J en)), (2, .int (J z)), (3, .int (J y))]) hx hb d_Hi_offer_13 hl (by decide) rfl (fun ls hl => ?_)
    have lp_15 : ∀ (fu : Nat) (j : Nat), (j ≤ n) → (psn fs hd z y n = psn fs hd z y j) → j < fu → ∀ (H : Heap) (locs : List Loc), va_P D classes [(o, .inr (3, [.ref e0, .ref e1, .ref e2, .int (J ((k : Nat) : Int)), .int (J bd), .int (J ((n : Nat) : Int))])), (e0, ca cI 40 fe), (e1, ca cI 40 fs), (e2, ca cI 40 hd)] H → va_D A [(o, .inr (3, [.ref e0, .ref e1, .ref e2, .int (J ((k : Nat) : Int)), .int (J bd), .int (J ((n : Nat) : Int))])), (e0, ca cI 40 fe), (e1, ca cI 40 fs), (e2, ca cI 40 hd)] → va_S A s.heap H locs → ∀ ls : Array Slot, lv_has ls 6 [(0, .ref o), (1, .int (J en)), (2, .int (J z)), (3, .int (J y)), (4, .int (J ((j : Nat) : Int)))] → W p l e ({ frames := 1, cells := 0, slots := 0, locals := 23 }) s m args below meth c H locs 0 0 Q (F0 m 15 ls []) := by
      intro fu
      induction fu with
      | zero => intro j hj hps hfu; exact absurd hfu (Nat.not_lt_zero _)
      | succ fu ih_15 =>
        intro j hj hps hfu H locs hP hD hS ls hl
        refine lv_iload hx hb d_Hi_offer_15 (lv_at hl 4 rfl) ?_
        refine w_if_le (tgt := 39) hx hb d_Hi_offer_17 (by decide) (by omega) (fun c_17 => ?_) (fun c_17 => ?_)
        · obtain rfl : q = j := by rw [← hqn, hps, show j = 0 by omega]; rfl
          refine lv_iload hx hb d_Hi_offer_39 (lv_at hl 4 rfl) ?_
          refine lv_aload_n hx hb d_Hi_offer_41 rfl (lv_at hl 0 rfl) ?_
          refine va_get (D := D) (ci := 3) (v := .int (J ((k : Nat) : Int))) (C := R_Hi) (T := T_Hi) (N := 6) hx hb hts i_Hi hown hK hP 0 rfl rfl 3 (by decide) (hts _ mw_169) (fun _ h9 => h9) rfl d_Hi_offer_42 ?_
          refine w_icmp_lt (tgt := 49) hx hb d_Hi_offer_45 (by decide) (by omega) (by omega) (fun c_45 => ?_) (fun c_45 => ?_)
          · refine lv_aload_n hx hb d_Hi_offer_49 rfl (lv_at hl 0 rfl) ?_
            refine va_get (D := D) (ci := 3) (v := .int (J ((n : Nat) : Int))) (C := R_Hi) (T := T_Hi) (N := 6) hx hb hts i_Hi hown hK hP 0 rfl rfl 5 (by decide) (hts _ mw_171) (fun _ h9 => h9) rfl d_Hi_offer_50 ?_
            refine lv_aload_n hx hb d_Hi_offer_53 rfl (lv_at hl 0 rfl) ?_
            refine va_get (D := D) (ci := 3) (v := .int (J ((k : Nat) : Int))) (C := R_Hi) (T := T_Hi) (N := 6) hx hb hts i_Hi hown hK hP 0 rfl rfl 3 (by decide) (hts _ mw_169) (fun _ h9 => h9) rfl d_Hi_offer_54 ?_
            refine w_icmp_ge (tgt := 70) hx hb d_Hi_offer_57 (by decide) (by omega) (by omega) (fun c_57 => ?_) (fun c_57 => ?_)
            · exfalso; omega
            · refine lv_aload_n hx hb d_Hi_offer_60 rfl (lv_at hl 0 rfl) ?_
              refine lv_dup hx hb d_Hi_offer_61 rfl ?_
              refine va_get (D := D) (ci := 3) (v := .int (J ((n : Nat) : Int))) (C := R_Hi) (T := T_Hi) (N := 6) hx hb hts i_Hi hown hK hP 0 rfl rfl 5 (by decide) (hts _ mw_171) (fun _ h9 => h9) rfl d_Hi_offer_62 ?_
              refine lv_iconst (v := J (1)) hx hb d_Hi_offer_65 rfl ?_
              refine w_iadd hx hb d_Hi_offer_66 ((n + 1 : Nat) : Int) (by omega) ?_
              refine va_put (D := D) (ci := 3) (v := .int (J ((n + 1 : Nat) : Int))) (ty := .int) (C := R_Hi) (T := T_Hi) (N := 6) hx hb hts i_Hi t_Hi k_Hi n_Hi hown hK hP hD hS 0 rfl rfl 5 (by decide) (hts _ mw_171) (fun _ h9 => h9) rfl (by decide +kernel) rfl rfl (Nat.le_of_ble_eq_true rfl) d_Hi_offer_67 (fun H locs hP hD hS => ?_)
              have hP : va_P D classes [(o, .inr (3, [.ref e0, .ref e1, .ref e2, .int (J ((k : Nat) : Int)), .int (J bd), .int (J ((n + 1 : Nat) : Int))])), (e0, ca cI 40 fe), (e1, ca cI 40 fs), (e2, ca cI 40 hd)] H := hP
              have hD : va_D A [(o, .inr (3, [.ref e0, .ref e1, .ref e2, .int (J ((k : Nat) : Int)), .int (J bd), .int (J ((n + 1 : Nat) : Int))])), (e0, ca cI 40 fe), (e1, ca cI 40 fs), (e2, ca cI 40 hd)] := hD
              refine lv_aload_n hx hb d_Hi_offer_70 rfl (lv_at hl 0 rfl) ?_
              refine va_get (D := D) (ci := 3) (v := .int (J ((n + 1 : Nat) : Int))) (C := R_Hi) (T := T_Hi) (N := 6) hx hb hts i_Hi hown hK hP 0 rfl rfl 5 (by decide) (hts _ mw_171) (fun _ h9 => h9) rfl d_Hi_offer_71 ?_
              refine lv_iconst (v := J (1)) hx hb d_Hi_offer_74 rfl ?_
              refine w_isub hx hb d_Hi_offer_75 ((n : Nat) : Int) (by omega) ?_
              refine lv_istore (lv' := [(5, .int (J ((n : Nat) : Int))), (0, .ref o), (1, .int (J en)), (2, .int (J z)), (3, .int (J y)), (4, .int (J ((q : Nat) : Int)))]) hx hb d_Hi_offer_76 hl (by decide) rfl (fun ls hl => ?_)
              have lp_78 : ∀ (fu : Nat) (j : Nat), (q ≤ j) → (j < n + 1) → (j - q) < fu → ∀ (H : Heap) (locs : List Loc), va_P D classes [(o, .inr (3, [.ref e0, .ref e1, .ref e2, .int (J ((k : Nat) : Int)), .int (J bd), .int (J ((n + 1 : Nat) : Int))])), (e0, ca cI 40 (mvd fe j (n + 1))), (e1, ca cI 40 (mvd fs j (n + 1))), (e2, ca cI 40 (mvd hd j (n + 1)))] H → va_D A [(o, .inr (3, [.ref e0, .ref e1, .ref e2, .int (J ((k : Nat) : Int)), .int (J bd), .int (J ((n + 1 : Nat) : Int))])), (e0, ca cI 40 (mvd fe j (n + 1))), (e1, ca cI 40 (mvd fs j (n + 1))), (e2, ca cI 40 (mvd hd j (n + 1)))] → va_S A s.heap H locs → ∀ ls : Array Slot, lv_has ls 6 [(0, .ref o), (1, .int (J en)), (2, .int (J z)), (3, .int (J y)), (4, .int (J ((q : Nat) : Int))), (5, .int (J ((j : Nat) : Int)))] → W p l e ({ frames := 1, cells := 0, slots := 0, locals := 23 }) s m args below meth c H locs 0 0 Q (F0 m 78 ls []) := by
                intro fu
                induction fu with
                | zero => intro j hj hj2 hfu; exact absurd hfu (Nat.not_lt_zero _)
                | succ fu ih_78 =>
                  intro j hj hj2 hfu H locs hP hD hS ls hl
                  refine lv_iload hx hb d_Hi_offer_78 (lv_at hl 5 rfl) ?_
                  refine lv_iload hx hb d_Hi_offer_80 (lv_at hl 4 rfl) ?_
                  refine w_icmp_le (tgt := 101) hx hb d_Hi_offer_82 (by decide) (by omega) (by omega) (fun c_82 => ?_) (fun c_82 => ?_)
                  · obtain rfl : q = j := by omega
                    refine lv_aload_n hx hb d_Hi_offer_101 rfl (lv_at hl 0 rfl) ?_
                    refine va_get (D := D) (ci := 3) (v := .ref e0) (C := R_Hi) (T := T_Hi) (N := 6) hx hb hts i_Hi hown hK hP 0 rfl rfl 0 (by decide) (hts _ mw_164) (fun _ h9 => h9) rfl d_Hi_offer_102 ?_
                    refine lv_iload hx hb d_Hi_offer_105 (lv_at hl 4 rfl) ?_
                    refine lv_iload_n hx hb d_Hi_offer_107 rfl (lv_at hl 1 rfl) ?_
                    refine w_iast hx hb hK hP hD hS 1 0 rfl rfl q (by omega) (by omega) (by omega) d_Hi_offer_108 (fun H locs hP hD hS => ?_)
                    have hP : va_P D classes [(o, .inr (3, [.ref e0, .ref e1, .ref e2, .int (J ((k : Nat) : Int)), .int (J bd), .int (J ((n + 1 : Nat) : Int))])), (e0, ca cI 40 (iu (mvd fe q (n + 1)) q en)), (e1, ca cI 40 (mvd fs q (n + 1))), (e2, ca cI 40 (mvd hd q (n + 1)))] H := hP
                    have hD : va_D A [(o, .inr (3, [.ref e0, .ref e1, .ref e2, .int (J ((k : Nat) : Int)), .int (J bd), .int (J ((n + 1 : Nat) : Int))])), (e0, ca cI 40 (iu (mvd fe q (n + 1)) q en)), (e1, ca cI 40 (mvd fs q (n + 1))), (e2, ca cI 40 (mvd hd q (n + 1)))] := hD
                    have eg : iu (mvd fe q (n + 1)) q en = ins fe q (n + 1) en := mvd_e fe (by omega) en
                    rw [eg] at hP hD
                    clear eg
                    refine lv_aload_n hx hb d_Hi_offer_109 rfl (lv_at hl 0 rfl) ?_
                    refine va_get (D := D) (ci := 3) (v := .ref e1) (C := R_Hi) (T := T_Hi) (N := 6) hx hb hts i_Hi hown hK hP 0 rfl rfl 1 (by decide) (hts _ mw_166) (fun _ h9 => h9) rfl d_Hi_offer_110 ?_
                    refine lv_iload hx hb d_Hi_offer_113 (lv_at hl 4 rfl) ?_
                    refine lv_iload_n hx hb d_Hi_offer_115 rfl (lv_at hl 2 rfl) ?_
                    refine w_iast hx hb hK hP hD hS 2 0 rfl rfl q (by omega) (by omega) (by omega) d_Hi_offer_116 (fun H locs hP hD hS => ?_)
                    have hP : va_P D classes [(o, .inr (3, [.ref e0, .ref e1, .ref e2, .int (J ((k : Nat) : Int)), .int (J bd), .int (J ((n + 1 : Nat) : Int))])), (e0, ca cI 40 (ins fe q (n + 1) en)), (e1, ca cI 40 (iu (mvd fs q (n + 1)) q z)), (e2, ca cI 40 (mvd hd q (n + 1)))] H := hP
                    have hD : va_D A [(o, .inr (3, [.ref e0, .ref e1, .ref e2, .int (J ((k : Nat) : Int)), .int (J bd), .int (J ((n + 1 : Nat) : Int))])), (e0, ca cI 40 (ins fe q (n + 1) en)), (e1, ca cI 40 (iu (mvd fs q (n + 1)) q z)), (e2, ca cI 40 (mvd hd q (n + 1)))] := hD
                    have eg : iu (mvd fs q (n + 1)) q z = ins fs q (n + 1) z := mvd_e fs (by omega) z
                    rw [eg] at hP hD
                    clear eg
                    refine lv_aload_n hx hb d_Hi_offer_117 rfl (lv_at hl 0 rfl) ?_
                    refine va_get (D := D) (ci := 3) (v := .ref e2) (C := R_Hi) (T := T_Hi) (N := 6) hx hb hts i_Hi hown hK hP 0 rfl rfl 2 (by decide) (hts _ mw_168) (fun _ h9 => h9) rfl d_Hi_offer_118 ?_
                    refine lv_iload hx hb d_Hi_offer_121 (lv_at hl 4 rfl) ?_
                    refine lv_iload_n hx hb d_Hi_offer_123 rfl (lv_at hl 3 rfl) ?_
                    refine w_iast hx hb hK hP hD hS 3 0 rfl rfl q (by omega) (by omega) (by omega) d_Hi_offer_124 (fun H locs hP hD hS => ?_)
                    have hP : va_P D classes [(o, .inr (3, [.ref e0, .ref e1, .ref e2, .int (J ((k : Nat) : Int)), .int (J bd), .int (J ((n + 1 : Nat) : Int))])), (e0, ca cI 40 (ins fe q (n + 1) en)), (e1, ca cI 40 (ins fs q (n + 1) z)), (e2, ca cI 40 (iu (mvd hd q (n + 1)) q y))] H := hP
                    have hD : va_D A [(o, .inr (3, [.ref e0, .ref e1, .ref e2, .int (J ((k : Nat) : Int)), .int (J bd), .int (J ((n + 1 : Nat) : Int))])), (e0, ca cI 40 (ins fe q (n + 1) en)), (e1, ca cI 40 (ins fs q (n + 1) z)), (e2, ca cI 40 (iu (mvd hd q (n + 1)) q y))] := hD
                    have eg : iu (mvd hd q (n + 1)) q y = ins hd q (n + 1) y := mvd_e hd (by omega) y
                    rw [eg] at hP hD
                    clear eg
                    exact Mv_ret hx hb hr hlocks hQ d_Hi_offer_125 hP hK hD hS () (trivial) [0, 1, 2, 3] rfl (by decide)
                  · obtain ⟨i, rfl⟩ : ∃ i : Nat, j = i + 1 := ⟨j - 1, by omega⟩
                    refine lv_aload_n hx hb d_Hi_offer_85 rfl (lv_at hl 0 rfl) ?_
                    refine lv_iload hx hb d_Hi_offer_86 (lv_at hl 5 rfl) ?_
                    refine lv_iconst (v := J (1)) hx hb d_Hi_offer_88 rfl ?_
                    refine w_isub hx hb d_Hi_offer_89 ((i : Nat) : Int) (by omega) ?_
                    refine lv_iload hx hb d_Hi_offer_90 (lv_at hl 5 rfl) ?_
                    refine Mv_call (wr := []) (va_runV (As := [.int (J ((i : Nat) : Int)), .int (J ((i + 1 : Nat) : Int))]) (rest := []) ⟨hx, hb, hml, hown, hts⟩ (c_Hi_copy l D cI cZ cJ H.size o e0 e1 e2 ((k : Nat) : Int) bd (n + 1) (mvd fe (i + 1) (n + 1)) (mvd fs (i + 1) (n + 1)) (mvd hd (i + 1) (n + 1)) i (i + 1) (by first | assumption | omega) (by first | assumption | omega)) (cwV 2 hts (g_V mw_412 mw_414 mw_8 mw_32 mw_415) rfl rfl rfl (by decide +kernel) ⟨Nat.le_of_ble_eq_true rfl, Nat.le_of_ble_eq_true rfl⟩) (pre_WV hP hK hD [0, 1, 2, 3] rfl (by decide) 3 0 rfl rfl (fun h => Bool.noConfusion h)) rfl rfl hl.1 rfl (lv_room (Nat.le_of_ble_eq_true rfl)) d_Hi_offer_92 ⟨Nat.le_of_ble_eq_true rfl, Nat.le_of_ble_eq_true rfl⟩) hP hD hS hA [0, 1, 2, 3] [] rfl rfl (by decide) (by decide) (fun _u H locs _hu hP hD hS => ?_)
                    have hP : va_P D classes [(o, .inr (3, [.ref e0, .ref e1, .ref e2, .int (J ((k : Nat) : Int)), .int (J bd), .int (J (((n + 1) : Nat) : Int))])), (e0, ca cI 40 (iu (mvd fe (i + 1) (n + 1)) (i + 1) ((mvd fe (i + 1) (n + 1)) i))), (e1, ca cI 40 (iu (mvd fs (i + 1) (n + 1)) (i + 1) ((mvd fs (i + 1) (n + 1)) i))), (e2, ca cI 40 (iu (mvd hd (i + 1) (n + 1)) (i + 1) ((mvd hd (i + 1) (n + 1)) i)))] H := hP
                    have hD : va_D A [(o, .inr (3, [.ref e0, .ref e1, .ref e2, .int (J ((k : Nat) : Int)), .int (J bd), .int (J (((n + 1) : Nat) : Int))])), (e0, ca cI 40 (iu (mvd fe (i + 1) (n + 1)) (i + 1) ((mvd fe (i + 1) (n + 1)) i))), (e1, ca cI 40 (iu (mvd fs (i + 1) (n + 1)) (i + 1) ((mvd fs (i + 1) (n + 1)) i))), (e2, ca cI 40 (iu (mvd hd (i + 1) (n + 1)) (i + 1) ((mvd hd (i + 1) (n + 1)) i)))] := hD
                    have eg : iu (mvd fe (i + 1) (n + 1)) (i + 1) ((mvd fe (i + 1) (n + 1)) i) = mvd fe i (n + 1) := mvd_s fe (by omega)
                    rw [eg] at hP hD
                    clear eg
                    have eg : iu (mvd fs (i + 1) (n + 1)) (i + 1) ((mvd fs (i + 1) (n + 1)) i) = mvd fs i (n + 1) := mvd_s fs (by omega)
                    rw [eg] at hP hD
                    clear eg
                    have eg : iu (mvd hd (i + 1) (n + 1)) (i + 1) ((mvd hd (i + 1) (n + 1)) i) = mvd hd i (n + 1) := mvd_s hd (by omega)
                    rw [eg] at hP hD
                    clear eg
                    refine w_iinc (k := 5) (lv' := [(5, .int (J ((i : Nat) : Int))), (0, .ref o), (1, .int (J en)), (2, .int (J z)), (3, .int (J y)), (4, .int (J ((q : Nat) : Int)))]) hx hb d_Hi_offer_95 hl rfl ((i : Nat) : Int) (by omega) (by decide) rfl (fun ls hl => ?_)
                    refine lv_goto (tgt := 78) hx hb d_Hi_offer_98 (by decide) ?_
                    exact ih_78 i (by omega) (by omega) (by omega) _ _ (P_map hP [0, 1, 2, 3] rfl) (hD.sub [0, 1, 2, 3] (by decide) rfl) hS ls (lv_sub hl [1, 2, 3, 4, 5, 0] rfl)
              rw [← mvd_0 fe (i := n) (n := n + 1) (by omega), ← mvd_0 fs (i := n) (n := n + 1) (by omega), ← mvd_0 hd (i := n) (n := n + 1) (by omega)] at hP hD
              exact lp_78 ((n - q) + 1) n (by omega) (by omega) (Nat.lt_succ_self _) _ _ (P_map hP [0, 1, 2, 3] rfl) (hD.sub [0, 1, 2, 3] (by decide) rfl) hS ls (lv_sub hl [1, 2, 3, 4, 5, 0] rfl)
          · exfalso; omega
        · obtain ⟨i, rfl⟩ : ∃ i : Nat, j = i + 1 := ⟨j - 1, by omega⟩
          refine lv_aload_n hx hb d_Hi_offer_20 rfl (lv_at hl 0 rfl) ?_
          refine lv_iload_n hx hb d_Hi_offer_21 rfl (lv_at hl 2 rfl) ?_
          refine lv_iload_n hx hb d_Hi_offer_22 rfl (lv_at hl 3 rfl) ?_
          refine lv_iload hx hb d_Hi_offer_23 (lv_at hl 4 rfl) ?_
          refine lv_iconst (v := J (1)) hx hb d_Hi_offer_25 rfl ?_
          refine w_isub hx hb d_Hi_offer_26 ((i : Nat) : Int) (by omega) ?_
          refine Ri_call (va_runV (As := [.int (J z), .int (J y), .int (J ((i : Nat) : Int))]) (rest := []) ⟨hx, hb, hml, hown, hts⟩ (c_Hi_isNearer l D cI cZ cJ o e0 e1 e2 ((k : Nat) : Int) bd n fs hd z y i (by first | assumption | omega) (by first | assumption | omega) (by first | assumption | omega) (by first | assumption | omega) (by first | assumption | omega)) (cwV 3 hts (g_V mw_408 mw_410 mw_7 mw_32 mw_411) rfl rfl rfl (by decide +kernel) ⟨Nat.le_of_ble_eq_true rfl, Nat.le_of_ble_eq_true rfl⟩) (pre_RV hP hK [0, 2, 3] rfl 3 0 rfl rfl) rfl rfl hl.1 rfl (lv_room (Nat.le_of_ble_eq_true rfl)) d_Hi_offer_27 ⟨Nat.le_of_ble_eq_true rfl, Nat.le_of_ble_eq_true rfl⟩) ?_
          refine w_if_eq (tgt := 39) hx hb d_Hi_offer_30 (by decide) (rg_b2) (fun c_30 => ?_) (fun c_30 => ?_)
          · have c_30 := b2_0.mp c_30
            have e9 : q = i + 1 := by rw [← hqn, hps, psn, if_neg c_30]
            rw [← e9] at hl
            refine lv_iload hx hb d_Hi_offer_39 (lv_at hl 4 rfl) ?_
            refine lv_aload_n hx hb d_Hi_offer_41 rfl (lv_at hl 0 rfl) ?_
            refine va_get (D := D) (ci := 3) (v := .int (J ((k : Nat) : Int))) (C := R_Hi) (T := T_Hi) (N := 6) hx hb hts i_Hi hown hK hP 0 rfl rfl 3 (by decide) (hts _ mw_169) (fun _ h9 => h9) rfl d_Hi_offer_42 ?_
            refine w_icmp_lt (tgt := 49) hx hb d_Hi_offer_45 (by decide) (by omega) (by omega) (fun c_45 => ?_) (fun c_45 => ?_)
            · refine lv_aload_n hx hb d_Hi_offer_49 rfl (lv_at hl 0 rfl) ?_
              refine va_get (D := D) (ci := 3) (v := .int (J ((n : Nat) : Int))) (C := R_Hi) (T := T_Hi) (N := 6) hx hb hts i_Hi hown hK hP 0 rfl rfl 5 (by decide) (hts _ mw_171) (fun _ h9 => h9) rfl d_Hi_offer_50 ?_
              refine lv_aload_n hx hb d_Hi_offer_53 rfl (lv_at hl 0 rfl) ?_
              refine va_get (D := D) (ci := 3) (v := .int (J ((k : Nat) : Int))) (C := R_Hi) (T := T_Hi) (N := 6) hx hb hts i_Hi hown hK hP 0 rfl rfl 3 (by decide) (hts _ mw_169) (fun _ h9 => h9) rfl d_Hi_offer_54 ?_
              refine w_icmp_ge (tgt := 70) hx hb d_Hi_offer_57 (by decide) (by omega) (by omega) (fun c_57 => ?_) (fun c_57 => ?_)
              · exfalso; omega
              · refine lv_aload_n hx hb d_Hi_offer_60 rfl (lv_at hl 0 rfl) ?_
                refine lv_dup hx hb d_Hi_offer_61 rfl ?_
                refine va_get (D := D) (ci := 3) (v := .int (J ((n : Nat) : Int))) (C := R_Hi) (T := T_Hi) (N := 6) hx hb hts i_Hi hown hK hP 0 rfl rfl 5 (by decide) (hts _ mw_171) (fun _ h9 => h9) rfl d_Hi_offer_62 ?_
                refine lv_iconst (v := J (1)) hx hb d_Hi_offer_65 rfl ?_
                refine w_iadd hx hb d_Hi_offer_66 ((n + 1 : Nat) : Int) (by omega) ?_
                refine va_put (D := D) (ci := 3) (v := .int (J ((n + 1 : Nat) : Int))) (ty := .int) (C := R_Hi) (T := T_Hi) (N := 6) hx hb hts i_Hi t_Hi k_Hi n_Hi hown hK hP hD hS 0 rfl rfl 5 (by decide) (hts _ mw_171) (fun _ h9 => h9) rfl (by decide +kernel) rfl rfl (Nat.le_of_ble_eq_true rfl) d_Hi_offer_67 (fun H locs hP hD hS => ?_)
                have hP : va_P D classes [(o, .inr (3, [.ref e0, .ref e1, .ref e2, .int (J ((k : Nat) : Int)), .int (J bd), .int (J ((n + 1 : Nat) : Int))])), (e0, ca cI 40 fe), (e1, ca cI 40 fs), (e2, ca cI 40 hd)] H := hP
                have hD : va_D A [(o, .inr (3, [.ref e0, .ref e1, .ref e2, .int (J ((k : Nat) : Int)), .int (J bd), .int (J ((n + 1 : Nat) : Int))])), (e0, ca cI 40 fe), (e1, ca cI 40 fs), (e2, ca cI 40 hd)] := hD
                refine lv_aload_n hx hb d_Hi_offer_70 rfl (lv_at hl 0 rfl) ?_
                refine va_get (D := D) (ci := 3) (v := .int (J ((n + 1 : Nat) : Int))) (C := R_Hi) (T := T_Hi) (N := 6) hx hb hts i_Hi hown hK hP 0 rfl rfl 5 (by decide) (hts _ mw_171) (fun _ h9 => h9) rfl d_Hi_offer_71 ?_
                refine lv_iconst (v := J (1)) hx hb d_Hi_offer_74 rfl ?_
                refine w_isub hx hb d_Hi_offer_75 ((n : Nat) : Int) (by omega) ?_
                refine lv_istore (lv' := [(5, .int (J ((n : Nat) : Int))), (0, .ref o), (1, .int (J en)), (2, .int (J z)), (3, .int (J y)), (4, .int (J ((q : Nat) : Int)))]) hx hb d_Hi_offer_76 hl (by decide) rfl (fun ls hl => ?_)
                have lp_78 : ∀ (fu : Nat) (j : Nat), (q ≤ j) → (j < n + 1) → (j - q) < fu → ∀ (H : Heap) (locs : List Loc), va_P D classes [(o, .inr (3, [.ref e0, .ref e1, .ref e2, .int (J ((k : Nat) : Int)), .int (J bd), .int (J ((n + 1 : Nat) : Int))])), (e0, ca cI 40 (mvd fe j (n + 1))), (e1, ca cI 40 (mvd fs j (n + 1))), (e2, ca cI 40 (mvd hd j (n + 1)))] H → va_D A [(o, .inr (3, [.ref e0, .ref e1, .ref e2, .int (J ((k : Nat) : Int)), .int (J bd), .int (J ((n + 1 : Nat) : Int))])), (e0, ca cI 40 (mvd fe j (n + 1))), (e1, ca cI 40 (mvd fs j (n + 1))), (e2, ca cI 40 (mvd hd j (n + 1)))] → va_S A s.heap H locs → ∀ ls : Array Slot, lv_has ls 6 [(0, .ref o), (1, .int (J en)), (2, .int (J z)), (3, .int (J y)), (4, .int (J ((q : Nat) : Int))), (5, .int (J ((j : Nat) : Int)))] → W p l e ({ frames := 1, cells := 0, slots := 0, locals := 23 }) s m args below meth c H locs 0 0 Q (F0 m 78 ls []) := by
                  intro fu
                  induction fu with
                  | zero => intro j hj hj2 hfu; exact absurd hfu (Nat.not_lt_zero _)
                  | succ fu ih_78 =>
                    intro j hj hj2 hfu H locs hP hD hS ls hl
                    refine lv_iload hx hb d_Hi_offer_78 (lv_at hl 5 rfl) ?_
                    refine lv_iload hx hb d_Hi_offer_80 (lv_at hl 4 rfl) ?_
                    refine w_icmp_le (tgt := 101) hx hb d_Hi_offer_82 (by decide) (by omega) (by omega) (fun c_82 => ?_) (fun c_82 => ?_)
                    · obtain rfl : q = j := by omega
                      refine lv_aload_n hx hb d_Hi_offer_101 rfl (lv_at hl 0 rfl) ?_
                      refine va_get (D := D) (ci := 3) (v := .ref e0) (C := R_Hi) (T := T_Hi) (N := 6) hx hb hts i_Hi hown hK hP 0 rfl rfl 0 (by decide) (hts _ mw_164) (fun _ h9 => h9) rfl d_Hi_offer_102 ?_
                      refine lv_iload hx hb d_Hi_offer_105 (lv_at hl 4 rfl) ?_
                      refine lv_iload_n hx hb d_Hi_offer_107 rfl (lv_at hl 1 rfl) ?_
                      refine w_iast hx hb hK hP hD hS 1 0 rfl rfl q (by omega) (by omega) (by omega) d_Hi_offer_108 (fun H locs hP hD hS => ?_)
                      have hP : va_P D classes [(o, .inr (3, [.ref e0, .ref e1, .ref e2, .int (J ((k : Nat) : Int)), .int (J bd), .int (J ((n + 1 : Nat) : Int))])), (e0, ca cI 40 (iu (mvd fe q (n + 1)) q en)), (e1, ca cI 40 (mvd fs q (n + 1))), (e2, ca cI 40 (mvd hd q (n + 1)))] H := hP
                      have hD : va_D A [(o, .inr (3, [.ref e0, .ref e1, .ref e2, .int (J ((k : Nat) : Int)), .int (J bd), .int (J ((n + 1 : Nat) : Int))])), (e0, ca cI 40 (iu (mvd fe q (n + 1)) q en)), (e1, ca cI 40 (mvd fs q (n + 1))), (e2, ca cI 40 (mvd hd q (n + 1)))] := hD
                      have eg : iu (mvd fe q (n + 1)) q en = ins fe q (n + 1) en := mvd_e fe (by omega) en
                      rw [eg] at hP hD
                      clear eg
                      refine lv_aload_n hx hb d_Hi_offer_109 rfl (lv_at hl 0 rfl) ?_
                      refine va_get (D := D) (ci := 3) (v := .ref e1) (C := R_Hi) (T := T_Hi) (N := 6) hx hb hts i_Hi hown hK hP 0 rfl rfl 1 (by decide) (hts _ mw_166) (fun _ h9 => h9) rfl d_Hi_offer_110 ?_
                      refine lv_iload hx hb d_Hi_offer_113 (lv_at hl 4 rfl) ?_
                      refine lv_iload_n hx hb d_Hi_offer_115 rfl (lv_at hl 2 rfl) ?_
                      refine w_iast hx hb hK hP hD hS 2 0 rfl rfl q (by omega) (by omega) (by omega) d_Hi_offer_116 (fun H locs hP hD hS => ?_)
                      have hP : va_P D classes [(o, .inr (3, [.ref e0, .ref e1, .ref e2, .int (J ((k : Nat) : Int)), .int (J bd), .int (J ((n + 1 : Nat) : Int))])), (e0, ca cI 40 (ins fe q (n + 1) en)), (e1, ca cI 40 (iu (mvd fs q (n + 1)) q z)), (e2, ca cI 40 (mvd hd q (n + 1)))] H := hP
                      have hD : va_D A [(o, .inr (3, [.ref e0, .ref e1, .ref e2, .int (J ((k : Nat) : Int)), .int (J bd), .int (J ((n + 1 : Nat) : Int))])), (e0, ca cI 40 (ins fe q (n + 1) en)), (e1, ca cI 40 (iu (mvd fs q (n + 1)) q z)), (e2, ca cI 40 (mvd hd q (n + 1)))] := hD
                      have eg : iu (mvd fs q (n + 1)) q z = ins fs q (n + 1) z := mvd_e fs (by omega) z
                      rw [eg] at hP hD
                      clear eg
                      refine lv_aload_n hx hb d_Hi_offer_117 rfl (lv_at hl 0 rfl) ?_
                      refine va_get (D := D) (ci := 3) (v := .ref e2) (C := R_Hi) (T := T_Hi) (N := 6) hx hb hts i_Hi hown hK hP 0 rfl rfl 2 (by decide) (hts _ mw_168) (fun _ h9 => h9) rfl d_Hi_offer_118 ?_
                      refine lv_iload hx hb d_Hi_offer_121 (lv_at hl 4 rfl) ?_
                      refine lv_iload_n hx hb d_Hi_offer_123 rfl (lv_at hl 3 rfl) ?_
                      refine w_iast hx hb hK hP hD hS 3 0 rfl rfl q (by omega) (by omega) (by omega) d_Hi_offer_124 (fun H locs hP hD hS => ?_)
                      have hP : va_P D classes [(o, .inr (3, [.ref e0, .ref e1, .ref e2, .int (J ((k : Nat) : Int)), .int (J bd), .int (J ((n + 1 : Nat) : Int))])), (e0, ca cI 40 (ins fe q (n + 1) en)), (e1, ca cI 40 (ins fs q (n + 1) z)), (e2, ca cI 40 (iu (mvd hd q (n + 1)) q y))] H := hP
                      have hD : va_D A [(o, .inr (3, [.ref e0, .ref e1, .ref e2, .int (J ((k : Nat) : Int)), .int (J bd), .int (J ((n + 1 : Nat) : Int))])), (e0, ca cI 40 (ins fe q (n + 1) en)), (e1, ca cI 40 (ins fs q (n + 1) z)), (e2, ca cI 40 (iu (mvd hd q (n + 1)) q y))] := hD
                      have eg : iu (mvd hd q (n + 1)) q y = ins hd q (n + 1) y := mvd_e hd (by omega) y
                      rw [eg] at hP hD
                      clear eg
                      exact Mv_ret hx hb hr hlocks hQ d_Hi_offer_125 hP hK hD hS () (trivial) [0, 1, 2, 3] rfl (by decide)
                    · obtain ⟨i, rfl⟩ : ∃ i : Nat, j = i + 1 := ⟨j - 1, by omega⟩
                      refine lv_aload_n hx hb d_Hi_offer_85 rfl (lv_at hl 0 rfl) ?_
                      refine lv_iload hx hb d_Hi_offer_86 (lv_at hl 5 rfl) ?_
                      refine lv_iconst (v := J (1)) hx hb d_Hi_offer_88 rfl ?_
                      refine w_isub hx hb d_Hi_offer_89 ((i : Nat) : Int) (by omega) ?_
                      refine lv_iload hx hb d_Hi_offer_90 (lv_at hl 5 rfl) ?_
                      refine Mv_call (wr := []) (va_runV (As := [.int (J ((i : Nat) : Int)), .int (J ((i + 1 : Nat) : Int))]) (rest := []) ⟨hx, hb, hml, hown, hts⟩ (c_Hi_copy l D cI cZ cJ H.size o e0 e1 e2 ((k : Nat) : Int) bd (n + 1) (mvd fe (i + 1) (n + 1)) (mvd fs (i + 1) (n + 1)) (mvd hd (i + 1) (n + 1)) i (i + 1) (by first | assumption | omega) (by first | assumption | omega)) (cwV 2 hts (g_V mw_412 mw_414 mw_8 mw_32 mw_415) rfl rfl rfl (by decide +kernel) ⟨Nat.le_of_ble_eq_true rfl, Nat.le_of_ble_eq_true rfl⟩) (pre_WV hP hK hD [0, 1, 2, 3] rfl (by decide) 3 0 rfl rfl (fun h => Bool.noConfusion h)) rfl rfl hl.1 rfl (lv_room (Nat.le_of_ble_eq_true rfl)) d_Hi_offer_92 ⟨Nat.le_of_ble_eq_true rfl, Nat.le_of_ble_eq_true rfl⟩) hP hD hS hA [0, 1, 2, 3] [] rfl rfl (by decide) (by decide) (fun _u H locs _hu hP hD hS => ?_)
                      have hP : va_P D classes [(o, .inr (3, [.ref e0, .ref e1, .ref e2, .int (J ((k : Nat) : Int)), .int (J bd), .int (J (((n + 1) : Nat) : Int))])), (e0, ca cI 40 (iu (mvd fe (i + 1) (n + 1)) (i + 1) ((mvd fe (i + 1) (n + 1)) i))), (e1, ca cI 40 (iu (mvd fs (i + 1) (n + 1)) (i + 1) ((mvd fs (i + 1) (n + 1)) i))), (e2, ca cI 40 (iu (mvd hd (i + 1) (n + 1)) (i + 1) ((mvd hd (i + 1) (n + 1)) i)))] H := hP
                      have hD : va_D A [(o, .inr (3, [.ref e0, .ref e1, .ref e2, .int (J ((k : Nat) : Int)), .int (J bd), .int (J (((n + 1) : Nat) : Int))])), (e0, ca cI 40 (iu (mvd fe (i + 1) (n + 1)) (i + 1) ((mvd fe (i + 1) (n + 1)) i))), (e1, ca cI 40 (iu (mvd fs (i + 1) (n + 1)) (i + 1) ((mvd fs (i + 1) (n + 1)) i))), (e2, ca cI 40 (iu (mvd hd (i + 1) (n + 1)) (i + 1) ((mvd hd (i + 1) (n + 1)) i)))] := hD
                      have eg : iu (mvd fe (i + 1) (n + 1)) (i + 1) ((mvd fe (i + 1) (n + 1)) i) = mvd fe i (n + 1) := mvd_s fe (by omega)
                      rw [eg] at hP hD
                      clear eg
                      have eg : iu (mvd fs (i + 1) (n + 1)) (i + 1) ((mvd fs (i + 1) (n + 1)) i) = mvd fs i (n + 1) := mvd_s fs (by omega)
                      rw [eg] at hP hD
                      clear eg
                      have eg : iu (mvd hd (i + 1) (n + 1)) (i + 1) ((mvd hd (i + 1) (n + 1)) i) = mvd hd i (n + 1) := mvd_s hd (by omega)
                      rw [eg] at hP hD
                      clear eg
                      refine w_iinc (k := 5) (lv' := [(5, .int (J ((i : Nat) : Int))), (0, .ref o), (1, .int (J en)), (2, .int (J z)), (3, .int (J y)), (4, .int (J ((q : Nat) : Int)))]) hx hb d_Hi_offer_95 hl rfl ((i : Nat) : Int) (by omega) (by decide) rfl (fun ls hl => ?_)
                      refine lv_goto (tgt := 78) hx hb d_Hi_offer_98 (by decide) ?_
                      exact ih_78 i (by omega) (by omega) (by omega) _ _ (P_map hP [0, 1, 2, 3] rfl) (hD.sub [0, 1, 2, 3] (by decide) rfl) hS ls (lv_sub hl [1, 2, 3, 4, 5, 0] rfl)
                rw [← mvd_0 fe (i := n) (n := n + 1) (by omega), ← mvd_0 fs (i := n) (n := n + 1) (by omega), ← mvd_0 hd (i := n) (n := n + 1) (by omega)] at hP hD
                exact lp_78 ((n - q) + 1) n (by omega) (by omega) (Nat.lt_succ_self _) _ _ (P_map hP [0, 1, 2, 3] rfl) (hD.sub [0, 1, 2, 3] (by decide) rfl) hS ls (lv_sub hl [1, 2, 3, 4, 5, 0] rfl)
            · exfalso; omega
          · have c_30 := b2_n0.mp c_30
            refine w_iinc (k := 4) (lv' := [(4, .int (J ((i : Nat) : Int))), (0, .ref o), (1, .int (J en)), (2, .int (J z)), (3, .int (J y))]) hx hb d_Hi_offer_33 hl rfl ((i : Nat) : Int) (by omega) (by decide) rfl (fun ls hl => ?_)
            refine lv_goto (tgt := 15) hx hb d_Hi_offer_36 (by decide) ?_
            exact ih_15 i (by omega) (by rw [hps, psn, if_pos c_30]) (by omega) _ _ (P_map hP [0, 1, 2, 3] rfl) (hD.sub [0, 1, 2, 3] (by decide) rfl) hS ls (lv_sub hl [1, 2, 3, 4, 0] rfl)
    exact lp_15 (n + 1) n (by omega) (rfl) (Nat.lt_succ_self _) _ _ (P_map hP [0, 1, 2, 3] rfl) (hD.sub [0, 1, 2, 3] (by decide) rfl) hS ls (lv_sub hl [1, 2, 3, 4, 0] rfl)
  · exfalso; omega
set_option maxHeartbeats 4000000 in
set_option maxRecDepth 100000 in
theorem c_Hi_offer_eq (l : Launch) (D : va_G) (cI cZ cJ : ClassId) (sz : Nat) (o : Nat) (e0 : Nat) (e1 : Nat) (e2 : Nat) (bd : Int) (n : Nat) (k : Nat) (fe : Nat → Int) (fs : Nat → Int) (hd : Nat → Int) (en : Int) (z : Int) (y : Int) (q : Nat) (hz : rg z) (hy : rg y) (hbd : rg bd) (hfs : ∀ k, rg (fs k)) (hhd : ∀ k, rg (hd k)) (hnk : n ≤ k) (hk : 1 ≤ k ∧ k ≤ 40) (hqn : psn fs hd z y n = q) (hyes : z ≤ bd ∧ q < k ∧ n = k) : Mv l y_Hi_offer w_Hi_offer ({ frames := 1, cells := 0, slots := 0, locals := 23 }) false D classes [(cI, .int), (cZ, .boolean), (cJ, .long)] sz [.ref o, .int (J en), .int (J z), .int (J y)] [(o, .inr (3, [.ref e0, .ref e1, .ref e2, .int (J ((k : Nat) : Int)), .int (J bd), .int (J ((n : Nat) : Int))])), (e0, ca cI 40 fe), (e1, ca cI 40 fs), (e2, ca cI 40 hd)] (S := Unit) (fun _ => True) (fun u : Unit => [(o, .inr (3, [.ref e0, .ref e1, .ref e2, .int (J ((k : Nat) : Int)), .int (J bd), .int (J ((n : Nat) : Int))])), (e0, ca cI 40 (ins fe q n en)), (e1, ca cI 40 (ins fs q n z)), (e2, ca cI 40 (ins hd q n y))]) 0 0 := by
  refine Mv_of (cc := b_Hi_offer) (maxL := 6) (by decide) rfl (Nat.le_of_ble_eq_true rfl) ?_
  intro p e s m args below meth c hx hb hr hml hts hown hlocks hin A hA hP hK hD hT hS Q hQ H hH ls hl
  subst hH
  have hl : lv_has ls 6 [(0, .ref o), (1, .int (J en)), (2, .int (J z)), (3, .int (J y))] := hl
  have q1 := psn_le fs hd z y n
  refine lv_iload_n hx hb d_Hi_offer_0 rfl (lv_at hl 2 rfl) ?_
  refine lv_aload_n hx hb d_Hi_offer_1 rfl (lv_at hl 0 rfl) ?_
  refine va_get (D := D) (ci := 3) (v := .int (J bd)) (C := R_Hi) (T := T_Hi) (N := 6) hx hb hts i_Hi hown hK hP 0 rfl rfl 4 (by decide) (hts _ mw_170) (fun _ h9 => h9) rfl d_Hi_offer_2 ?_
  refine w_icmp_le (tgt := 9) hx hb d_Hi_offer_5 (by decide) (by omega) (by omega) (fun c_5 => ?_) (fun c_5 => ?_)
  · refine lv_aload_n hx hb d_Hi_offer_9 rfl (lv_at hl 0 rfl) ?_
    refine va_get (D := D) (ci := 3) (v := .int (J ((n : Nat) : Int))) (C := R_Hi) (T := T_Hi) (N := 6) hx hb hts i_Hi hown hK hP 0 rfl rfl 5 (by decide) (hts _ mw_171) (fun _ h9 => h9) rfl d_Hi_offer_10 ?_
    refine lv_istore (lv' := [(4, .int (J ((n : Nat) : Int))), (0, .ref o), (1, .int (J en)), (2, .int (J z)), (3, .int (J y))]) hx hb d_Hi_offer_13 hl (by decide) rfl (fun ls hl => ?_)
    have lp_15 : ∀ (fu : Nat) (j : Nat), (j ≤ n) → (psn fs hd z y n = psn fs hd z y j) → j < fu → ∀ (H : Heap) (locs : List Loc), va_P D classes [(o, .inr (3, [.ref e0, .ref e1, .ref e2, .int (J ((k : Nat) : Int)), .int (J bd), .int (J ((n : Nat) : Int))])), (e0, ca cI 40 fe), (e1, ca cI 40 fs), (e2, ca cI 40 hd)] H → va_D A [(o, .inr (3, [.ref e0, .ref e1, .ref e2, .int (J ((k : Nat) : Int)), .int (J bd), .int (J ((n : Nat) : Int))])), (e0, ca cI 40 fe), (e1, ca cI 40 fs), (e2, ca cI 40 hd)] → va_S A s.heap H locs → ∀ ls : Array Slot, lv_has ls 6 [(0, .ref o), (1, .int (J en)), (2, .int (J z)), (3, .int (J y)), (4, .int (J ((j : Nat) : Int)))] → W p l e ({ frames := 1, cells := 0, slots := 0, locals := 23 }) s m args below meth c H locs 0 0 Q (F0 m 15 ls []) := by
      intro fu
      induction fu with
      | zero => intro j hj hps hfu; exact absurd hfu (Nat.not_lt_zero _)
      | succ fu ih_15 =>
        intro j hj hps hfu H locs hP hD hS ls hl
        refine lv_iload hx hb d_Hi_offer_15 (lv_at hl 4 rfl) ?_
        refine w_if_le (tgt := 39) hx hb d_Hi_offer_17 (by decide) (by omega) (fun c_17 => ?_) (fun c_17 => ?_)
        · obtain rfl : q = j := by rw [← hqn, hps, show j = 0 by omega]; rfl
          refine lv_iload hx hb d_Hi_offer_39 (lv_at hl 4 rfl) ?_
          refine lv_aload_n hx hb d_Hi_offer_41 rfl (lv_at hl 0 rfl) ?_
          refine va_get (D := D) (ci := 3) (v := .int (J ((k : Nat) : Int))) (C := R_Hi) (T := T_Hi) (N := 6) hx hb hts i_Hi hown hK hP 0 rfl rfl 3 (by decide) (hts _ mw_169) (fun _ h9 => h9) rfl d_Hi_offer_42 ?_
          refine w_icmp_lt (tgt := 49) hx hb d_Hi_offer_45 (by decide) (by omega) (by omega) (fun c_45 => ?_) (fun c_45 => ?_)
          · refine lv_aload_n hx hb d_Hi_offer_49 rfl (lv_at hl 0 rfl) ?_
            refine va_get (D := D) (ci := 3) (v := .int (J ((n : Nat) : Int))) (C := R_Hi) (T := T_Hi) (N := 6) hx hb hts i_Hi hown hK hP 0 rfl rfl 5 (by decide) (hts _ mw_171) (fun _ h9 => h9) rfl d_Hi_offer_50 ?_
            refine lv_aload_n hx hb d_Hi_offer_53 rfl (lv_at hl 0 rfl) ?_
            refine va_get (D := D) (ci := 3) (v := .int (J ((k : Nat) : Int))) (C := R_Hi) (T := T_Hi) (N := 6) hx hb hts i_Hi hown hK hP 0 rfl rfl 3 (by decide) (hts _ mw_169) (fun _ h9 => h9) rfl d_Hi_offer_54 ?_
            refine w_icmp_ge (tgt := 70) hx hb d_Hi_offer_57 (by decide) (by omega) (by omega) (fun c_57 => ?_) (fun c_57 => ?_)
            · refine lv_aload_n hx hb d_Hi_offer_70 rfl (lv_at hl 0 rfl) ?_
              refine va_get (D := D) (ci := 3) (v := .int (J ((n : Nat) : Int))) (C := R_Hi) (T := T_Hi) (N := 6) hx hb hts i_Hi hown hK hP 0 rfl rfl 5 (by decide) (hts _ mw_171) (fun _ h9 => h9) rfl d_Hi_offer_71 ?_
              refine lv_iconst (v := J (1)) hx hb d_Hi_offer_74 rfl ?_
              refine w_isub hx hb d_Hi_offer_75 ((n - 1 : Nat) : Int) (by omega) ?_
              refine lv_istore (lv' := [(5, .int (J ((n - 1 : Nat) : Int))), (0, .ref o), (1, .int (J en)), (2, .int (J z)), (3, .int (J y)), (4, .int (J ((q : Nat) : Int)))]) hx hb d_Hi_offer_76 hl (by decide) rfl (fun ls hl => ?_)
              have lp_78 : ∀ (fu : Nat) (j : Nat), (q ≤ j) → (j < n) → (j - q) < fu → ∀ (H : Heap) (locs : List Loc), va_P D classes [(o, .inr (3, [.ref e0, .ref e1, .ref e2, .int (J ((k : Nat) : Int)), .int (J bd), .int (J ((n : Nat) : Int))])), (e0, ca cI 40 (mvd fe j (n))), (e1, ca cI 40 (mvd fs j (n))), (e2, ca cI 40 (mvd hd j (n)))] H → va_D A [(o, .inr (3, [.ref e0, .ref e1, .ref e2, .int (J ((k : Nat) : Int)), .int (J bd), .int (J ((n : Nat) : Int))])), (e0, ca cI 40 (mvd fe j (n))), (e1, ca cI 40 (mvd fs j (n))), (e2, ca cI 40 (mvd hd j (n)))] → va_S A s.heap H locs → ∀ ls : Array Slot, lv_has ls 6 [(0, .ref o), (1, .int (J en)), (2, .int (J z)), (3, .int (J y)), (4, .int (J ((q : Nat) : Int))), (5, .int (J ((j : Nat) : Int)))] → W p l e ({ frames := 1, cells := 0, slots := 0, locals := 23 }) s m args below meth c H locs 0 0 Q (F0 m 78 ls []) := by
                intro fu
                induction fu with
                | zero => intro j hj hj2 hfu; exact absurd hfu (Nat.not_lt_zero _)
                | succ fu ih_78 =>
                  intro j hj hj2 hfu H locs hP hD hS ls hl
                  refine lv_iload hx hb d_Hi_offer_78 (lv_at hl 5 rfl) ?_
                  refine lv_iload hx hb d_Hi_offer_80 (lv_at hl 4 rfl) ?_
                  refine w_icmp_le (tgt := 101) hx hb d_Hi_offer_82 (by decide) (by omega) (by omega) (fun c_82 => ?_) (fun c_82 => ?_)
                  · obtain rfl : q = j := by omega
                    refine lv_aload_n hx hb d_Hi_offer_101 rfl (lv_at hl 0 rfl) ?_
                    refine va_get (D := D) (ci := 3) (v := .ref e0) (C := R_Hi) (T := T_Hi) (N := 6) hx hb hts i_Hi hown hK hP 0 rfl rfl 0 (by decide) (hts _ mw_164) (fun _ h9 => h9) rfl d_Hi_offer_102 ?_
                    refine lv_iload hx hb d_Hi_offer_105 (lv_at hl 4 rfl) ?_
                    refine lv_iload_n hx hb d_Hi_offer_107 rfl (lv_at hl 1 rfl) ?_
                    refine w_iast hx hb hK hP hD hS 1 0 rfl rfl q (by omega) (by omega) (by omega) d_Hi_offer_108 (fun H locs hP hD hS => ?_)
                    have hP : va_P D classes [(o, .inr (3, [.ref e0, .ref e1, .ref e2, .int (J ((k : Nat) : Int)), .int (J bd), .int (J ((n : Nat) : Int))])), (e0, ca cI 40 (iu (mvd fe q (n)) q en)), (e1, ca cI 40 (mvd fs q (n))), (e2, ca cI 40 (mvd hd q (n)))] H := hP
                    have hD : va_D A [(o, .inr (3, [.ref e0, .ref e1, .ref e2, .int (J ((k : Nat) : Int)), .int (J bd), .int (J ((n : Nat) : Int))])), (e0, ca cI 40 (iu (mvd fe q (n)) q en)), (e1, ca cI 40 (mvd fs q (n))), (e2, ca cI 40 (mvd hd q (n)))] := hD
                    have eg : iu (mvd fe q (n)) q en = ins fe q n en := mvd_e fe (by omega) en
                    rw [eg] at hP hD
                    clear eg
                    refine lv_aload_n hx hb d_Hi_offer_109 rfl (lv_at hl 0 rfl) ?_
                    refine va_get (D := D) (ci := 3) (v := .ref e1) (C := R_Hi) (T := T_Hi) (N := 6) hx hb hts i_Hi hown hK hP 0 rfl rfl 1 (by decide) (hts _ mw_166) (fun _ h9 => h9) rfl d_Hi_offer_110 ?_
                    refine lv_iload hx hb d_Hi_offer_113 (lv_at hl 4 rfl) ?_
                    refine lv_iload_n hx hb d_Hi_offer_115 rfl (lv_at hl 2 rfl) ?_
                    refine w_iast hx hb hK hP hD hS 2 0 rfl rfl q (by omega) (by omega) (by omega) d_Hi_offer_116 (fun H locs hP hD hS => ?_)
                    have hP : va_P D classes [(o, .inr (3, [.ref e0, .ref e1, .ref e2, .int (J ((k : Nat) : Int)), .int (J bd), .int (J ((n : Nat) : Int))])), (e0, ca cI 40 (ins fe q n en)), (e1, ca cI 40 (iu (mvd fs q (n)) q z)), (e2, ca cI 40 (mvd hd q (n)))] H := hP
                    have hD : va_D A [(o, .inr (3, [.ref e0, .ref e1, .ref e2, .int (J ((k : Nat) : Int)), .int (J bd), .int (J ((n : Nat) : Int))])), (e0, ca cI 40 (ins fe q n en)), (e1, ca cI 40 (iu (mvd fs q (n)) q z)), (e2, ca cI 40 (mvd hd q (n)))] := hD
                    have eg : iu (mvd fs q (n)) q z = ins fs q n z := mvd_e fs (by omega) z
                    rw [eg] at hP hD
                    clear eg
                    refine lv_aload_n hx hb d_Hi_offer_117 rfl (lv_at hl 0 rfl) ?_
                    refine va_get (D := D) (ci := 3) (v := .ref e2) (C := R_Hi) (T := T_Hi) (N := 6) hx hb hts i_Hi hown hK hP 0 rfl rfl 2 (by decide) (hts _ mw_168) (fun _ h9 => h9) rfl d_Hi_offer_118 ?_
                    refine lv_iload hx hb d_Hi_offer_121 (lv_at hl 4 rfl) ?_
                    refine lv_iload_n hx hb d_Hi_offer_123 rfl (lv_at hl 3 rfl) ?_
                    refine w_iast hx hb hK hP hD hS 3 0 rfl rfl q (by omega) (by omega) (by omega) d_Hi_offer_124 (fun H locs hP hD hS => ?_)
                    have hP : va_P D classes [(o, .inr (3, [.ref e0, .ref e1, .ref e2, .int (J ((k : Nat) : Int)), .int (J bd), .int (J ((n : Nat) : Int))])), (e0, ca cI 40 (ins fe q n en)), (e1, ca cI 40 (ins fs q n z)), (e2, ca cI 40 (iu (mvd hd q (n)) q y))] H := hP
                    have hD : va_D A [(o, .inr (3, [.ref e0, .ref e1, .ref e2, .int (J ((k : Nat) : Int)), .int (J bd), .int (J ((n : Nat) : Int))])), (e0, ca cI 40 (ins fe q n en)), (e1, ca cI 40 (ins fs q n z)), (e2, ca cI 40 (iu (mvd hd q (n)) q y))] := hD
                    have eg : iu (mvd hd q (n)) q y = ins hd q n y := mvd_e hd (by omega) y
                    rw [eg] at hP hD
                    clear eg
                    exact Mv_ret hx hb hr hlocks hQ d_Hi_offer_125 hP hK hD hS () (trivial) [0, 1, 2, 3] rfl (by decide)
                  · obtain ⟨i, rfl⟩ : ∃ i : Nat, j = i + 1 := ⟨j - 1, by omega⟩
                    refine lv_aload_n hx hb d_Hi_offer_85 rfl (lv_at hl 0 rfl) ?_
                    refine lv_iload hx hb d_Hi_offer_86 (lv_at hl 5 rfl) ?_
                    refine lv_iconst (v := J (1)) hx hb d_Hi_offer_88 rfl ?_
                    refine w_isub hx hb d_Hi_offer_89 ((i : Nat) : Int) (by omega) ?_
                    refine lv_iload hx hb d_Hi_offer_90 (lv_at hl 5 rfl) ?_
                    refine Mv_call (wr := []) (va_runV (As := [.int (J ((i : Nat) : Int)), .int (J ((i + 1 : Nat) : Int))]) (rest := []) ⟨hx, hb, hml, hown, hts⟩ (c_Hi_copy l D cI cZ cJ H.size o e0 e1 e2 ((k : Nat) : Int) bd n (mvd fe (i + 1) (n)) (mvd fs (i + 1) (n)) (mvd hd (i + 1) (n)) i (i + 1) (by first | assumption | omega) (by first | assumption | omega)) (cwV 2 hts (g_V mw_412 mw_414 mw_8 mw_32 mw_415) rfl rfl rfl (by decide +kernel) ⟨Nat.le_of_ble_eq_true rfl, Nat.le_of_ble_eq_true rfl⟩) (pre_WV hP hK hD [0, 1, 2, 3] rfl (by decide) 3 0 rfl rfl (fun h => Bool.noConfusion h)) rfl rfl hl.1 rfl (lv_room (Nat.le_of_ble_eq_true rfl)) d_Hi_offer_92 ⟨Nat.le_of_ble_eq_true rfl, Nat.le_of_ble_eq_true rfl⟩) hP hD hS hA [0, 1, 2, 3] [] rfl rfl (by decide) (by decide) (fun _u H locs _hu hP hD hS => ?_)
                    have hP : va_P D classes [(o, .inr (3, [.ref e0, .ref e1, .ref e2, .int (J ((k : Nat) : Int)), .int (J bd), .int (J ((n : Nat) : Int))])), (e0, ca cI 40 (iu (mvd fe (i + 1) (n)) (i + 1) ((mvd fe (i + 1) (n)) i))), (e1, ca cI 40 (iu (mvd fs (i + 1) (n)) (i + 1) ((mvd fs (i + 1) (n)) i))), (e2, ca cI 40 (iu (mvd hd (i + 1) (n)) (i + 1) ((mvd hd (i + 1) (n)) i)))] H := hP
                    have hD : va_D A [(o, .inr (3, [.ref e0, .ref e1, .ref e2, .int (J ((k : Nat) : Int)), .int (J bd), .int (J ((n : Nat) : Int))])), (e0, ca cI 40 (iu (mvd fe (i + 1) (n)) (i + 1) ((mvd fe (i + 1) (n)) i))), (e1, ca cI 40 (iu (mvd fs (i + 1) (n)) (i + 1) ((mvd fs (i + 1) (n)) i))), (e2, ca cI 40 (iu (mvd hd (i + 1) (n)) (i + 1) ((mvd hd (i + 1) (n)) i)))] := hD
                    have eg : iu (mvd fe (i + 1) (n)) (i + 1) ((mvd fe (i + 1) (n)) i) = mvd fe i (n) := mvd_s fe (by omega)
                    rw [eg] at hP hD
                    clear eg
                    have eg : iu (mvd fs (i + 1) (n)) (i + 1) ((mvd fs (i + 1) (n)) i) = mvd fs i (n) := mvd_s fs (by omega)
                    rw [eg] at hP hD
                    clear eg
                    have eg : iu (mvd hd (i + 1) (n)) (i + 1) ((mvd hd (i + 1) (n)) i) = mvd hd i (n) := mvd_s hd (by omega)
                    rw [eg] at hP hD
                    clear eg
                    refine w_iinc (k := 5) (lv' := [(5, .int (J ((i : Nat) : Int))), (0, .ref o), (1, .int (J en)), (2, .int (J z)), (3, .int (J y)), (4, .int (J ((q : Nat) : Int)))]) hx hb d_Hi_offer_95 hl rfl ((i : Nat) : Int) (by omega) (by decide) rfl (fun ls hl => ?_)
                    refine lv_goto (tgt := 78) hx hb d_Hi_offer_98 (by decide) ?_
                    exact ih_78 i (by omega) (by omega) (by omega) _ _ (P_map hP [0, 1, 2, 3] rfl) (hD.sub [0, 1, 2, 3] (by decide) rfl) hS ls (lv_sub hl [1, 2, 3, 4, 5, 0] rfl)
              rw [← mvd_0 fe (i := n - 1) (n := n) (by omega), ← mvd_0 fs (i := n - 1) (n := n) (by omega), ← mvd_0 hd (i := n - 1) (n := n) (by omega)] at hP hD
              exact lp_78 (((n - 1) - q) + 1) (n - 1) (by omega) (by omega) (Nat.lt_succ_self _) _ _ (P_map hP [0, 1, 2, 3] rfl) (hD.sub [0, 1, 2, 3] (by decide) rfl) hS ls (lv_sub hl [1, 2, 3, 4, 5, 0] rfl)
            · exfalso; omega
          · exfalso; omega
        · obtain ⟨i, rfl⟩ : ∃ i : Nat, j = i + 1 := ⟨j - 1, by omega⟩
          refine lv_aload_n hx hb d_Hi_offer_20 rfl (lv_at hl 0 rfl) ?_
          refine lv_iload_n hx hb d_Hi_offer_21 rfl (lv_at hl 2 rfl) ?_
          refine lv_iload_n hx hb d_Hi_offer_22 rfl (lv_at hl 3 rfl) ?_
          refine lv_iload hx hb d_Hi_offer_23 (lv_at hl 4 rfl) ?_
          refine lv_iconst (v := J (1)) hx hb d_Hi_offer_25 rfl ?_
          refine w_isub hx hb d_Hi_offer_26 ((i : Nat) : Int) (by omega) ?_
          refine Ri_call (va_runV (As := [.int (J z), .int (J y), .int (J ((i : Nat) : Int))]) (rest := []) ⟨hx, hb, hml, hown, hts⟩ (c_Hi_isNearer l D cI cZ cJ o e0 e1 e2 ((k : Nat) : Int) bd n fs hd z y i (by first | assumption | omega) (by first | assumption | omega) (by first | assumption | omega) (by first | assumption | omega) (by first | assumption | omega)) (cwV 3 hts (g_V mw_408 mw_410 mw_7 mw_32 mw_411) rfl rfl rfl (by decide +kernel) ⟨Nat.le_of_ble_eq_true rfl, Nat.le_of_ble_eq_true rfl⟩) (pre_RV hP hK [0, 2, 3] rfl 3 0 rfl rfl) rfl rfl hl.1 rfl (lv_room (Nat.le_of_ble_eq_true rfl)) d_Hi_offer_27 ⟨Nat.le_of_ble_eq_true rfl, Nat.le_of_ble_eq_true rfl⟩) ?_
          refine w_if_eq (tgt := 39) hx hb d_Hi_offer_30 (by decide) (rg_b2) (fun c_30 => ?_) (fun c_30 => ?_)
          · have c_30 := b2_0.mp c_30
            have e9 : q = i + 1 := by rw [← hqn, hps, psn, if_neg c_30]
            rw [← e9] at hl
            refine lv_iload hx hb d_Hi_offer_39 (lv_at hl 4 rfl) ?_
            refine lv_aload_n hx hb d_Hi_offer_41 rfl (lv_at hl 0 rfl) ?_
            refine va_get (D := D) (ci := 3) (v := .int (J ((k : Nat) : Int))) (C := R_Hi) (T := T_Hi) (N := 6) hx hb hts i_Hi hown hK hP 0 rfl rfl 3 (by decide) (hts _ mw_169) (fun _ h9 => h9) rfl d_Hi_offer_42 ?_
            refine w_icmp_lt (tgt := 49) hx hb d_Hi_offer_45 (by decide) (by omega) (by omega) (fun c_45 => ?_) (fun c_45 => ?_)
            · refine lv_aload_n hx hb d_Hi_offer_49 rfl (lv_at hl 0 rfl) ?_
              refine va_get (D := D) (ci := 3) (v := .int (J ((n : Nat) : Int))) (C := R_Hi) (T := T_Hi) (N := 6) hx hb hts i_Hi hown hK hP 0 rfl rfl 5 (by decide) (hts _ mw_171) (fun _ h9 => h9) rfl d_Hi_offer_50 ?_
              refine lv_aload_n hx hb d_Hi_offer_53 rfl (lv_at hl 0 rfl) ?_
              refine va_get (D := D) (ci := 3) (v := .int (J ((k : Nat) : Int))) (C := R_Hi) (T := T_Hi) (N := 6) hx hb hts i_Hi hown hK hP 0 rfl rfl 3 (by decide) (hts _ mw_169) (fun _ h9 => h9) rfl d_Hi_offer_54 ?_
              refine w_icmp_ge (tgt := 70) hx hb d_Hi_offer_57 (by decide) (by omega) (by omega) (fun c_57 => ?_) (fun c_57 => ?_)
              · refine lv_aload_n hx hb d_Hi_offer_70 rfl (lv_at hl 0 rfl) ?_
                refine va_get (D := D) (ci := 3) (v := .int (J ((n : Nat) : Int))) (C := R_Hi) (T := T_Hi) (N := 6) hx hb hts i_Hi hown hK hP 0 rfl rfl 5 (by decide) (hts _ mw_171) (fun _ h9 => h9) rfl d_Hi_offer_71 ?_
                refine lv_iconst (v := J (1)) hx hb d_Hi_offer_74 rfl ?_
                refine w_isub hx hb d_Hi_offer_75 ((n - 1 : Nat) : Int) (by omega) ?_
                refine lv_istore (lv' := [(5, .int (J ((n - 1 : Nat) : Int))), (0, .ref o), (1, .int (J en)), (2, .int (J z)), (3, .int (J y)), (4, .int (J ((q : Nat) : Int)))]) hx hb d_Hi_offer_76 hl (by decide) rfl (fun ls hl => ?_)
                have lp_78 : ∀ (fu : Nat) (j : Nat), (q ≤ j) → (j < n) → (j - q) < fu → ∀ (H : Heap) (locs : List Loc), va_P D classes [(o, .inr (3, [.ref e0, .ref e1, .ref e2, .int (J ((k : Nat) : Int)), .int (J bd), .int (J ((n : Nat) : Int))])), (e0, ca cI 40 (mvd fe j (n))), (e1, ca cI 40 (mvd fs j (n))), (e2, ca cI 40 (mvd hd j (n)))] H → va_D A [(o, .inr (3, [.ref e0, .ref e1, .ref e2, .int (J ((k : Nat) : Int)), .int (J bd), .int (J ((n : Nat) : Int))])), (e0, ca cI 40 (mvd fe j (n))), (e1, ca cI 40 (mvd fs j (n))), (e2, ca cI 40 (mvd hd j (n)))] → va_S A s.heap H locs → ∀ ls : Array Slot, lv_has ls 6 [(0, .ref o), (1, .int (J en)), (2, .int (J z)), (3, .int (J y)), (4, .int (J ((q : Nat) : Int))), (5, .int (J ((j : Nat) : Int)))] → W p l e ({ frames := 1, cells := 0, slots := 0, locals := 23 }) s m args below meth c H locs 0 0 Q (F0 m 78 ls []) := by
                  intro fu
                  induction fu with
                  | zero => intro j hj hj2 hfu; exact absurd hfu (Nat.not_lt_zero _)
                  | succ fu ih_78 =>
                    intro j hj hj2 hfu H locs hP hD hS ls hl
                    refine lv_iload hx hb d_Hi_offer_78 (lv_at hl 5 rfl) ?_
                    refine lv_iload hx hb d_Hi_offer_80 (lv_at hl 4 rfl) ?_
                    refine w_icmp_le (tgt := 101) hx hb d_Hi_offer_82 (by decide) (by omega) (by omega) (fun c_82 => ?_) (fun c_82 => ?_)
                    · obtain rfl : q = j := by omega
                      refine lv_aload_n hx hb d_Hi_offer_101 rfl (lv_at hl 0 rfl) ?_
                      refine va_get (D := D) (ci := 3) (v := .ref e0) (C := R_Hi) (T := T_Hi) (N := 6) hx hb hts i_Hi hown hK hP 0 rfl rfl 0 (by decide) (hts _ mw_164) (fun _ h9 => h9) rfl d_Hi_offer_102 ?_
                      refine lv_iload hx hb d_Hi_offer_105 (lv_at hl 4 rfl) ?_
                      refine lv_iload_n hx hb d_Hi_offer_107 rfl (lv_at hl 1 rfl) ?_
                      refine w_iast hx hb hK hP hD hS 1 0 rfl rfl q (by omega) (by omega) (by omega) d_Hi_offer_108 (fun H locs hP hD hS => ?_)
                      have hP : va_P D classes [(o, .inr (3, [.ref e0, .ref e1, .ref e2, .int (J ((k : Nat) : Int)), .int (J bd), .int (J ((n : Nat) : Int))])), (e0, ca cI 40 (iu (mvd fe q (n)) q en)), (e1, ca cI 40 (mvd fs q (n))), (e2, ca cI 40 (mvd hd q (n)))] H := hP
                      have hD : va_D A [(o, .inr (3, [.ref e0, .ref e1, .ref e2, .int (J ((k : Nat) : Int)), .int (J bd), .int (J ((n : Nat) : Int))])), (e0, ca cI 40 (iu (mvd fe q (n)) q en)), (e1, ca cI 40 (mvd fs q (n))), (e2, ca cI 40 (mvd hd q (n)))] := hD
                      have eg : iu (mvd fe q (n)) q en = ins fe q n en := mvd_e fe (by omega) en
                      rw [eg] at hP hD
                      clear eg
                      refine lv_aload_n hx hb d_Hi_offer_109 rfl (lv_at hl 0 rfl) ?_
                      refine va_get (D := D) (ci := 3) (v := .ref e1) (C := R_Hi) (T := T_Hi) (N := 6) hx hb hts i_Hi hown hK hP 0 rfl rfl 1 (by decide) (hts _ mw_166) (fun _ h9 => h9) rfl d_Hi_offer_110 ?_
                      refine lv_iload hx hb d_Hi_offer_113 (lv_at hl 4 rfl) ?_
                      refine lv_iload_n hx hb d_Hi_offer_115 rfl (lv_at hl 2 rfl) ?_
                      refine w_iast hx hb hK hP hD hS 2 0 rfl rfl q (by omega) (by omega) (by omega) d_Hi_offer_116 (fun H locs hP hD hS => ?_)
                      have hP : va_P D classes [(o, .inr (3, [.ref e0, .ref e1, .ref e2, .int (J ((k : Nat) : Int)), .int (J bd), .int (J ((n : Nat) : Int))])), (e0, ca cI 40 (ins fe q n en)), (e1, ca cI 40 (iu (mvd fs q (n)) q z)), (e2, ca cI 40 (mvd hd q (n)))] H := hP
                      have hD : va_D A [(o, .inr (3, [.ref e0, .ref e1, .ref e2, .int (J ((k : Nat) : Int)), .int (J bd), .int (J ((n : Nat) : Int))])), (e0, ca cI 40 (ins fe q n en)), (e1, ca cI 40 (iu (mvd fs q (n)) q z)), (e2, ca cI 40 (mvd hd q (n)))] := hD
                      have eg : iu (mvd fs q (n)) q z = ins fs q n z := mvd_e fs (by omega) z
                      rw [eg] at hP hD
                      clear eg
                      refine lv_aload_n hx hb d_Hi_offer_117 rfl (lv_at hl 0 rfl) ?_
                      refine va_get (D := D) (ci := 3) (v := .ref e2) (C := R_Hi) (T := T_Hi) (N := 6) hx hb hts i_Hi hown hK hP 0 rfl rfl 2 (by decide) (hts _ mw_168) (fun _ h9 => h9) rfl d_Hi_offer_118 ?_
                      refine lv_iload hx hb d_Hi_offer_121 (lv_at hl 4 rfl) ?_
                      refine lv_iload_n hx hb d_Hi_offer_123 rfl (lv_at hl 3 rfl) ?_
                      refine w_iast hx hb hK hP hD hS 3 0 rfl rfl q (by omega) (by omega) (by omega) d_Hi_offer_124 (fun H locs hP hD hS => ?_)
                      have hP : va_P D classes [(o, .inr (3, [.ref e0, .ref e1, .ref e2, .int (J ((k : Nat) : Int)), .int (J bd), .int (J ((n : Nat) : Int))])), (e0, ca cI 40 (ins fe q n en)), (e1, ca cI 40 (ins fs q n z)), (e2, ca cI 40 (iu (mvd hd q (n)) q y))] H := hP
                      have hD : va_D A [(o, .inr (3, [.ref e0, .ref e1, .ref e2, .int (J ((k : Nat) : Int)), .int (J bd), .int (J ((n : Nat) : Int))])), (e0, ca cI 40 (ins fe q n en)), (e1, ca cI 40 (ins fs q n z)), (e2, ca cI 40 (iu (mvd hd q (n)) q y))] := hD
                      have eg : iu (mvd hd q (n)) q y = ins hd q n y := mvd_e hd (by omega) y
                      rw [eg] at hP hD
                      clear eg
                      exact Mv_ret hx hb hr hlocks hQ d_Hi_offer_125 hP hK hD hS () (trivial) [0, 1, 2, 3] rfl (by decide)
                    · obtain ⟨i, rfl⟩ : ∃ i : Nat, j = i + 1 := ⟨j - 1, by omega⟩
                      refine lv_aload_n hx hb d_Hi_offer_85 rfl (lv_at hl 0 rfl) ?_
                      refine lv_iload hx hb d_Hi_offer_86 (lv_at hl 5 rfl) ?_
                      refine lv_iconst (v := J (1)) hx hb d_Hi_offer_88 rfl ?_
                      refine w_isub hx hb d_Hi_offer_89 ((i : Nat) : Int) (by omega) ?_
                      refine lv_iload hx hb d_Hi_offer_90 (lv_at hl 5 rfl) ?_
                      refine Mv_call (wr := []) (va_runV (As := [.int (J ((i : Nat) : Int)), .int (J ((i + 1 : Nat) : Int))]) (rest := []) ⟨hx, hb, hml, hown, hts⟩ (c_Hi_copy l D cI cZ cJ H.size o e0 e1 e2 ((k : Nat) : Int) bd n (mvd fe (i + 1) (n)) (mvd fs (i + 1) (n)) (mvd hd (i + 1) (n)) i (i + 1) (by first | assumption | omega) (by first | assumption | omega)) (cwV 2 hts (g_V mw_412 mw_414 mw_8 mw_32 mw_415) rfl rfl rfl (by decide +kernel) ⟨Nat.le_of_ble_eq_true rfl, Nat.le_of_ble_eq_true rfl⟩) (pre_WV hP hK hD [0, 1, 2, 3] rfl (by decide) 3 0 rfl rfl (fun h => Bool.noConfusion h)) rfl rfl hl.1 rfl (lv_room (Nat.le_of_ble_eq_true rfl)) d_Hi_offer_92 ⟨Nat.le_of_ble_eq_true rfl, Nat.le_of_ble_eq_true rfl⟩) hP hD hS hA [0, 1, 2, 3] [] rfl rfl (by decide) (by decide) (fun _u H locs _hu hP hD hS => ?_)
                      have hP : va_P D classes [(o, .inr (3, [.ref e0, .ref e1, .ref e2, .int (J ((k : Nat) : Int)), .int (J bd), .int (J ((n : Nat) : Int))])), (e0, ca cI 40 (iu (mvd fe (i + 1) (n)) (i + 1) ((mvd fe (i + 1) (n)) i))), (e1, ca cI 40 (iu (mvd fs (i + 1) (n)) (i + 1) ((mvd fs (i + 1) (n)) i))), (e2, ca cI 40 (iu (mvd hd (i + 1) (n)) (i + 1) ((mvd hd (i + 1) (n)) i)))] H := hP
                      have hD : va_D A [(o, .inr (3, [.ref e0, .ref e1, .ref e2, .int (J ((k : Nat) : Int)), .int (J bd), .int (J ((n : Nat) : Int))])), (e0, ca cI 40 (iu (mvd fe (i + 1) (n)) (i + 1) ((mvd fe (i + 1) (n)) i))), (e1, ca cI 40 (iu (mvd fs (i + 1) (n)) (i + 1) ((mvd fs (i + 1) (n)) i))), (e2, ca cI 40 (iu (mvd hd (i + 1) (n)) (i + 1) ((mvd hd (i + 1) (n)) i)))] := hD
                      have eg : iu (mvd fe (i + 1) (n)) (i + 1) ((mvd fe (i + 1) (n)) i) = mvd fe i (n) := mvd_s fe (by omega)
                      rw [eg] at hP hD
                      clear eg
                      have eg : iu (mvd fs (i + 1) (n)) (i + 1) ((mvd fs (i + 1) (n)) i) = mvd fs i (n) := mvd_s fs (by omega)
                      rw [eg] at hP hD
                      clear eg
                      have eg : iu (mvd hd (i + 1) (n)) (i + 1) ((mvd hd (i + 1) (n)) i) = mvd hd i (n) := mvd_s hd (by omega)
                      rw [eg] at hP hD
                      clear eg
                      refine w_iinc (k := 5) (lv' := [(5, .int (J ((i : Nat) : Int))), (0, .ref o), (1, .int (J en)), (2, .int (J z)), (3, .int (J y)), (4, .int (J ((q : Nat) : Int)))]) hx hb d_Hi_offer_95 hl rfl ((i : Nat) : Int) (by omega) (by decide) rfl (fun ls hl => ?_)
                      refine lv_goto (tgt := 78) hx hb d_Hi_offer_98 (by decide) ?_
                      exact ih_78 i (by omega) (by omega) (by omega) _ _ (P_map hP [0, 1, 2, 3] rfl) (hD.sub [0, 1, 2, 3] (by decide) rfl) hS ls (lv_sub hl [1, 2, 3, 4, 5, 0] rfl)
                rw [← mvd_0 fe (i := n - 1) (n := n) (by omega), ← mvd_0 fs (i := n - 1) (n := n) (by omega), ← mvd_0 hd (i := n - 1) (n := n) (by omega)] at hP hD
                exact lp_78 (((n - 1) - q) + 1) (n - 1) (by omega) (by omega) (Nat.lt_succ_self _) _ _ (P_map hP [0, 1, 2, 3] rfl) (hD.sub [0, 1, 2, 3] (by decide) rfl) hS ls (lv_sub hl [1, 2, 3, 4, 5, 0] rfl)
              · exfalso; omega
            · exfalso; omega
          · have c_30 := b2_n0.mp c_30
            refine w_iinc (k := 4) (lv' := [(4, .int (J ((i : Nat) : Int))), (0, .ref o), (1, .int (J en)), (2, .int (J z)), (3, .int (J y))]) hx hb d_Hi_offer_33 hl rfl ((i : Nat) : Int) (by omega) (by decide) rfl (fun ls hl => ?_)
            refine lv_goto (tgt := 15) hx hb d_Hi_offer_36 (by decide) ?_
            exact ih_15 i (by omega) (by rw [hps, psn, if_pos c_30]) (by omega) _ _ (P_map hP [0, 1, 2, 3] rfl) (hD.sub [0, 1, 2, 3] (by decide) rfl) hS ls (lv_sub hl [1, 2, 3, 4, 0] rfl)
    exact lp_15 (n + 1) n (by omega) (rfl) (Nat.lt_succ_self _) _ _ (P_map hP [0, 1, 2, 3] rfl) (hD.sub [0, 1, 2, 3] (by decide) rfl) hS ls (lv_sub hl [1, 2, 3, 4, 0] rfl)
  · exfalso; omega
end
section
theorem edr_rg {wt : Nat → Int} (hw : ∀ k, 0 ≤ wt k ∧ wt k ≤ 1000) {pr : Nat → Int} (hpr : ∀ k, 0 ≤ pr k ∧ pr k ≤ 100000) (a : Int) (v : Nat → Int) : ∀ j : Nat, 0 ≤ edr wt a v pr j ∧ edr wt a v pr j ≤ 101000
  | 0 => by
    have h1 := hw 1
    have h2 := hpr 0
    rw [edr]
    omega
  | j + 1 => by
    have h0 := hw 0
    have h1 := hw 1
    have h2 := hpr j
    have h3 := hpr (j + 1)
    have h4 := edr_rg hw hpr a v j
    have h5 := xc_rg hw a (v j)
    rw [edr]
    omega
set_option maxHeartbeats 4000000 in
set_option maxRecDepth 100000 in
theorem c_Bc_nextRow (l : Launch) (D : va_G) (cI cZ cJ : ClassId) (sz : Nat) (o : Nat) (wo : Nat) (wa : Nat) (ra : Nat) (al : Nat) (nL : Nat) (wt : Nat → Int) (pr : Nat → Int) (g : Nat → Int) (a : Int) (st : Nat) (mm : Nat) (hw : ∀ k, 0 ≤ wt k ∧ wt k ≤ 1000) (hpr : ∀ k, 0 ≤ pr k ∧ pr k ≤ 100000) (hg : ∀ k, 0 ≤ g k ∧ g k < 26) (ha : 0 ≤ a ∧ a < 26) (hm : mm ≤ 10) (hst : st + mm ≤ nL) (hnL : nL ≤ 1200) : Mv l y_Bc_nextRow w_Bc_nextRow ({ frames := 2, cells := 0, slots := 0, locals := 33 }) true D classes [(cI, .int), (cZ, .boolean), (cJ, .long)] sz [.ref o, .int (J a), .ref al, .int (J ((st : Nat) : Int)), .int (J ((mm : Nat) : Int))] [(o, .inr (1, [.ref wo, .ref ra])), (ra, ca cI 11 pr), (wo, .inr (5, [.ref wa])), (wa, ca cI 6 wt), (al, ca cI nL g)] (S := Unit) (fun _ => True) (fun u : Unit => [(o, .inr (1, [.ref wo, .ref ra])), (ra, ca cI 11 (rwl (edr wt a (fun t => g (st + t)) pr) pr (mm + 1))), (wo, .inr (5, [.ref wa])), (wa, ca cI 6 wt), (al, ca cI nL g)]) 0 0 := by
  refine Mv_of (cc := b_Bc_nextRow) (maxL := 14) (by decide) rfl (Nat.le_of_ble_eq_true rfl) ?_
  intro p e s m args below meth c hx hb hr hml hts hown hlocks hin A hA hP hK hD hT hS Q hQ H hH ls hl
  subst hH
  have hl : lv_has ls 14 [(0, .ref o), (1, .int (J a)), (2, .ref al), (3, .int (J ((st : Nat) : Int))), (4, .int (J ((mm : Nat) : Int)))] := hl
  obtain ⟨tt, hZ, hTt, hF1, hF2⟩ := hT rfl
  have w0 := hw 0
  have w1 := hw 1
  have w2 := hw 2
  have w3 := hw 3
  have hE := edr_rg hw hpr a (fun t => g (st + t))
  refine lv_aload_n hx hb d_Bc_nextRow_0 rfl (lv_at hl 0 rfl) ?_
  refine va_get (D := D) (ci := 1) (v := .ref wo) (C := R_Bc) (T := T_Bc) (N := 2) hx hb hts i_Bc hown hK hP 0 rfl rfl 0 (by decide) (hts _ mw_118) (fun _ h9 => h9) rfl d_Bc_nextRow_1 ?_
  refine Ri_call (va_runV (As := []) (rest := []) ⟨hx, hb, hml, hown, hts⟩ (c_We_putIn l D cI cZ cJ wo wa wt ) (cwV 0 hts (g_V mw_325 mw_326 mw_327 mw_28 mw_328) rfl rfl rfl (by decide +kernel) ⟨Nat.le_of_ble_eq_true rfl, Nat.le_of_ble_eq_true rfl⟩) (pre_RV hP hK [2, 3] rfl 5 0 rfl rfl) rfl rfl hl.1 rfl (lv_room (Nat.le_of_ble_eq_true rfl)) d_Bc_nextRow_4 ⟨Nat.le_of_ble_eq_true rfl, Nat.le_of_ble_eq_true rfl⟩) ?_
  refine lv_istore (lv' := [(5, .int (J (wt 0))), (0, .ref o), (1, .int (J a)), (2, .ref al), (3, .int (J ((st : Nat) : Int))), (4, .int (J ((mm : Nat) : Int)))]) hx hb d_Bc_nextRow_7 hl (by decide) rfl (fun ls hl => ?_)
  refine lv_aload_n hx hb d_Bc_nextRow_9 rfl (lv_at hl 1 rfl) ?_
  refine va_get (D := D) (ci := 1) (v := .ref wo) (C := R_Bc) (T := T_Bc) (N := 2) hx hb hts i_Bc hown hK hP 0 rfl rfl 0 (by decide) (hts _ mw_118) (fun _ h9 => h9) rfl d_Bc_nextRow_10 ?_
  refine Ri_call (va_runV (As := []) (rest := []) ⟨hx, hb, hml, hown, hts⟩ (c_We_leftOut l D cI cZ cJ wo wa wt ) (cwV 0 hts (g_V mw_334 mw_335 mw_336 mw_28 mw_337) rfl rfl rfl (by decide +kernel) ⟨Nat.le_of_ble_eq_true rfl, Nat.le_of_ble_eq_true rfl⟩) (pre_RV hP hK [2, 3] rfl 5 0 rfl rfl) rfl rfl hl.1 rfl (lv_room (Nat.le_of_ble_eq_true rfl)) d_Bc_nextRow_13 ⟨Nat.le_of_ble_eq_true rfl, Nat.le_of_ble_eq_true rfl⟩) ?_
  refine lv_istore (lv' := [(6, .int (J (wt 1))), (5, .int (J (wt 0))), (0, .ref o), (1, .int (J a)), (2, .ref al), (3, .int (J ((st : Nat) : Int))), (4, .int (J ((mm : Nat) : Int)))]) hx hb d_Bc_nextRow_16 hl (by decide) rfl (fun ls hl => ?_)
  refine lv_aload_n hx hb d_Bc_nextRow_18 rfl (lv_at hl 2 rfl) ?_
  refine va_get (D := D) (ci := 1) (v := .ref wo) (C := R_Bc) (T := T_Bc) (N := 2) hx hb hts i_Bc hown hK hP 0 rfl rfl 0 (by decide) (hts _ mw_118) (fun _ h9 => h9) rfl d_Bc_nextRow_19 ?_
  refine Ri_call (va_runV (As := []) (rest := []) ⟨hx, hb, hml, hown, hts⟩ (c_We_exchanged l D cI cZ cJ wo wa wt ) (cwV 0 hts (g_V mw_338 mw_339 mw_340 mw_28 mw_341) rfl rfl rfl (by decide +kernel) ⟨Nat.le_of_ble_eq_true rfl, Nat.le_of_ble_eq_true rfl⟩) (pre_RV hP hK [2, 3] rfl 5 0 rfl rfl) rfl rfl hl.1 rfl (lv_room (Nat.le_of_ble_eq_true rfl)) d_Bc_nextRow_22 ⟨Nat.le_of_ble_eq_true rfl, Nat.le_of_ble_eq_true rfl⟩) ?_
  refine lv_istore (lv' := [(7, .int (J (wt 2))), (6, .int (J (wt 1))), (5, .int (J (wt 0))), (0, .ref o), (1, .int (J a)), (2, .ref al), (3, .int (J ((st : Nat) : Int))), (4, .int (J ((mm : Nat) : Int)))]) hx hb d_Bc_nextRow_25 hl (by decide) rfl (fun ls hl => ?_)
  refine lv_aload_n hx hb d_Bc_nextRow_27 rfl (lv_at hl 3 rfl) ?_
  refine va_get (D := D) (ci := 1) (v := .ref wo) (C := R_Bc) (T := T_Bc) (N := 2) hx hb hts i_Bc hown hK hP 0 rfl rfl 0 (by decide) (hts _ mw_118) (fun _ h9 => h9) rfl d_Bc_nextRow_28 ?_
  refine Ri_call (va_runV (As := []) (rest := []) ⟨hx, hb, hml, hown, hts⟩ (c_We_exchangedAlike l D cI cZ cJ wo wa wt (by first | assumption | omega)) (cwV 0 hts (g_V mw_342 mw_343 mw_344 mw_28 mw_345) rfl rfl rfl (by decide +kernel) ⟨Nat.le_of_ble_eq_true rfl, Nat.le_of_ble_eq_true rfl⟩) (pre_RV hP hK [2, 3] rfl 5 0 rfl rfl) rfl rfl hl.1 rfl (lv_room (Nat.le_of_ble_eq_true rfl)) d_Bc_nextRow_31 ⟨Nat.le_of_ble_eq_true rfl, Nat.le_of_ble_eq_true rfl⟩) ?_
  refine lv_istore (lv' := [(8, .int (J (min (wt 2) (wt 3)))), (7, .int (J (wt 2))), (6, .int (J (wt 1))), (5, .int (J (wt 0))), (0, .ref o), (1, .int (J a)), (2, .ref al), (3, .int (J ((st : Nat) : Int))), (4, .int (J ((mm : Nat) : Int)))]) hx hb d_Bc_nextRow_34 hl (by decide) rfl (fun ls hl => ?_)
  refine lv_aload_n hx hb d_Bc_nextRow_36 rfl (lv_at hl 4 rfl) ?_
  refine va_get (D := D) (ci := 1) (v := .ref ra) (C := R_Bc) (T := T_Bc) (N := 2) hx hb hts i_Bc hown hK hP 0 rfl rfl 1 (by decide) (hts _ mw_119) (fun _ h9 => h9) rfl d_Bc_nextRow_37 ?_
  refine lv_iconst (v := J (0)) hx hb d_Bc_nextRow_40 rfl ?_
  refine w_iald hx hb hK hP 1 0 rfl rfl 0 (by omega) (by omega) (by omega) d_Bc_nextRow_41 ?_
  refine lv_istore (lv' := [(9, .int (J (pr 0))), (8, .int (J (min (wt 2) (wt 3)))), (7, .int (J (wt 2))), (6, .int (J (wt 1))), (5, .int (J (wt 0))), (0, .ref o), (1, .int (J a)), (2, .ref al), (3, .int (J ((st : Nat) : Int))), (4, .int (J ((mm : Nat) : Int)))]) hx hb d_Bc_nextRow_42 hl (by decide) rfl (fun ls hl => ?_)
  refine lv_iload hx hb d_Bc_nextRow_44 (lv_at hl 0 rfl) ?_
  refine lv_iload hx hb d_Bc_nextRow_46 (lv_at hl 3 rfl) ?_
  refine w_iadd hx hb d_Bc_nextRow_48 (edr wt a (fun t => g (st + t)) pr 0) (rfl) ?_
  refine lv_istore (lv' := [(10, .int (J (edr wt a (fun t => g (st + t)) pr 0))), (9, .int (J (pr 0))), (8, .int (J (min (wt 2) (wt 3)))), (7, .int (J (wt 2))), (6, .int (J (wt 1))), (5, .int (J (wt 0))), (0, .ref o), (1, .int (J a)), (2, .ref al), (3, .int (J ((st : Nat) : Int))), (4, .int (J ((mm : Nat) : Int)))]) hx hb d_Bc_nextRow_49 hl (by decide) rfl (fun ls hl => ?_)
  refine lv_aload_n hx hb d_Bc_nextRow_51 rfl (lv_at hl 6 rfl) ?_
  refine va_get (D := D) (ci := 1) (v := .ref ra) (C := R_Bc) (T := T_Bc) (N := 2) hx hb hts i_Bc hown hK hP 0 rfl rfl 1 (by decide) (hts _ mw_119) (fun _ h9 => h9) rfl d_Bc_nextRow_52 ?_
  refine lv_iconst (v := J (0)) hx hb d_Bc_nextRow_55 rfl ?_
  refine lv_iload hx hb d_Bc_nextRow_56 (lv_at hl 0 rfl) ?_
  refine w_iast hx hb hK hP hD hS 1 0 rfl rfl 0 (by omega) (by omega) (by omega) d_Bc_nextRow_58 (fun H locs hP hD hS => ?_)
  have hP : va_P D classes [(o, .inr (1, [.ref wo, .ref ra])), (ra, ca cI 11 (iu pr 0 (edr wt a (fun t => g (st + t)) pr 0))), (wo, .inr (5, [.ref wa])), (wa, ca cI 6 wt), (al, ca cI nL g)] H := hP
  have hD : va_D A [(o, .inr (1, [.ref wo, .ref ra])), (ra, ca cI 11 (iu pr 0 (edr wt a (fun t => g (st + t)) pr 0))), (wo, .inr (5, [.ref wa])), (wa, ca cI 6 wt), (al, ca cI nL g)] := hD
  have eg : iu pr 0 (edr wt a (fun t => g (st + t)) pr 0) = rwl (edr wt a (fun t => g (st + t)) pr) pr 1 := rwl_1 _ _ rfl
  rw [eg] at hP hD
  clear eg
  refine lv_iconst (v := J (1)) hx hb d_Bc_nextRow_59 rfl ?_
  refine lv_istore (lv' := [(11, .int (J 1)), (10, .int (J (edr wt a (fun t => g (st + t)) pr 0))), (9, .int (J (pr 0))), (8, .int (J (min (wt 2) (wt 3)))), (7, .int (J (wt 2))), (6, .int (J (wt 1))), (5, .int (J (wt 0))), (0, .ref o), (1, .int (J a)), (2, .ref al), (3, .int (J ((st : Nat) : Int))), (4, .int (J ((mm : Nat) : Int)))]) hx hb d_Bc_nextRow_60 hl (by decide) rfl (fun ls hl => ?_)
  have lp_62 : ∀ (fu : Nat) (i : Nat), (i ≤ mm) → (mm - i) < fu → ∀ (H : Heap) (locs : List Loc), va_P D classes [(o, .inr (1, [.ref wo, .ref ra])), (ra, ca cI 11 (rwl (edr wt a (fun t => g (st + t)) pr) pr (i + 1))), (wo, .inr (5, [.ref wa])), (wa, ca cI 6 wt), (al, ca cI nL g)] H → va_D A [(o, .inr (1, [.ref wo, .ref ra])), (ra, ca cI 11 (rwl (edr wt a (fun t => g (st + t)) pr) pr (i + 1))), (wo, .inr (5, [.ref wa])), (wa, ca cI 6 wt), (al, ca cI nL g)] → va_S A s.heap H locs → ∀ ls : Array Slot, lv_has ls 14 [(0, .ref o), (1, .int (J a)), (2, .ref al), (3, .int (J ((st : Nat) : Int))), (4, .int (J ((mm : Nat) : Int))), (5, .int (J (wt 0))), (6, .int (J (wt 1))), (7, .int (J (wt 2))), (8, .int (J (min (wt 2) (wt 3)))), (9, .int (J (pr i))), (10, .int (J (edr wt a (fun t => g (st + t)) pr i))), (11, .int (J ((i + 1 : Nat) : Int)))] → W p l e ({ frames := 2, cells := 0, slots := 0, locals := 33 }) s m args below meth c H locs 0 0 Q (F0 m 62 ls []) := by
    intro fu
    induction fu with
    | zero => intro i hi hfu; exact absurd hfu (Nat.not_lt_zero _)
    | succ fu ih_62 =>
      intro i hi hfu H locs hP hD hS ls hl
      have p1 := hpr i
      have p2 := hpr (i + 1)
      have p3 := hE i
      have g1 := hg (st + i)
      refine lv_iload hx hb d_Bc_nextRow_62 (lv_at hl 11 rfl) ?_
      refine lv_iload hx hb d_Bc_nextRow_64 (lv_at hl 4 rfl) ?_
      refine w_icmp_gt (tgt := 159) hx hb d_Bc_nextRow_66 (by decide) (by omega) (by omega) (fun c_66 => ?_) (fun c_66 => ?_)
      · obtain rfl : mm = i := by omega
        exact Mv_ret hx hb hr hlocks hQ d_Bc_nextRow_159 hP hK hD hS () (trivial) [0, 1, 2, 3, 4] rfl (by decide)
      · refine lv_aload_n hx hb d_Bc_nextRow_69 rfl (lv_at hl 2 rfl) ?_
        refine lv_iload_n hx hb d_Bc_nextRow_70 rfl (lv_at hl 3 rfl) ?_
        refine lv_iload hx hb d_Bc_nextRow_71 (lv_at hl 11 rfl) ?_
        refine w_iadd hx hb d_Bc_nextRow_73 ((st + (i + 1) : Nat) : Int) (by omega) ?_
        refine lv_iconst (v := J (1)) hx hb d_Bc_nextRow_74 rfl ?_
        refine w_isub hx hb d_Bc_nextRow_75 ((st + i : Nat) : Int) (by omega) ?_
        refine w_iald hx hb hK hP 4 0 rfl rfl (st + i) (by omega) (by omega) (by omega) d_Bc_nextRow_76 ?_
        refine lv_istore (lv' := [(12, .int (J (g (st + i)))), (0, .ref o), (1, .int (J a)), (2, .ref al), (3, .int (J ((st : Nat) : Int))), (4, .int (J ((mm : Nat) : Int))), (5, .int (J (wt 0))), (6, .int (J (wt 1))), (7, .int (J (wt 2))), (8, .int (J (min (wt 2) (wt 3)))), (9, .int (J (pr i))), (10, .int (J (edr wt a (fun t => g (st + t)) pr i))), (11, .int (J ((i + 1 : Nat) : Int)))]) hx hb d_Bc_nextRow_77 hl (by decide) rfl (fun ls hl => ?_)
        refine lv_iload hx hb d_Bc_nextRow_79 (lv_at hl 10 rfl) ?_
        refine lv_istore (lv' := [(13, .int (J (pr i))), (12, .int (J (g (st + i)))), (0, .ref o), (1, .int (J a)), (2, .ref al), (3, .int (J ((st : Nat) : Int))), (4, .int (J ((mm : Nat) : Int))), (5, .int (J (wt 0))), (6, .int (J (wt 1))), (7, .int (J (wt 2))), (8, .int (J (min (wt 2) (wt 3)))), (9, .int (J (pr i))), (10, .int (J (edr wt a (fun t => g (st + t)) pr i))), (11, .int (J ((i + 1 : Nat) : Int)))]) hx hb d_Bc_nextRow_81 hl (by decide) rfl (fun ls hl => ?_)
        refine lv_iload hx hb d_Bc_nextRow_83 (lv_at hl 1 rfl) ?_
        refine lv_iload_n hx hb d_Bc_nextRow_85 rfl (lv_at hl 3 rfl) ?_
        refine w_icmp_eq (tgt := 115) hx hb d_Bc_nextRow_86 (by decide) (by omega) (by omega) (fun c_86 => ?_) (fun c_86 => ?_)
        · have hxc : xc wt a (g (st + i)) = 0 := by unfold xc; rw [if_pos c_86.symm]
          refine lv_aload_n hx hb d_Bc_nextRow_115 rfl (lv_at hl 2 rfl) ?_
          refine va_get (D := D) (ci := 1) (v := .ref ra) (C := R_Bc) (T := T_Bc) (N := 2) hx hb hts i_Bc hown hK hP 0 rfl rfl 1 (by decide) (hts _ mw_119) (fun _ h9 => h9) rfl d_Bc_nextRow_116 ?_
          refine lv_iload hx hb d_Bc_nextRow_119 (lv_at hl 13 rfl) ?_
          refine w_iald hx hb hK hP 1 0 rfl rfl (i + 1) (by omega) (by omega) (by omega) d_Bc_nextRow_121 ?_
          refine tp_J (y := pr (i + 1)) (rwl_ge _ _ (Nat.le_refl _)) ?_
          refine lv_istore (lv' := [(9, .int (J (pr (i + 1)))), (13, .int (J (pr i))), (12, .int (J (g (st + i)))), (0, .ref o), (1, .int (J a)), (2, .ref al), (3, .int (J ((st : Nat) : Int))), (4, .int (J ((mm : Nat) : Int))), (5, .int (J (wt 0))), (6, .int (J (wt 1))), (7, .int (J (wt 2))), (8, .int (J (min (wt 2) (wt 3)))), (10, .int (J (edr wt a (fun t => g (st + t)) pr i))), (11, .int (J ((i + 1 : Nat) : Int)))]) hx hb d_Bc_nextRow_122 hl (by decide) rfl (fun ls hl => ?_)
          refine lv_iload hx hb d_Bc_nextRow_124 (lv_at hl 1 rfl) ?_
          refine lv_iload hx hb d_Bc_nextRow_126 (lv_at hl 12 rfl) ?_
          refine lv_iload hx hb d_Bc_nextRow_128 (lv_at hl 8 rfl) ?_
          refine w_iadd hx hb d_Bc_nextRow_130 ((edr wt a (fun t => g (st + t)) pr i) + (wt 0)) (rfl) ?_
          refine lv_iload hx hb d_Bc_nextRow_131 (lv_at hl 0 rfl) ?_
          refine lv_iload hx hb d_Bc_nextRow_133 (lv_at hl 9 rfl) ?_
          refine w_iadd hx hb d_Bc_nextRow_135 ((pr (i + 1)) + (wt 1)) (rfl) ?_
          refine w_mmin hx hb (by rw [hml]; exact hl.1.symm) hown (hts _ mw_351) (hts _ mw_347) (hts _ mw_34) (hts _ mw_348) (by decide) (Nat.le_of_ble_eq_true rfl) (by decide) (by decide) d_Bc_nextRow_136 (by omega) (by omega) ?_
          refine w_mmin hx hb (by rw [hml]; exact hl.1.symm) hown (hts _ mw_351) (hts _ mw_347) (hts _ mw_34) (hts _ mw_348) (by decide) (Nat.le_of_ble_eq_true rfl) (by decide) (by decide) d_Bc_nextRow_139 (by omega) (by omega) ?_
          refine tp_J (y := edr wt a (fun t => g (st + t)) pr (i + 1)) (by rw [edr, hxc]; try rw [Int.add_zero]) ?_
          refine lv_istore (lv' := [(10, .int (J (edr wt a (fun t => g (st + t)) pr (i + 1)))), (9, .int (J (pr (i + 1)))), (13, .int (J (pr i))), (12, .int (J (g (st + i)))), (0, .ref o), (1, .int (J a)), (2, .ref al), (3, .int (J ((st : Nat) : Int))), (4, .int (J ((mm : Nat) : Int))), (5, .int (J (wt 0))), (6, .int (J (wt 1))), (7, .int (J (wt 2))), (8, .int (J (min (wt 2) (wt 3)))), (11, .int (J ((i + 1 : Nat) : Int)))]) hx hb d_Bc_nextRow_142 hl (by decide) rfl (fun ls hl => ?_)
          refine lv_aload_n hx hb d_Bc_nextRow_144 rfl (lv_at hl 4 rfl) ?_
          refine va_get (D := D) (ci := 1) (v := .ref ra) (C := R_Bc) (T := T_Bc) (N := 2) hx hb hts i_Bc hown hK hP 0 rfl rfl 1 (by decide) (hts _ mw_119) (fun _ h9 => h9) rfl d_Bc_nextRow_145 ?_
          refine lv_iload hx hb d_Bc_nextRow_148 (lv_at hl 13 rfl) ?_
          refine lv_iload hx hb d_Bc_nextRow_150 (lv_at hl 0 rfl) ?_
          refine w_iast hx hb hK hP hD hS 1 0 rfl rfl (i + 1) (by omega) (by omega) (by omega) d_Bc_nextRow_152 (fun H locs hP hD hS => ?_)
          have hP : va_P D classes [(o, .inr (1, [.ref wo, .ref ra])), (ra, ca cI 11 (iu (rwl (edr wt a (fun t => g (st + t)) pr) pr (i + 1)) (i + 1) (edr wt a (fun t => g (st + t)) pr (i + 1)))), (wo, .inr (5, [.ref wa])), (wa, ca cI 6 wt), (al, ca cI nL g)] H := hP
          have hD : va_D A [(o, .inr (1, [.ref wo, .ref ra])), (ra, ca cI 11 (iu (rwl (edr wt a (fun t => g (st + t)) pr) pr (i + 1)) (i + 1) (edr wt a (fun t => g (st + t)) pr (i + 1)))), (wo, .inr (5, [.ref wa])), (wa, ca cI 6 wt), (al, ca cI nL g)] := hD
          have eg : iu (rwl (edr wt a (fun t => g (st + t)) pr) pr (i + 1)) (i + 1) (edr wt a (fun t => g (st + t)) pr (i + 1)) = rwl (edr wt a (fun t => g (st + t)) pr) pr (i + 2) := rwl_s _ _ (i + 1)
          rw [eg] at hP hD
          clear eg
          refine w_iinc (k := 13) (lv' := [(11, .int (J ((i + 1 + 1 : Nat) : Int))), (10, .int (J (edr wt a (fun t => g (st + t)) pr (i + 1)))), (9, .int (J (pr (i + 1)))), (13, .int (J (pr i))), (12, .int (J (g (st + i)))), (0, .ref o), (1, .int (J a)), (2, .ref al), (3, .int (J ((st : Nat) : Int))), (4, .int (J ((mm : Nat) : Int))), (5, .int (J (wt 0))), (6, .int (J (wt 1))), (7, .int (J (wt 2))), (8, .int (J (min (wt 2) (wt 3))))]) hx hb d_Bc_nextRow_153 hl rfl ((i + 1 + 1 : Nat) : Int) (by omega) (by decide) rfl (fun ls hl => ?_)
          refine lv_goto (tgt := 62) hx hb d_Bc_nextRow_156 (by decide) ?_
          exact ih_62 (i + 1) (by omega) (by omega) _ _ (P_map hP [0, 1, 2, 3, 4] rfl) (hD.sub [0, 1, 2, 3, 4] (by decide) rfl) hS ls (lv_sub hl [5, 6, 7, 8, 9, 10, 11, 12, 13, 2, 1, 0] rfl)
        · refine lv_iload hx hb d_Bc_nextRow_89 (lv_at hl 0 rfl) ?_
          refine va_gets hx hb hZ hS hown (hts _ mw_349) (fun _ h9 => h9) d_Bc_nextRow_91 ?_
          have s1 := sd_rg (g (st + i)).toNat
          have s2 := sd_rg (a).toNat
          refine lv_iload hx hb d_Bc_nextRow_94 (lv_at hl 1 rfl) ?_
          refine w_ti hx hb hTt hS ((g (st + i)).toNat) (by omega) (by omega) d_Bc_nextRow_96 ?_
          refine va_gets hx hb hZ hS hown (hts _ mw_349) (fun _ h9 => h9) d_Bc_nextRow_97 ?_
          refine lv_iload_n hx hb d_Bc_nextRow_100 rfl (lv_at hl 3 rfl) ?_
          refine w_ti hx hb hTt hS ((a).toNat) (by omega) (by omega) d_Bc_nextRow_101 ?_
          refine w_icmp_ne (tgt := 110) hx hb d_Bc_nextRow_102 (by decide) (by omega) (by omega) (fun c_102 => ?_) (fun c_102 => ?_)
          · have hxc : xc wt a (g (st + i)) = wt 2 := by unfold xc; rw [if_neg (fun z => c_86 z.symm), if_neg (fun z => c_102 z.symm)]
            refine lv_iload hx hb d_Bc_nextRow_110 (lv_at hl 9 rfl) ?_
            refine w_iadd hx hb d_Bc_nextRow_112 ((pr i) + (wt 2)) (rfl) ?_
            refine lv_istore (lv' := [(13, .int (J ((pr i) + (wt 2)))), (12, .int (J (g (st + i)))), (0, .ref o), (1, .int (J a)), (2, .ref al), (3, .int (J ((st : Nat) : Int))), (4, .int (J ((mm : Nat) : Int))), (5, .int (J (wt 0))), (6, .int (J (wt 1))), (7, .int (J (wt 2))), (8, .int (J (min (wt 2) (wt 3)))), (9, .int (J (pr i))), (10, .int (J (edr wt a (fun t => g (st + t)) pr i))), (11, .int (J ((i + 1 : Nat) : Int)))]) hx hb d_Bc_nextRow_113 hl (by decide) rfl (fun ls hl => ?_)
            refine lv_aload_n hx hb d_Bc_nextRow_115 rfl (lv_at hl 2 rfl) ?_
            refine va_get (D := D) (ci := 1) (v := .ref ra) (C := R_Bc) (T := T_Bc) (N := 2) hx hb hts i_Bc hown hK hP 0 rfl rfl 1 (by decide) (hts _ mw_119) (fun _ h9 => h9) rfl d_Bc_nextRow_116 ?_
            refine lv_iload hx hb d_Bc_nextRow_119 (lv_at hl 13 rfl) ?_
            refine w_iald hx hb hK hP 1 0 rfl rfl (i + 1) (by omega) (by omega) (by omega) d_Bc_nextRow_121 ?_
            refine tp_J (y := pr (i + 1)) (rwl_ge _ _ (Nat.le_refl _)) ?_
            refine lv_istore (lv' := [(9, .int (J (pr (i + 1)))), (13, .int (J ((pr i) + (wt 2)))), (12, .int (J (g (st + i)))), (0, .ref o), (1, .int (J a)), (2, .ref al), (3, .int (J ((st : Nat) : Int))), (4, .int (J ((mm : Nat) : Int))), (5, .int (J (wt 0))), (6, .int (J (wt 1))), (7, .int (J (wt 2))), (8, .int (J (min (wt 2) (wt 3)))), (10, .int (J (edr wt a (fun t => g (st + t)) pr i))), (11, .int (J ((i + 1 : Nat) : Int)))]) hx hb d_Bc_nextRow_122 hl (by decide) rfl (fun ls hl => ?_)
            refine lv_iload hx hb d_Bc_nextRow_124 (lv_at hl 1 rfl) ?_
            refine lv_iload hx hb d_Bc_nextRow_126 (lv_at hl 12 rfl) ?_
            refine lv_iload hx hb d_Bc_nextRow_128 (lv_at hl 8 rfl) ?_
            refine w_iadd hx hb d_Bc_nextRow_130 ((edr wt a (fun t => g (st + t)) pr i) + (wt 0)) (rfl) ?_
            refine lv_iload hx hb d_Bc_nextRow_131 (lv_at hl 0 rfl) ?_
            refine lv_iload hx hb d_Bc_nextRow_133 (lv_at hl 9 rfl) ?_
            refine w_iadd hx hb d_Bc_nextRow_135 ((pr (i + 1)) + (wt 1)) (rfl) ?_
            refine w_mmin hx hb (by rw [hml]; exact hl.1.symm) hown (hts _ mw_351) (hts _ mw_347) (hts _ mw_34) (hts _ mw_348) (by decide) (Nat.le_of_ble_eq_true rfl) (by decide) (by decide) d_Bc_nextRow_136 (by omega) (by omega) ?_
            refine w_mmin hx hb (by rw [hml]; exact hl.1.symm) hown (hts _ mw_351) (hts _ mw_347) (hts _ mw_34) (hts _ mw_348) (by decide) (Nat.le_of_ble_eq_true rfl) (by decide) (by decide) d_Bc_nextRow_139 (by omega) (by omega) ?_
            refine tp_J (y := edr wt a (fun t => g (st + t)) pr (i + 1)) (by rw [edr, hxc]; try rw [Int.add_zero]) ?_
            refine lv_istore (lv' := [(10, .int (J (edr wt a (fun t => g (st + t)) pr (i + 1)))), (9, .int (J (pr (i + 1)))), (13, .int (J ((pr i) + (wt 2)))), (12, .int (J (g (st + i)))), (0, .ref o), (1, .int (J a)), (2, .ref al), (3, .int (J ((st : Nat) : Int))), (4, .int (J ((mm : Nat) : Int))), (5, .int (J (wt 0))), (6, .int (J (wt 1))), (7, .int (J (wt 2))), (8, .int (J (min (wt 2) (wt 3)))), (11, .int (J ((i + 1 : Nat) : Int)))]) hx hb d_Bc_nextRow_142 hl (by decide) rfl (fun ls hl => ?_)
            refine lv_aload_n hx hb d_Bc_nextRow_144 rfl (lv_at hl 4 rfl) ?_
            refine va_get (D := D) (ci := 1) (v := .ref ra) (C := R_Bc) (T := T_Bc) (N := 2) hx hb hts i_Bc hown hK hP 0 rfl rfl 1 (by decide) (hts _ mw_119) (fun _ h9 => h9) rfl d_Bc_nextRow_145 ?_
            refine lv_iload hx hb d_Bc_nextRow_148 (lv_at hl 13 rfl) ?_
            refine lv_iload hx hb d_Bc_nextRow_150 (lv_at hl 0 rfl) ?_
            refine w_iast hx hb hK hP hD hS 1 0 rfl rfl (i + 1) (by omega) (by omega) (by omega) d_Bc_nextRow_152 (fun H locs hP hD hS => ?_)
            have hP : va_P D classes [(o, .inr (1, [.ref wo, .ref ra])), (ra, ca cI 11 (iu (rwl (edr wt a (fun t => g (st + t)) pr) pr (i + 1)) (i + 1) (edr wt a (fun t => g (st + t)) pr (i + 1)))), (wo, .inr (5, [.ref wa])), (wa, ca cI 6 wt), (al, ca cI nL g)] H := hP
            have hD : va_D A [(o, .inr (1, [.ref wo, .ref ra])), (ra, ca cI 11 (iu (rwl (edr wt a (fun t => g (st + t)) pr) pr (i + 1)) (i + 1) (edr wt a (fun t => g (st + t)) pr (i + 1)))), (wo, .inr (5, [.ref wa])), (wa, ca cI 6 wt), (al, ca cI nL g)] := hD
            have eg : iu (rwl (edr wt a (fun t => g (st + t)) pr) pr (i + 1)) (i + 1) (edr wt a (fun t => g (st + t)) pr (i + 1)) = rwl (edr wt a (fun t => g (st + t)) pr) pr (i + 2) := rwl_s _ _ (i + 1)
            rw [eg] at hP hD
            clear eg
            refine w_iinc (k := 13) (lv' := [(11, .int (J ((i + 1 + 1 : Nat) : Int))), (10, .int (J (edr wt a (fun t => g (st + t)) pr (i + 1)))), (9, .int (J (pr (i + 1)))), (13, .int (J ((pr i) + (wt 2)))), (12, .int (J (g (st + i)))), (0, .ref o), (1, .int (J a)), (2, .ref al), (3, .int (J ((st : Nat) : Int))), (4, .int (J ((mm : Nat) : Int))), (5, .int (J (wt 0))), (6, .int (J (wt 1))), (7, .int (J (wt 2))), (8, .int (J (min (wt 2) (wt 3))))]) hx hb d_Bc_nextRow_153 hl rfl ((i + 1 + 1 : Nat) : Int) (by omega) (by decide) rfl (fun ls hl => ?_)
            refine lv_goto (tgt := 62) hx hb d_Bc_nextRow_156 (by decide) ?_
            exact ih_62 (i + 1) (by omega) (by omega) _ _ (P_map hP [0, 1, 2, 3, 4] rfl) (hD.sub [0, 1, 2, 3, 4] (by decide) rfl) hS ls (lv_sub hl [5, 6, 7, 8, 9, 10, 11, 12, 13, 2, 1, 0] rfl)
          · have hxc : xc wt a (g (st + i)) = min (wt 2) (wt 3) := by unfold xc; rw [if_neg (fun z => c_86 z.symm), if_pos c_102.symm]
            refine lv_iload hx hb d_Bc_nextRow_105 (lv_at hl 10 rfl) ?_
            refine lv_goto (tgt := 112) hx hb d_Bc_nextRow_107 (by decide) ?_
            refine w_iadd hx hb d_Bc_nextRow_112 ((pr i) + (min (wt 2) (wt 3))) (rfl) ?_
            refine lv_istore (lv' := [(13, .int (J ((pr i) + (min (wt 2) (wt 3))))), (12, .int (J (g (st + i)))), (0, .ref o), (1, .int (J a)), (2, .ref al), (3, .int (J ((st : Nat) : Int))), (4, .int (J ((mm : Nat) : Int))), (5, .int (J (wt 0))), (6, .int (J (wt 1))), (7, .int (J (wt 2))), (8, .int (J (min (wt 2) (wt 3)))), (9, .int (J (pr i))), (10, .int (J (edr wt a (fun t => g (st + t)) pr i))), (11, .int (J ((i + 1 : Nat) : Int)))]) hx hb d_Bc_nextRow_113 hl (by decide) rfl (fun ls hl => ?_)
            refine lv_aload_n hx hb d_Bc_nextRow_115 rfl (lv_at hl 2 rfl) ?_
            refine va_get (D := D) (ci := 1) (v := .ref ra) (C := R_Bc) (T := T_Bc) (N := 2) hx hb hts i_Bc hown hK hP 0 rfl rfl 1 (by decide) (hts _ mw_119) (fun _ h9 => h9) rfl d_Bc_nextRow_116 ?_
            refine lv_iload hx hb d_Bc_nextRow_119 (lv_at hl 13 rfl) ?_
            refine w_iald hx hb hK hP 1 0 rfl rfl (i + 1) (by omega) (by omega) (by omega) d_Bc_nextRow_121 ?_
            refine tp_J (y := pr (i + 1)) (rwl_ge _ _ (Nat.le_refl _)) ?_
            refine lv_istore (lv' := [(9, .int (J (pr (i + 1)))), (13, .int (J ((pr i) + (min (wt 2) (wt 3))))), (12, .int (J (g (st + i)))), (0, .ref o), (1, .int (J a)), (2, .ref al), (3, .int (J ((st : Nat) : Int))), (4, .int (J ((mm : Nat) : Int))), (5, .int (J (wt 0))), (6, .int (J (wt 1))), (7, .int (J (wt 2))), (8, .int (J (min (wt 2) (wt 3)))), (10, .int (J (edr wt a (fun t => g (st + t)) pr i))), (11, .int (J ((i + 1 : Nat) : Int)))]) hx hb d_Bc_nextRow_122 hl (by decide) rfl (fun ls hl => ?_)
            refine lv_iload hx hb d_Bc_nextRow_124 (lv_at hl 1 rfl) ?_
            refine lv_iload hx hb d_Bc_nextRow_126 (lv_at hl 12 rfl) ?_
            refine lv_iload hx hb d_Bc_nextRow_128 (lv_at hl 8 rfl) ?_
            refine w_iadd hx hb d_Bc_nextRow_130 ((edr wt a (fun t => g (st + t)) pr i) + (wt 0)) (rfl) ?_
            refine lv_iload hx hb d_Bc_nextRow_131 (lv_at hl 0 rfl) ?_
            refine lv_iload hx hb d_Bc_nextRow_133 (lv_at hl 9 rfl) ?_
            refine w_iadd hx hb d_Bc_nextRow_135 ((pr (i + 1)) + (wt 1)) (rfl) ?_
            refine w_mmin hx hb (by rw [hml]; exact hl.1.symm) hown (hts _ mw_351) (hts _ mw_347) (hts _ mw_34) (hts _ mw_348) (by decide) (Nat.le_of_ble_eq_true rfl) (by decide) (by decide) d_Bc_nextRow_136 (by omega) (by omega) ?_
            refine w_mmin hx hb (by rw [hml]; exact hl.1.symm) hown (hts _ mw_351) (hts _ mw_347) (hts _ mw_34) (hts _ mw_348) (by decide) (Nat.le_of_ble_eq_true rfl) (by decide) (by decide) d_Bc_nextRow_139 (by omega) (by omega) ?_
            refine tp_J (y := edr wt a (fun t => g (st + t)) pr (i + 1)) (by rw [edr, hxc]; try rw [Int.add_zero]) ?_
            refine lv_istore (lv' := [(10, .int (J (edr wt a (fun t => g (st + t)) pr (i + 1)))), (9, .int (J (pr (i + 1)))), (13, .int (J ((pr i) + (min (wt 2) (wt 3))))), (12, .int (J (g (st + i)))), (0, .ref o), (1, .int (J a)), (2, .ref al), (3, .int (J ((st : Nat) : Int))), (4, .int (J ((mm : Nat) : Int))), (5, .int (J (wt 0))), (6, .int (J (wt 1))), (7, .int (J (wt 2))), (8, .int (J (min (wt 2) (wt 3)))), (11, .int (J ((i + 1 : Nat) : Int)))]) hx hb d_Bc_nextRow_142 hl (by decide) rfl (fun ls hl => ?_)
            refine lv_aload_n hx hb d_Bc_nextRow_144 rfl (lv_at hl 4 rfl) ?_
            refine va_get (D := D) (ci := 1) (v := .ref ra) (C := R_Bc) (T := T_Bc) (N := 2) hx hb hts i_Bc hown hK hP 0 rfl rfl 1 (by decide) (hts _ mw_119) (fun _ h9 => h9) rfl d_Bc_nextRow_145 ?_
            refine lv_iload hx hb d_Bc_nextRow_148 (lv_at hl 13 rfl) ?_
            refine lv_iload hx hb d_Bc_nextRow_150 (lv_at hl 0 rfl) ?_
            refine w_iast hx hb hK hP hD hS 1 0 rfl rfl (i + 1) (by omega) (by omega) (by omega) d_Bc_nextRow_152 (fun H locs hP hD hS => ?_)
            have hP : va_P D classes [(o, .inr (1, [.ref wo, .ref ra])), (ra, ca cI 11 (iu (rwl (edr wt a (fun t => g (st + t)) pr) pr (i + 1)) (i + 1) (edr wt a (fun t => g (st + t)) pr (i + 1)))), (wo, .inr (5, [.ref wa])), (wa, ca cI 6 wt), (al, ca cI nL g)] H := hP
            have hD : va_D A [(o, .inr (1, [.ref wo, .ref ra])), (ra, ca cI 11 (iu (rwl (edr wt a (fun t => g (st + t)) pr) pr (i + 1)) (i + 1) (edr wt a (fun t => g (st + t)) pr (i + 1)))), (wo, .inr (5, [.ref wa])), (wa, ca cI 6 wt), (al, ca cI nL g)] := hD
            have eg : iu (rwl (edr wt a (fun t => g (st + t)) pr) pr (i + 1)) (i + 1) (edr wt a (fun t => g (st + t)) pr (i + 1)) = rwl (edr wt a (fun t => g (st + t)) pr) pr (i + 2) := rwl_s _ _ (i + 1)
            rw [eg] at hP hD
            clear eg
            refine w_iinc (k := 13) (lv' := [(11, .int (J ((i + 1 + 1 : Nat) : Int))), (10, .int (J (edr wt a (fun t => g (st + t)) pr (i + 1)))), (9, .int (J (pr (i + 1)))), (13, .int (J ((pr i) + (min (wt 2) (wt 3))))), (12, .int (J (g (st + i)))), (0, .ref o), (1, .int (J a)), (2, .ref al), (3, .int (J ((st : Nat) : Int))), (4, .int (J ((mm : Nat) : Int))), (5, .int (J (wt 0))), (6, .int (J (wt 1))), (7, .int (J (wt 2))), (8, .int (J (min (wt 2) (wt 3))))]) hx hb d_Bc_nextRow_153 hl rfl ((i + 1 + 1 : Nat) : Int) (by omega) (by decide) rfl (fun ls hl => ?_)
            refine lv_goto (tgt := 62) hx hb d_Bc_nextRow_156 (by decide) ?_
            exact ih_62 (i + 1) (by omega) (by omega) _ _ (P_map hP [0, 1, 2, 3, 4] rfl) (hD.sub [0, 1, 2, 3, 4] (by decide) rfl) hS ls (lv_sub hl [5, 6, 7, 8, 9, 10, 11, 12, 13, 2, 1, 0] rfl)
  exact lp_62 ((mm - 0) + 1) 0 (by omega) (Nat.lt_succ_self _) _ _ (P_map hP [0, 1, 2, 3, 4] rfl) (hD.sub [0, 1, 2, 3, 4] (by decide) rfl) hS ls (lv_sub hl [7, 8, 9, 10, 11, 6, 5, 4, 3, 2, 1, 0] rfl)
set_option maxHeartbeats 4000000 in
set_option maxRecDepth 100000 in
theorem c_Bc_between (l : Launch) (D : va_G) (cI cZ cJ : ClassId) (sz : Nat) (o : Nat) (wo : Nat) (wa : Nat) (ra : Nat) (wA : Nat) (aL : Nat) (aN : Nat) (wB : Nat) (bL : Nat) (bN : Nat) (nLA : Nat) (nA : Nat) (nLB : Nat) (nB : Nat) (ca1 : Int) (cb1 : Int) (wt : Nat → Int) (r0 : Nat → Int) (ga : Nat → Int) (la : Nat → Int) (gb : Nat → Int) (lt : Nat → Int) (w : Nat) (d : Nat) (hw : ∀ k, 0 ≤ wt k ∧ wt k ≤ 1000) (hla : ∀ k, 0 ≤ la k ∧ la k ≤ 10) (hlt : ∀ k, 0 ≤ lt k ∧ lt k ≤ 10) (hga : ∀ k, 0 ≤ ga k ∧ ga k < 26) (hgb : ∀ k, 0 ≤ gb k ∧ gb k < 26) (hA : w < nA ∧ nA ≤ 120 ∧ nLA = 10 * nA) (hB : d < nB ∧ nB ≤ 120 ∧ nLB = 10 * nB) (hr0 : ∀ k, 0 ≤ r0 k ∧ r0 k ≤ 100000) : Mi l y_Bc_between w_Bc_between ({ frames := 3, cells := 0, slots := 0, locals := 66 }) true D classes [(cI, .int), (cZ, .boolean), (cJ, .long)] sz [.ref o, .ref wA, .int (J ((w : Nat) : Int)), .ref wB, .int (J ((d : Nat) : Int))] [(o, .inr (1, [.ref wo, .ref ra])), (ra, ca cI 11 r0), (wo, .inr (5, [.ref wa])), (wa, ca cI 6 wt), (wA, .inr (6, [.ref aL, .ref aN, .int (J ca1)])), (aL, ca cI nLA ga), (aN, ca cI nA la), (wB, .inr (6, [.ref bL, .ref bN, .int (J cb1)])), (bL, ca cI nLB gb), (bN, ca cI nB lt)] (ed wt (fun t => ga (w * 10 + t)) (fun t => gb (d * 10 + t)) (la w).toNat (lt d).toNat) (S := Nat → Int) (fun f => ∀ k, 0 ≤ f k ∧ f k ≤ 100000) (fun u : Nat → Int => [(o, .inr (1, [.ref wo, .ref ra])), (ra, ca cI 11 u), (wo, .inr (5, [.ref wa])), (wa, ca cI 6 wt), (wA, .inr (6, [.ref aL, .ref aN, .int (J ca1)])), (aL, ca cI nLA ga), (aN, ca cI nA la), (wB, .inr (6, [.ref bL, .ref bN, .int (J cb1)])), (bL, ca cI nLB gb), (bN, ca cI nB lt)]) 0 0 := by
  refine Mi_of (cc := b_Bc_between) (maxL := 9) (by decide) rfl (Nat.le_of_ble_eq_true rfl) ?_
  intro p e s m args below meth c hx hb hr hml hts hown hlocks A hA hP hK hD hT hS Q hQ H hH ls hl
  subst hH
  have hl : lv_has ls 9 [(0, .ref o), (1, .ref wA), (2, .int (J ((w : Nat) : Int))), (3, .ref wB), (4, .int (J ((d : Nat) : Int)))] := hl
  have l1 := hla w
  have l2 := hlt d
  have w0 := hw 0
  refine lv_aload_n hx hb d_Bc_between_0 rfl (lv_at hl 3 rfl) ?_
  refine va_get (D := D) (ci := 6) (v := .ref bN) (C := R_Wo) (T := T_Wo) (N := 3) hx hb hts i_Wo hown hK hP 7 rfl rfl 1 (by decide) (hts _ mw_63) (fun _ h9 => h9) rfl d_Bc_between_1 ?_
  refine lv_iload hx hb d_Bc_between_4 (lv_at hl 4 rfl) ?_
  refine w_iald hx hb hK hP 9 0 rfl rfl d (by omega) (by omega) (by omega) d_Bc_between_6 ?_
  refine tp_J (y := (((lt d).toNat : Nat) : Int)) (by omega) ?_
  refine lv_istore (lv' := [(5, .int (J (((lt d).toNat : Nat) : Int))), (0, .ref o), (1, .ref wA), (2, .int (J ((w : Nat) : Int))), (3, .ref wB), (4, .int (J ((d : Nat) : Int)))]) hx hb d_Bc_between_7 hl (by decide) rfl (fun ls hl => ?_)
  refine lv_aload_n hx hb d_Bc_between_9 rfl (lv_at hl 1 rfl) ?_
  refine va_get (D := D) (ci := 1) (v := .ref wo) (C := R_Bc) (T := T_Bc) (N := 2) hx hb hts i_Bc hown hK hP 0 rfl rfl 0 (by decide) (hts _ mw_118) (fun _ h9 => h9) rfl d_Bc_between_10 ?_
  refine Ri_call (va_runV (As := []) (rest := []) ⟨hx, hb, hml, hown, hts⟩ (c_We_putIn l D cI cZ cJ wo wa wt ) (cwV 0 hts (g_V mw_325 mw_326 mw_327 mw_28 mw_328) rfl rfl rfl (by decide +kernel) ⟨Nat.le_of_ble_eq_true rfl, Nat.le_of_ble_eq_true rfl⟩) (pre_RV hP hK [2, 3] rfl 5 0 rfl rfl) rfl rfl hl.1 rfl (lv_room (Nat.le_of_ble_eq_true rfl)) d_Bc_between_13 ⟨Nat.le_of_ble_eq_true rfl, Nat.le_of_ble_eq_true rfl⟩) ?_
  refine lv_istore (lv' := [(6, .int (J (wt 0))), (5, .int (J (((lt d).toNat : Nat) : Int))), (0, .ref o), (1, .ref wA), (2, .int (J ((w : Nat) : Int))), (3, .ref wB), (4, .int (J ((d : Nat) : Int)))]) hx hb d_Bc_between_16 hl (by decide) rfl (fun ls hl => ?_)
  refine lv_iconst (v := J (0)) hx hb d_Bc_between_18 rfl ?_
  refine lv_istore (lv' := [(7, .int (J 0)), (6, .int (J (wt 0))), (5, .int (J (((lt d).toNat : Nat) : Int))), (0, .ref o), (1, .ref wA), (2, .int (J ((w : Nat) : Int))), (3, .ref wB), (4, .int (J ((d : Nat) : Int)))]) hx hb d_Bc_between_19 hl (by decide) rfl (fun ls hl => ?_)
  have lp_21 : ∀ (fu : Nat) (i : Nat), (i ≤ (lt d).toNat + 1) → ((lt d).toNat + 1 - i) < fu → ∀ (H : Heap) (locs : List Loc), va_P D classes [(o, .inr (1, [.ref wo, .ref ra])), (ra, ca cI 11 (rwl (ed0 wt) r0 i)), (wo, .inr (5, [.ref wa])), (wa, ca cI 6 wt), (wA, .inr (6, [.ref aL, .ref aN, .int (J ca1)])), (aL, ca cI nLA ga), (aN, ca cI nA la), (wB, .inr (6, [.ref bL, .ref bN, .int (J cb1)])), (bL, ca cI nLB gb), (bN, ca cI nB lt)] H → va_D A [(o, .inr (1, [.ref wo, .ref ra])), (ra, ca cI 11 (rwl (ed0 wt) r0 i)), (wo, .inr (5, [.ref wa])), (wa, ca cI 6 wt), (wA, .inr (6, [.ref aL, .ref aN, .int (J ca1)])), (aL, ca cI nLA ga), (aN, ca cI nA la), (wB, .inr (6, [.ref bL, .ref bN, .int (J cb1)])), (bL, ca cI nLB gb), (bN, ca cI nB lt)] → va_S A s.heap H locs → ∀ ls : Array Slot, lv_has ls 9 [(0, .ref o), (1, .ref wA), (2, .int (J ((w : Nat) : Int))), (3, .ref wB), (4, .int (J ((d : Nat) : Int))), (5, .int (J (((lt d).toNat : Nat) : Int))), (6, .int (J (wt 0))), (7, .int (J ((i : Nat) : Int)))] → W p l e ({ frames := 3, cells := 0, slots := 0, locals := 66 }) s m args below meth c H locs 0 0 Q (F0 m 21 ls []) := by
    intro fu
    induction fu with
    | zero => intro i hi hfu; exact absurd hfu (Nat.not_lt_zero _)
    | succ fu ih_21 =>
      intro i hi hfu H locs hP hD hS ls hl
      refine lv_iload hx hb d_Bc_between_21 (lv_at hl 7 rfl) ?_
      refine lv_iload hx hb d_Bc_between_23 (lv_at hl 5 rfl) ?_
      refine w_icmp_gt (tgt := 46) hx hb d_Bc_between_25 (by decide) (by omega) (by omega) (fun c_25 => ?_) (fun c_25 => ?_)
      · obtain rfl : i = (lt d).toNat + 1 := by omega
        refine lv_iload_n hx hb d_Bc_between_46 rfl (lv_at hl 2 rfl) ?_
        refine Ri_call (va_runS (As := [.int (J ((w : Nat) : Int))]) (rest := []) ⟨hx, hb, hml, hown, hts⟩ (c_Wo_startOf l D cI cZ cJ w ) (va_cwS 1 hts (g_S mw_329 mw_251 mw_27 mw_252) rfl rfl rfl (by decide +kernel) ⟨Nat.le_of_ble_eq_true rfl, Nat.le_of_ble_eq_true rfl⟩) (pre_RS hP hK [] rfl) rfl rfl hl.1 rfl (lv_room (Nat.le_of_ble_eq_true rfl)) d_Bc_between_47 ⟨Nat.le_of_ble_eq_true rfl, Nat.le_of_ble_eq_true rfl⟩) ?_
        refine lv_istore (lv' := [(7, .int (J ((w * 10 : Nat) : Int))), (0, .ref o), (1, .ref wA), (2, .int (J ((w : Nat) : Int))), (3, .ref wB), (4, .int (J ((d : Nat) : Int))), (5, .int (J (((lt d).toNat : Nat) : Int))), (6, .int (J (wt 0)))]) hx hb d_Bc_between_50 hl (by decide) rfl (fun ls hl => ?_)
        refine lv_iconst (v := J (0)) hx hb d_Bc_between_52 rfl ?_
        refine lv_istore (lv' := [(8, .int (J 0)), (7, .int (J ((w * 10 : Nat) : Int))), (0, .ref o), (1, .ref wA), (2, .int (J ((w : Nat) : Int))), (3, .ref wB), (4, .int (J ((d : Nat) : Int))), (5, .int (J (((lt d).toNat : Nat) : Int))), (6, .int (J (wt 0)))]) hx hb d_Bc_between_53 hl (by decide) rfl (fun ls hl => ?_)
        have lp_55 : ∀ (fu : Nat) (i : Nat), (i ≤ (la w).toNat) → ((la w).toNat - i) < fu → ∀ (H : Heap) (locs : List Loc), va_P D classes [(o, .inr (1, [.ref wo, .ref ra])), (ra, ca cI 11 (rwl (ed wt (fun t => ga (w * 10 + t)) (fun t => gb (d * 10 + t)) i) r0 ((lt d).toNat + 1))), (wo, .inr (5, [.ref wa])), (wa, ca cI 6 wt), (wA, .inr (6, [.ref aL, .ref aN, .int (J ca1)])), (aL, ca cI nLA ga), (aN, ca cI nA la), (wB, .inr (6, [.ref bL, .ref bN, .int (J cb1)])), (bL, ca cI nLB gb), (bN, ca cI nB lt)] H → va_D A [(o, .inr (1, [.ref wo, .ref ra])), (ra, ca cI 11 (rwl (ed wt (fun t => ga (w * 10 + t)) (fun t => gb (d * 10 + t)) i) r0 ((lt d).toNat + 1))), (wo, .inr (5, [.ref wa])), (wa, ca cI 6 wt), (wA, .inr (6, [.ref aL, .ref aN, .int (J ca1)])), (aL, ca cI nLA ga), (aN, ca cI nA la), (wB, .inr (6, [.ref bL, .ref bN, .int (J cb1)])), (bL, ca cI nLB gb), (bN, ca cI nB lt)] → va_S A s.heap H locs → ∀ ls : Array Slot, lv_has ls 9 [(0, .ref o), (1, .ref wA), (2, .int (J ((w : Nat) : Int))), (3, .ref wB), (4, .int (J ((d : Nat) : Int))), (5, .int (J (((lt d).toNat : Nat) : Int))), (7, .int (J ((w * 10 : Nat) : Int))), (8, .int (J ((i : Nat) : Int)))] → W p l e ({ frames := 3, cells := 0, slots := 0, locals := 66 }) s m args below meth c H locs 0 0 Q (F0 m 55 ls []) := by
          intro fu
          induction fu with
          | zero => intro i hi hfu; exact absurd hfu (Nat.not_lt_zero _)
          | succ fu ih_55 =>
            intro i hi hfu H locs hP hD hS ls hl
            have hpr : ∀ k, 0 ≤ rwl (ed wt (fun t => ga (w * 10 + t)) (fun t => gb (d * 10 + t)) i) r0 ((lt d).toNat + 1) k ∧ rwl (ed wt (fun t => ga (w * 10 + t)) (fun t => gb (d * 10 + t)) i) r0 ((lt d).toNat + 1) k ≤ 100000 := fun k => by
              have e1 := ed_rg hw (fun t => ga (w * 10 + t)) (fun t => gb (d * 10 + t)) i k
              have e2 := hr0 k
              unfold rwl
              split <;> omega
            refine lv_iload hx hb d_Bc_between_55 (lv_at hl 7 rfl) ?_
            refine lv_aload_n hx hb d_Bc_between_57 rfl (lv_at hl 1 rfl) ?_
            refine va_get (D := D) (ci := 6) (v := .ref aN) (C := R_Wo) (T := T_Wo) (N := 3) hx hb hts i_Wo hown hK hP 4 rfl rfl 1 (by decide) (hts _ mw_63) (fun _ h9 => h9) rfl d_Bc_between_58 ?_
            refine lv_iload_n hx hb d_Bc_between_61 rfl (lv_at hl 2 rfl) ?_
            refine w_iald hx hb hK hP 6 0 rfl rfl w (by omega) (by omega) (by omega) d_Bc_between_62 ?_
            refine tp_J (y := (((la w).toNat : Nat) : Int)) (by omega) ?_
            refine w_icmp_ge (tgt := 97) hx hb d_Bc_between_63 (by decide) (by omega) (by omega) (fun c_63 => ?_) (fun c_63 => ?_)
            · obtain rfl : i = (la w).toNat := by omega
              refine lv_aload_n hx hb d_Bc_between_97 rfl (lv_at hl 0 rfl) ?_
              refine va_get (D := D) (ci := 1) (v := .ref ra) (C := R_Bc) (T := T_Bc) (N := 2) hx hb hts i_Bc hown hK hP 0 rfl rfl 1 (by decide) (hts _ mw_119) (fun _ h9 => h9) rfl d_Bc_between_98 ?_
              refine lv_iload hx hb d_Bc_between_101 (lv_at hl 5 rfl) ?_
              refine w_iald hx hb hK hP 1 0 rfl rfl ((lt d).toNat) (by omega) (by omega) (by omega) d_Bc_between_103 ?_
              refine tp_J (y := ed wt (fun t => ga (w * 10 + t)) (fun t => gb (d * 10 + t)) (la w).toNat (lt d).toNat) (rwl_lt _ _ (Nat.lt_succ_self _)) ?_
              exact Mi_ret hx hb hr hlocks hQ d_Bc_between_104 hP hK hD hS nb_i (rfl) (rwl (ed wt (fun t => ga (w * 10 + t)) (fun t => gb (d * 10 + t)) (la w).toNat) r0 ((lt d).toNat + 1)) (hpr) [0, 1, 2, 3, 4, 5, 6, 7, 8, 9] rfl (by decide)
            · have g1 := hga (w * 10 + i)
              refine lv_aload_n hx hb d_Bc_between_66 rfl (lv_at hl 0 rfl) ?_
              refine lv_aload_n hx hb d_Bc_between_67 rfl (lv_at hl 1 rfl) ?_
              refine va_get (D := D) (ci := 6) (v := .ref aL) (C := R_Wo) (T := T_Wo) (N := 3) hx hb hts i_Wo hown hK hP 4 rfl rfl 0 (by decide) (hts _ mw_60) (fun _ h9 => h9) rfl d_Bc_between_68 ?_
              refine lv_iload hx hb d_Bc_between_71 (lv_at hl 6 rfl) ?_
              refine lv_iload hx hb d_Bc_between_73 (lv_at hl 7 rfl) ?_
              refine w_iadd hx hb d_Bc_between_75 (((w * 10) + i : Nat) : Int) (by omega) ?_
              refine w_iald hx hb hK hP 5 0 rfl rfl ((w * 10) + i) (by omega) (by omega) (by omega) d_Bc_between_76 ?_
              refine lv_aload_n hx hb d_Bc_between_77 rfl (lv_at hl 3 rfl) ?_
              refine va_get (D := D) (ci := 6) (v := .ref bL) (C := R_Wo) (T := T_Wo) (N := 3) hx hb hts i_Wo hown hK hP 7 rfl rfl 0 (by decide) (hts _ mw_60) (fun _ h9 => h9) rfl d_Bc_between_78 ?_
              refine lv_iload hx hb d_Bc_between_81 (lv_at hl 4 rfl) ?_
              refine Ri_call (va_runS (As := [.int (J ((d : Nat) : Int))]) (rest := [.ref bL, .int (J (ga ((w * 10) + i))), .ref o]) ⟨hx, hb, hml, hown, hts⟩ (c_Wo_startOf l D cI cZ cJ d ) (va_cwS 1 hts (g_S mw_329 mw_251 mw_27 mw_252) rfl rfl rfl (by decide +kernel) ⟨Nat.le_of_ble_eq_true rfl, Nat.le_of_ble_eq_true rfl⟩) (pre_RS hP hK [] rfl) rfl rfl hl.1 rfl (lv_room (Nat.le_of_ble_eq_true rfl)) d_Bc_between_83 ⟨Nat.le_of_ble_eq_true rfl, Nat.le_of_ble_eq_true rfl⟩) ?_
              refine lv_iload hx hb d_Bc_between_86 (lv_at hl 5 rfl) ?_
              refine Mv_call (wr := [(wA, .inr (6, [.ref aL, .ref aN, .int (J ca1)])), (aL, ca cI nLA ga), (aN, ca cI nA la), (wB, .inr (6, [.ref bL, .ref bN, .int (J cb1)])), (bN, ca cI nB lt)]) (va_runV (As := [.int (J (ga ((w * 10) + i))), .ref bL, .int (J ((d * 10 : Nat) : Int)), .int (J (((lt d).toNat : Nat) : Int))]) (rest := []) ⟨hx, hb, hml, hown, hts⟩ (c_Bc_nextRow l D cI cZ cJ H.size o wo wa ra bL nLB wt (rwl (ed wt (fun t => ga (w * 10 + t)) (fun t => gb (d * 10 + t)) i) r0 ((lt d).toNat + 1)) gb (ga ((w * 10) + i)) (d * 10) ((lt d).toNat) (by first | assumption | omega) (hpr) (hgb) (by first | assumption | omega) (by first | assumption | omega) (by first | assumption | omega) (by first | assumption | omega)) (cwV 4 hts (g_V mw_330 mw_332 mw_4 mw_29 mw_333) rfl rfl rfl (by decide +kernel) ⟨Nat.le_of_ble_eq_true rfl, Nat.le_of_ble_eq_true rfl⟩) (pre_WV hP hK hD [0, 1, 2, 3, 8] rfl (by decide) 1 0 rfl rfl (fun _ => (hT rfl).at hD hS hA [0, 1, 2, 3, 8] rfl)) rfl rfl hl.1 rfl (lv_room (Nat.le_of_ble_eq_true rfl)) d_Bc_between_88 ⟨Nat.le_of_ble_eq_true rfl, Nat.le_of_ble_eq_true rfl⟩) hP hD hS hA [0, 1, 2, 3, 8] [4, 5, 6, 7, 9] rfl rfl (by decide) (by decide) (fun _u H locs _hu hP hD hS => ?_)
              have hP : va_P D classes [(wA, .inr (6, [.ref aL, .ref aN, .int (J ca1)])), (aL, ca cI nLA ga), (aN, ca cI nA la), (wB, .inr (6, [.ref bL, .ref bN, .int (J cb1)])), (bN, ca cI nB lt), (o, .inr (1, [.ref wo, .ref ra])), (ra, ca cI 11 (rwl (edr wt (ga ((w * 10) + i)) (fun t => gb ((d * 10) + t)) (rwl (ed wt (fun t => ga (w * 10 + t)) (fun t => gb (d * 10 + t)) i) r0 ((lt d).toNat + 1))) (rwl (ed wt (fun t => ga (w * 10 + t)) (fun t => gb (d * 10 + t)) i) r0 ((lt d).toNat + 1)) (((lt d).toNat) + 1))), (wo, .inr (5, [.ref wa])), (wa, ca cI 6 wt), (bL, ca cI nLB gb)] H := hP
              have hD : va_D A [(wA, .inr (6, [.ref aL, .ref aN, .int (J ca1)])), (aL, ca cI nLA ga), (aN, ca cI nA la), (wB, .inr (6, [.ref bL, .ref bN, .int (J cb1)])), (bN, ca cI nB lt), (o, .inr (1, [.ref wo, .ref ra])), (ra, ca cI 11 (rwl (edr wt (ga ((w * 10) + i)) (fun t => gb ((d * 10) + t)) (rwl (ed wt (fun t => ga (w * 10 + t)) (fun t => gb (d * 10 + t)) i) r0 ((lt d).toNat + 1))) (rwl (ed wt (fun t => ga (w * 10 + t)) (fun t => gb (d * 10 + t)) i) r0 ((lt d).toNat + 1)) (((lt d).toNat) + 1))), (wo, .inr (5, [.ref wa])), (wa, ca cI 6 wt), (bL, ca cI nLB gb)] := hD
              have eg : rwl (edr wt (ga ((w * 10) + i)) (fun t => gb ((d * 10) + t)) (rwl (ed wt (fun t => ga (w * 10 + t)) (fun t => gb (d * 10 + t)) i) r0 ((lt d).toNat + 1))) (rwl (ed wt (fun t => ga (w * 10 + t)) (fun t => gb (d * 10 + t)) i) r0 ((lt d).toNat + 1)) (((lt d).toNat) + 1) = rwl (ed wt (fun t => ga (w * 10 + t)) (fun t => gb (d * 10 + t)) (i + 1)) r0 ((lt d).toNat + 1) := rwl_ed wt (fun t => ga (w * 10 + t)) (fun t => gb (d * 10 + t)) r0 i (lt d).toNat
              rw [eg] at hP hD
              clear eg
              refine w_iinc (k := 7) (lv' := [(8, .int (J ((i + 1 : Nat) : Int))), (0, .ref o), (1, .ref wA), (2, .int (J ((w : Nat) : Int))), (3, .ref wB), (4, .int (J ((d : Nat) : Int))), (5, .int (J (((lt d).toNat : Nat) : Int))), (7, .int (J ((w * 10 : Nat) : Int)))]) hx hb d_Bc_between_91 hl rfl ((i + 1 : Nat) : Int) (by omega) (by decide) rfl (fun ls hl => ?_)
              refine lv_goto (tgt := 55) hx hb d_Bc_between_94 (by decide) ?_
              exact ih_55 (i + 1) (by omega) (by omega) _ _ (P_map hP [5, 6, 7, 8, 0, 1, 2, 3, 9, 4] rfl) (hD.sub [5, 6, 7, 8, 0, 1, 2, 3, 9, 4] (by decide) rfl) hS ls (lv_sub hl [1, 2, 3, 4, 5, 6, 7, 0] rfl)
        have e9 : rwl (ed0 wt) r0 ((lt d).toNat + 1) = rwl (ed wt (fun t => ga (w * 10 + t)) (fun t => gb (d * 10 + t)) 0) r0 ((lt d).toNat + 1) := rfl
        exact lp_55 (((la w).toNat - 0) + 1) 0 (by omega) (Nat.lt_succ_self _) _ _ (P_map hP [0, 1, 2, 3, 4, 5, 6, 7, 8, 9] rfl) (hD.sub [0, 1, 2, 3, 4, 5, 6, 7, 8, 9] (by decide) rfl) hS ls (lv_sub hl [2, 3, 4, 5, 6, 7, 1, 0] rfl)
      · refine lv_aload_n hx hb d_Bc_between_28 rfl (lv_at hl 0 rfl) ?_
        refine va_get (D := D) (ci := 1) (v := .ref ra) (C := R_Bc) (T := T_Bc) (N := 2) hx hb hts i_Bc hown hK hP 0 rfl rfl 1 (by decide) (hts _ mw_119) (fun _ h9 => h9) rfl d_Bc_between_29 ?_
        refine lv_iload hx hb d_Bc_between_32 (lv_at hl 7 rfl) ?_
        refine lv_iload hx hb d_Bc_between_34 (lv_at hl 7 rfl) ?_
        refine lv_iload hx hb d_Bc_between_36 (lv_at hl 6 rfl) ?_
        refine w_imul hx hb d_Bc_between_38 (ed0 wt i) ((ed0_mul wt i).symm) ?_
        refine w_iast hx hb hK hP hD hS 1 0 rfl rfl i (by omega) (by omega) (by omega) d_Bc_between_39 (fun H locs hP hD hS => ?_)
        have hP : va_P D classes [(o, .inr (1, [.ref wo, .ref ra])), (ra, ca cI 11 (iu (rwl (ed0 wt) r0 i) i (ed0 wt i))), (wo, .inr (5, [.ref wa])), (wa, ca cI 6 wt), (wA, .inr (6, [.ref aL, .ref aN, .int (J ca1)])), (aL, ca cI nLA ga), (aN, ca cI nA la), (wB, .inr (6, [.ref bL, .ref bN, .int (J cb1)])), (bL, ca cI nLB gb), (bN, ca cI nB lt)] H := hP
        have hD : va_D A [(o, .inr (1, [.ref wo, .ref ra])), (ra, ca cI 11 (iu (rwl (ed0 wt) r0 i) i (ed0 wt i))), (wo, .inr (5, [.ref wa])), (wa, ca cI 6 wt), (wA, .inr (6, [.ref aL, .ref aN, .int (J ca1)])), (aL, ca cI nLA ga), (aN, ca cI nA la), (wB, .inr (6, [.ref bL, .ref bN, .int (J cb1)])), (bL, ca cI nLB gb), (bN, ca cI nB lt)] := hD
        have eg : iu (rwl (ed0 wt) r0 i) i (ed0 wt i) = rwl (ed0 wt) r0 (i + 1) := rwl_s _ _ i
        rw [eg] at hP hD
        clear eg
        refine w_iinc (k := 7) (lv' := [(7, .int (J ((i + 1 : Nat) : Int))), (0, .ref o), (1, .ref wA), (2, .int (J ((w : Nat) : Int))), (3, .ref wB), (4, .int (J ((d : Nat) : Int))), (5, .int (J (((lt d).toNat : Nat) : Int))), (6, .int (J (wt 0)))]) hx hb d_Bc_between_40 hl rfl ((i + 1 : Nat) : Int) (by omega) (by decide) rfl (fun ls hl => ?_)
        refine lv_goto (tgt := 21) hx hb d_Bc_between_43 (by decide) ?_
        exact ih_21 (i + 1) (by omega) (by omega) _ _ (P_map hP [0, 1, 2, 3, 4, 5, 6, 7, 8, 9] rfl) (hD.sub [0, 1, 2, 3, 4, 5, 6, 7, 8, 9] (by decide) rfl) hS ls (lv_sub hl [1, 2, 3, 4, 5, 6, 7, 0] rfl)
  rw [← rwl_0 (ed0 wt) r0] at hP hD
  exact lp_21 (((lt d).toNat + 1 - 0) + 1) 0 (by omega) (Nat.lt_succ_self _) _ _ (P_map hP [0, 1, 2, 3, 4, 5, 6, 7, 8, 9] rfl) (hD.sub [0, 1, 2, 3, 4, 5, 6, 7, 8, 9] (by decide) rfl) hS ls (lv_sub hl [3, 4, 5, 6, 7, 2, 1, 0] rfl)
end
section
/-- letters counted: the row of counts while the first i of x are counted -/
def ctf (x : Nat → Int) (i : Nat) : Nat → Int := fun c => cnt x i (c : Int)
theorem ctf_0 (x : Nat → Int) : ctf x 0 = fun _ => 0 := rfl
theorem ctf_s {x : Nat → Int} (i : Nat) (h : 0 ≤ x i ∧ x i < 26) : iu (ctf x i) (x i).toNat (ctf x i (x i).toNat + 1) = ctf x (i + 1) := by
  funext c
  by_cases e : c = (x i).toNat
  · subst e
    rw [iu_s]
    show cnt x i _ + 1 = cnt x i _ + (if x i = _ then 1 else 0)
    rw [if_pos (by omega)]
  · rw [iu_n _ _ e]
    show cnt x i _ = cnt x i _ + (if x i = _ then 1 else 0)
    rw [if_neg (by omega)]
    omega
/-- what is left of x's letters when the first j of v are taken off -/
def lft (x : Nat → Int) (n : Nat) (v : Nat → Int) (j : Nat) : Nat → Int := fun c => max 0 (cnt x n (c : Int) - cnt v j (c : Int))
theorem lft_0 (x : Nat → Int) (n : Nat) (v : Nat → Int) : ctf x n = lft x n v 0 := by
  funext c
  have := cnt_rg x n (c : Int)
  show cnt x n _ = max 0 (cnt x n _ - 0)
  omega
theorem lft_rg (x : Nat → Int) (n : Nat) (v : Nat → Int) (j c : Nat) : 0 ≤ lft x n v j c ∧ lft x n v j c ≤ (n : Int) := by
  have h1 := cnt_rg x n (c : Int)
  have h2 := cnt_rg v j (c : Int)
  unfold lft
  omega
theorem lft_s {x v : Nat → Int} {n : Nat} (j : Nat) (h : 0 ≤ v j ∧ v j < 26) (hp : 0 < lft x n v j (v j).toNat) : iu (lft x n v j) (v j).toNat (lft x n v j (v j).toNat - 1) = lft x n v (j + 1) ∧ shr x n v (j + 1) = shr x n v j + 1 := by
  have hc : (((v j).toNat : Nat) : Int) = v j := by omega
  have e1 : cnt v (j + 1) (v j) = cnt v j (v j) + 1 := by rw [cnt, if_pos rfl]
  constructor
  · funext c
    by_cases e : c = (v j).toNat
    · subst e
      rw [iu_s]
      unfold lft at hp ⊢
      rw [hc] at hp ⊢
      rw [e1]
      omega
    · rw [iu_n _ _ e]
      unfold lft
      have : cnt v (j + 1) (c : Int) = cnt v j (c : Int) := by rw [cnt, if_neg (by omega)]; omega
      rw [this]
  · unfold shr
    refine sm_at (k := (v j).toNat) (by omega) (fun c hcn => ?_) ?_
    · have : cnt v (j + 1) (c : Int) = cnt v j (c : Int) := by rw [cnt, if_neg (by omega)]; omega
      show min (cnt x n (c : Int)) (cnt v (j + 1) (c : Int)) = min (cnt x n (c : Int)) (cnt v j (c : Int))
      rw [this]
    · unfold lft at hp
      rw [hc] at hp
      show min (cnt x n _) (cnt v (j + 1) _) = min (cnt x n _) (cnt v j _) + 1
      rw [hc, e1]
      omega
theorem lft_k {x v : Nat → Int} {n : Nat} (j : Nat) (h : 0 ≤ v j ∧ v j < 26) (hp : lft x n v j (v j).toNat ≤ 0) : lft x n v j = lft x n v (j + 1) ∧ shr x n v (j + 1) = shr x n v j := by
  have hc : (((v j).toNat : Nat) : Int) = v j := by omega
  have e1 : cnt v (j + 1) (v j) = cnt v j (v j) + 1 := by rw [cnt, if_pos rfl]
  unfold lft at hp
  rw [hc] at hp
  constructor
  · funext c
    unfold lft
    by_cases e : c = (v j).toNat
    · subst e
      rw [hc, e1]
      omega
    · have : cnt v (j + 1) (c : Int) = cnt v j (c : Int) := by rw [cnt, if_neg (by omega)]; omega
      rw [this]
  · unfold shr
    refine sm_eq (fun c _ => ?_)
    by_cases e : c = (v j).toNat
    · subst e
      rw [hc, e1]
      omega
    · have : cnt v (j + 1) (c : Int) = cnt v j (c : Int) := by rw [cnt, if_neg (by omega)]; omega
      rw [this]
/-- the row of counts while the places of the first i of x are set back -/
def bck (x : Nat → Int) (i : Nat) (f : Nat → Int) : Nat → Int := fun c => if 0 < cnt x i (c : Int) then 0 else f c
theorem bck_0 (x f : Nat → Int) : bck x 0 f = f := by
  funext c
  unfold bck
  rw [if_neg (by simp [cnt])]
theorem bck_s {x : Nat → Int} (i : Nat) (f : Nat → Int) (h : 0 ≤ x i ∧ x i < 26) : iu (bck x i f) (x i).toNat 0 = bck x (i + 1) f := by
  funext c
  have h1 := cnt_rg x i (c : Int)
  by_cases e : c = (x i).toNat
  · subst e
    rw [iu_s]
    unfold bck
    rw [if_pos]
    rw [cnt, if_pos (by omega)]
    omega
  · rw [iu_n _ _ e]
    unfold bck
    have : cnt x (i + 1) (c : Int) = cnt x i (c : Int) := by rw [cnt, if_neg (by omega)]; omega
    rw [this]
theorem bck_e (x : Nat → Int) (n : Nat) (v : Nat → Int) (j : Nat) : bck x n (lft x n v j) = fun _ => 0 := by
  funext c
  have h1 := cnt_rg x n (c : Int)
  have h2 := cnt_rg v j (c : Int)
  unfold bck lft
  split
  · rfl
  · omega
theorem shr_0 (x : Nat → Int) (n : Nat) (v : Nat → Int) : shr x n v 0 = 0 := by
  unfold shr
  rw [sm_eq (g := fun _ => 0) (fun c _ => by have := cnt_rg x n (c : Int); show min (cnt x n (c : Int)) 0 = 0; omega), sm_0]
set_option maxHeartbeats 4000000 in
set_option maxRecDepth 100000 in
theorem c_Bn_sharedLetters (l : Launch) (D : va_G) (cI cZ cJ : ClassId) (sz : Nat) (o : Nat) (wo : Nat) (ra : Nat) (wA : Nat) (aL : Nat) (aN : Nat) (wB : Nat) (bL : Nat) (bN : Nat) (nLA : Nat) (nA : Nat) (nLB : Nat) (nB : Nat) (ca1 : Int) (cb1 : Int) (ga : Nat → Int) (la : Nat → Int) (gb : Nat → Int) (lt : Nat → Int) (w : Nat) (d : Nat) (hla : ∀ k, 0 ≤ la k ∧ la k ≤ 10) (hlt : ∀ k, 0 ≤ lt k ∧ lt k ≤ 10) (hga : ∀ k, 0 ≤ ga k ∧ ga k < 26) (hgb : ∀ k, 0 ≤ gb k ∧ gb k < 26) (hA : w < nA ∧ nA ≤ 120 ∧ nLA = 10 * nA) (hB : d < nB ∧ nB ≤ 120 ∧ nLB = 10 * nB) : Mi l y_Bn_sharedLetters w_Bn_sharedLetters ({ frames := 1, cells := 0, slots := 0, locals := 20 }) false D classes [(cI, .int), (cZ, .boolean), (cJ, .long)] sz [.ref o, .ref wA, .int (J ((w : Nat) : Int)), .ref wB, .int (J ((d : Nat) : Int))] [(o, .inr (2, [.ref wo, .ref ra])), (ra, ca cI 26 (fun _ => 0)), (wA, .inr (6, [.ref aL, .ref aN, .int (J ca1)])), (aL, ca cI nLA ga), (aN, ca cI nA la), (wB, .inr (6, [.ref bL, .ref bN, .int (J cb1)])), (bL, ca cI nLB gb), (bN, ca cI nB lt)] (shr (fun t => ga (w * 10 + t)) (la w).toNat (fun t => gb (d * 10 + t)) (lt d).toNat) (S := Unit) (fun _ => True) (fun u : Unit => [(o, .inr (2, [.ref wo, .ref ra])), (ra, ca cI 26 (fun _ => 0)), (wA, .inr (6, [.ref aL, .ref aN, .int (J ca1)])), (aL, ca cI nLA ga), (aN, ca cI nA la), (wB, .inr (6, [.ref bL, .ref bN, .int (J cb1)])), (bL, ca cI nLB gb), (bN, ca cI nB lt)]) 0 0 := by
  refine Mi_of (cc := b_Bn_sharedLetters) (maxL := 10) (by decide) rfl (Nat.le_of_ble_eq_true rfl) ?_
  intro p e s m args below meth c hx hb hr hml hts hown hlocks A hA hP hK hD hT hS Q hQ H hH ls hl
  subst hH
  have hl : lv_has ls 10 [(0, .ref o), (1, .ref wA), (2, .int (J ((w : Nat) : Int))), (3, .ref wB), (4, .int (J ((d : Nat) : Int)))] := hl
  have l1 := hla w
  have l2 := hlt d
  refine lv_iload_n hx hb d_Bn_sharedLetters_0 rfl (lv_at hl 2 rfl) ?_
  refine Ri_call (va_runS (As := [.int (J ((w : Nat) : Int))]) (rest := []) ⟨hx, hb, hml, hown, hts⟩ (c_Wo_startOf l D cI cZ cJ w ) (va_cwS 1 hts (g_S mw_362 mw_251 mw_27 mw_252) rfl rfl rfl (by decide +kernel) ⟨Nat.le_of_ble_eq_true rfl, Nat.le_of_ble_eq_true rfl⟩) (pre_RS hP hK [] rfl) rfl rfl hl.1 rfl (lv_room (Nat.le_of_ble_eq_true rfl)) d_Bn_sharedLetters_1 ⟨Nat.le_of_ble_eq_true rfl, Nat.le_of_ble_eq_true rfl⟩) ?_
  refine lv_istore (lv' := [(5, .int (J ((w * 10 : Nat) : Int))), (0, .ref o), (1, .ref wA), (2, .int (J ((w : Nat) : Int))), (3, .ref wB), (4, .int (J ((d : Nat) : Int)))]) hx hb d_Bn_sharedLetters_4 hl (by decide) rfl (fun ls hl => ?_)
  refine lv_iload hx hb d_Bn_sharedLetters_6 (lv_at hl 5 rfl) ?_
  refine Ri_call (va_runS (As := [.int (J ((d : Nat) : Int))]) (rest := []) ⟨hx, hb, hml, hown, hts⟩ (c_Wo_startOf l D cI cZ cJ d ) (va_cwS 1 hts (g_S mw_362 mw_251 mw_27 mw_252) rfl rfl rfl (by decide +kernel) ⟨Nat.le_of_ble_eq_true rfl, Nat.le_of_ble_eq_true rfl⟩) (pre_RS hP hK [] rfl) rfl rfl hl.1 rfl (lv_room (Nat.le_of_ble_eq_true rfl)) d_Bn_sharedLetters_8 ⟨Nat.le_of_ble_eq_true rfl, Nat.le_of_ble_eq_true rfl⟩) ?_
  refine lv_istore (lv' := [(6, .int (J ((d * 10 : Nat) : Int))), (5, .int (J ((w * 10 : Nat) : Int))), (0, .ref o), (1, .ref wA), (2, .int (J ((w : Nat) : Int))), (3, .ref wB), (4, .int (J ((d : Nat) : Int)))]) hx hb d_Bn_sharedLetters_11 hl (by decide) rfl (fun ls hl => ?_)
  refine lv_iconst (v := J (0)) hx hb d_Bn_sharedLetters_13 rfl ?_
  refine lv_istore (lv' := [(7, .int (J 0)), (6, .int (J ((d * 10 : Nat) : Int))), (5, .int (J ((w * 10 : Nat) : Int))), (0, .ref o), (1, .ref wA), (2, .int (J ((w : Nat) : Int))), (3, .ref wB), (4, .int (J ((d : Nat) : Int)))]) hx hb d_Bn_sharedLetters_14 hl (by decide) rfl (fun ls hl => ?_)
  have lp_16 : ∀ (fu : Nat) (i : Nat), (i ≤ (la w).toNat) → ((la w).toNat - i) < fu → ∀ (H : Heap) (locs : List Loc), va_P D classes [(o, .inr (2, [.ref wo, .ref ra])), (ra, ca cI 26 (ctf (fun t => ga (w * 10 + t)) i)), (wA, .inr (6, [.ref aL, .ref aN, .int (J ca1)])), (aL, ca cI nLA ga), (aN, ca cI nA la), (wB, .inr (6, [.ref bL, .ref bN, .int (J cb1)])), (bL, ca cI nLB gb), (bN, ca cI nB lt)] H → va_D A [(o, .inr (2, [.ref wo, .ref ra])), (ra, ca cI 26 (ctf (fun t => ga (w * 10 + t)) i)), (wA, .inr (6, [.ref aL, .ref aN, .int (J ca1)])), (aL, ca cI nLA ga), (aN, ca cI nA la), (wB, .inr (6, [.ref bL, .ref bN, .int (J cb1)])), (bL, ca cI nLB gb), (bN, ca cI nB lt)] → va_S A s.heap H locs → ∀ ls : Array Slot, lv_has ls 10 [(0, .ref o), (1, .ref wA), (2, .int (J ((w : Nat) : Int))), (3, .ref wB), (4, .int (J ((d : Nat) : Int))), (5, .int (J ((w * 10 : Nat) : Int))), (6, .int (J ((d * 10 : Nat) : Int))), (7, .int (J ((i : Nat) : Int)))] → W p l e ({ frames := 1, cells := 0, slots := 0, locals := 20 }) s m args below meth c H locs 0 0 Q (F0 m 16 ls []) := by
    intro fu
    induction fu with
    | zero => intro i hi hfu; exact absurd hfu (Nat.not_lt_zero _)
    | succ fu ih_16 =>
      intro i hi hfu H locs hP hD hS ls hl
      have g1 := hga (w * 10 + i)
      have c1 := cnt_rg (fun t => ga (w * 10 + t)) i (((ga (w * 10 + i)).toNat : Nat) : Int)
      refine lv_iload hx hb d_Bn_sharedLetters_16 (lv_at hl 7 rfl) ?_
      refine lv_aload_n hx hb d_Bn_sharedLetters_18 rfl (lv_at hl 1 rfl) ?_
      refine va_get (D := D) (ci := 6) (v := .ref aN) (C := R_Wo) (T := T_Wo) (N := 3) hx hb hts i_Wo hown hK hP 2 rfl rfl 1 (by decide) (hts _ mw_64) (fun _ h9 => h9) rfl d_Bn_sharedLetters_19 ?_
      refine lv_iload_n hx hb d_Bn_sharedLetters_22 rfl (lv_at hl 2 rfl) ?_
      refine w_iald hx hb hK hP 4 0 rfl rfl w (by omega) (by omega) (by omega) d_Bn_sharedLetters_23 ?_
      refine tp_J (y := (((la w).toNat : Nat) : Int)) (by omega) ?_
      refine w_icmp_ge (tgt := 52) hx hb d_Bn_sharedLetters_24 (by decide) (by omega) (by omega) (fun c_24 => ?_) (fun c_24 => ?_)
      · obtain rfl : i = (la w).toNat := by omega
        refine lv_iconst (v := J (0)) hx hb d_Bn_sharedLetters_52 rfl ?_
        refine lv_istore (lv' := [(7, .int (J 0)), (0, .ref o), (1, .ref wA), (2, .int (J ((w : Nat) : Int))), (3, .ref wB), (4, .int (J ((d : Nat) : Int))), (5, .int (J ((w * 10 : Nat) : Int))), (6, .int (J ((d * 10 : Nat) : Int)))]) hx hb d_Bn_sharedLetters_53 hl (by decide) rfl (fun ls hl => ?_)
        refine lv_iconst (v := J (0)) hx hb d_Bn_sharedLetters_55 rfl ?_
        refine lv_istore (lv' := [(8, .int (J 0)), (7, .int (J 0)), (0, .ref o), (1, .ref wA), (2, .int (J ((w : Nat) : Int))), (3, .ref wB), (4, .int (J ((d : Nat) : Int))), (5, .int (J ((w * 10 : Nat) : Int))), (6, .int (J ((d * 10 : Nat) : Int)))]) hx hb d_Bn_sharedLetters_56 hl (by decide) rfl (fun ls hl => ?_)
        have lp_58 : ∀ (fu : Nat) (j : Nat) (t : Int), (j ≤ (lt d).toNat) → (t = shr (fun t => ga (w * 10 + t)) (la w).toNat (fun t => gb (d * 10 + t)) j) → ((lt d).toNat - j) < fu → ∀ (H : Heap) (locs : List Loc), va_P D classes [(o, .inr (2, [.ref wo, .ref ra])), (ra, ca cI 26 (lft (fun t => ga (w * 10 + t)) (la w).toNat (fun t => gb (d * 10 + t)) j)), (wA, .inr (6, [.ref aL, .ref aN, .int (J ca1)])), (aL, ca cI nLA ga), (aN, ca cI nA la), (wB, .inr (6, [.ref bL, .ref bN, .int (J cb1)])), (bL, ca cI nLB gb), (bN, ca cI nB lt)] H → va_D A [(o, .inr (2, [.ref wo, .ref ra])), (ra, ca cI 26 (lft (fun t => ga (w * 10 + t)) (la w).toNat (fun t => gb (d * 10 + t)) j)), (wA, .inr (6, [.ref aL, .ref aN, .int (J ca1)])), (aL, ca cI nLA ga), (aN, ca cI nA la), (wB, .inr (6, [.ref bL, .ref bN, .int (J cb1)])), (bL, ca cI nLB gb), (bN, ca cI nB lt)] → va_S A s.heap H locs → ∀ ls : Array Slot, lv_has ls 10 [(0, .ref o), (1, .ref wA), (2, .int (J ((w : Nat) : Int))), (3, .ref wB), (4, .int (J ((d : Nat) : Int))), (5, .int (J ((w * 10 : Nat) : Int))), (6, .int (J ((d * 10 : Nat) : Int))), (7, .int (J t)), (8, .int (J ((j : Nat) : Int)))] → W p l e ({ frames := 1, cells := 0, slots := 0, locals := 20 }) s m args below meth c H locs 0 0 Q (F0 m 58 ls []) := by
          intro fu
          induction fu with
          | zero => intro j t hj ht hfu; exact absurd hfu (Nat.not_lt_zero _)
          | succ fu ih_58 =>
            intro j t hj ht hfu H locs hP hD hS ls hl
            have g2 := hgb (d * 10 + j)
            have c2 := lft_rg (fun t => ga (w * 10 + t)) (la w).toNat (fun t => gb (d * 10 + t)) j (gb (d * 10 + j)).toNat
            refine lv_iload hx hb d_Bn_sharedLetters_58 (lv_at hl 8 rfl) ?_
            refine lv_aload_n hx hb d_Bn_sharedLetters_60 rfl (lv_at hl 3 rfl) ?_
            refine va_get (D := D) (ci := 6) (v := .ref bN) (C := R_Wo) (T := T_Wo) (N := 3) hx hb hts i_Wo hown hK hP 5 rfl rfl 1 (by decide) (hts _ mw_64) (fun _ h9 => h9) rfl d_Bn_sharedLetters_61 ?_
            refine lv_iload hx hb d_Bn_sharedLetters_64 (lv_at hl 4 rfl) ?_
            refine w_iald hx hb hK hP 7 0 rfl rfl d (by omega) (by omega) (by omega) d_Bn_sharedLetters_66 ?_
            refine tp_J (y := (((lt d).toNat : Nat) : Int)) (by omega) ?_
            refine w_icmp_ge (tgt := 112) hx hb d_Bn_sharedLetters_67 (by decide) (by omega) (by omega) (fun c_67 => ?_) (fun c_67 => ?_)
            · obtain rfl : j = (lt d).toNat := by omega
              subst ht
              refine lv_iconst (v := J (0)) hx hb d_Bn_sharedLetters_112 rfl ?_
              refine lv_istore (lv' := [(8, .int (J 0)), (0, .ref o), (1, .ref wA), (2, .int (J ((w : Nat) : Int))), (3, .ref wB), (4, .int (J ((d : Nat) : Int))), (5, .int (J ((w * 10 : Nat) : Int))), (6, .int (J ((d * 10 : Nat) : Int))), (7, .int (J (shr (fun t => ga (w * 10 + t)) (la w).toNat (fun t => gb (d * 10 + t)) (lt d).toNat)))]) hx hb d_Bn_sharedLetters_113 hl (by decide) rfl (fun ls hl => ?_)
              have lp_115 : ∀ (fu : Nat) (i : Nat), (i ≤ (la w).toNat) → ((la w).toNat - i) < fu → ∀ (H : Heap) (locs : List Loc), va_P D classes [(o, .inr (2, [.ref wo, .ref ra])), (ra, ca cI 26 (bck (fun t => ga (w * 10 + t)) i (lft (fun t => ga (w * 10 + t)) (la w).toNat (fun t => gb (d * 10 + t)) (lt d).toNat))), (wA, .inr (6, [.ref aL, .ref aN, .int (J ca1)])), (aL, ca cI nLA ga), (aN, ca cI nA la), (wB, .inr (6, [.ref bL, .ref bN, .int (J cb1)])), (bL, ca cI nLB gb), (bN, ca cI nB lt)] H → va_D A [(o, .inr (2, [.ref wo, .ref ra])), (ra, ca cI 26 (bck (fun t => ga (w * 10 + t)) i (lft (fun t => ga (w * 10 + t)) (la w).toNat (fun t => gb (d * 10 + t)) (lt d).toNat))), (wA, .inr (6, [.ref aL, .ref aN, .int (J ca1)])), (aL, ca cI nLA ga), (aN, ca cI nA la), (wB, .inr (6, [.ref bL, .ref bN, .int (J cb1)])), (bL, ca cI nLB gb), (bN, ca cI nB lt)] → va_S A s.heap H locs → ∀ ls : Array Slot, lv_has ls 10 [(0, .ref o), (1, .ref wA), (2, .int (J ((w : Nat) : Int))), (3, .ref wB), (4, .int (J ((d : Nat) : Int))), (5, .int (J ((w * 10 : Nat) : Int))), (6, .int (J ((d * 10 : Nat) : Int))), (7, .int (J (shr (fun t => ga (w * 10 + t)) (la w).toNat (fun t => gb (d * 10 + t)) (lt d).toNat))), (8, .int (J ((i : Nat) : Int)))] → W p l e ({ frames := 1, cells := 0, slots := 0, locals := 20 }) s m args below meth c H locs 0 0 Q (F0 m 115 ls []) := by
                intro fu
                induction fu with
                | zero => intro i hi hfu; exact absurd hfu (Nat.not_lt_zero _)
                | succ fu ih_115 =>
                  intro i hi hfu H locs hP hD hS ls hl
                  have g1 := hga (w * 10 + i)
                  refine lv_iload hx hb d_Bn_sharedLetters_115 (lv_at hl 8 rfl) ?_
                  refine lv_aload_n hx hb d_Bn_sharedLetters_117 rfl (lv_at hl 1 rfl) ?_
                  refine va_get (D := D) (ci := 6) (v := .ref aN) (C := R_Wo) (T := T_Wo) (N := 3) hx hb hts i_Wo hown hK hP 2 rfl rfl 1 (by decide) (hts _ mw_64) (fun _ h9 => h9) rfl d_Bn_sharedLetters_118 ?_
                  refine lv_iload_n hx hb d_Bn_sharedLetters_121 rfl (lv_at hl 2 rfl) ?_
                  refine w_iald hx hb hK hP 4 0 rfl rfl w (by omega) (by omega) (by omega) d_Bn_sharedLetters_122 ?_
                  refine tp_J (y := (((la w).toNat : Nat) : Int)) (by omega) ?_
                  refine w_icmp_ge (tgt := 148) hx hb d_Bn_sharedLetters_123 (by decide) (by omega) (by omega) (fun c_123 => ?_) (fun c_123 => ?_)
                  · obtain rfl : i = (la w).toNat := by omega
                    have eg : bck (fun t => ga (w * 10 + t)) ((la w).toNat) (lft (fun t => ga (w * 10 + t)) (la w).toNat (fun t => gb (d * 10 + t)) (lt d).toNat) = (fun _ => 0) := bck_e _ _ _ _
                    rw [eg] at hP hD
                    clear eg
                    refine lv_iload hx hb d_Bn_sharedLetters_148 (lv_at hl 7 rfl) ?_
                    exact Mi_ret hx hb hr hlocks hQ d_Bn_sharedLetters_150 hP hK hD hS nb_i (rfl) () (trivial) [0, 1, 2, 3, 4, 5, 6, 7] rfl (by decide)
                  · refine lv_aload_n hx hb d_Bn_sharedLetters_126 rfl (lv_at hl 0 rfl) ?_
                    refine va_get (D := D) (ci := 2) (v := .ref ra) (C := R_Bn) (T := T_Bn) (N := 2) hx hb hts i_Bn hown hK hP 0 rfl rfl 1 (by decide) (hts _ mw_132) (fun _ h9 => h9) rfl d_Bn_sharedLetters_127 ?_
                    refine lv_aload_n hx hb d_Bn_sharedLetters_130 rfl (lv_at hl 1 rfl) ?_
                    refine va_get (D := D) (ci := 6) (v := .ref aL) (C := R_Wo) (T := T_Wo) (N := 3) hx hb hts i_Wo hown hK hP 2 rfl rfl 0 (by decide) (hts _ mw_61) (fun _ h9 => h9) rfl d_Bn_sharedLetters_131 ?_
                    refine lv_iload hx hb d_Bn_sharedLetters_134 (lv_at hl 5 rfl) ?_
                    refine lv_iload hx hb d_Bn_sharedLetters_136 (lv_at hl 8 rfl) ?_
                    refine w_iadd hx hb d_Bn_sharedLetters_138 (((w * 10) + i : Nat) : Int) (by omega) ?_
                    refine w_iald hx hb hK hP 3 0 rfl rfl ((w * 10) + i) (by omega) (by omega) (by omega) d_Bn_sharedLetters_139 ?_
                    refine lv_iconst (v := J (0)) hx hb d_Bn_sharedLetters_140 rfl ?_
                    refine w_iast hx hb hK hP hD hS 1 0 rfl rfl ((ga ((w * 10) + i)).toNat) (by omega) (by omega) (by omega) d_Bn_sharedLetters_141 (fun H locs hP hD hS => ?_)
                    have hP : va_P D classes [(o, .inr (2, [.ref wo, .ref ra])), (ra, ca cI 26 (iu (bck (fun t => ga (w * 10 + t)) i (lft (fun t => ga (w * 10 + t)) (la w).toNat (fun t => gb (d * 10 + t)) (lt d).toNat)) ((ga ((w * 10) + i)).toNat) 0)), (wA, .inr (6, [.ref aL, .ref aN, .int (J ca1)])), (aL, ca cI nLA ga), (aN, ca cI nA la), (wB, .inr (6, [.ref bL, .ref bN, .int (J cb1)])), (bL, ca cI nLB gb), (bN, ca cI nB lt)] H := hP
                    have hD : va_D A [(o, .inr (2, [.ref wo, .ref ra])), (ra, ca cI 26 (iu (bck (fun t => ga (w * 10 + t)) i (lft (fun t => ga (w * 10 + t)) (la w).toNat (fun t => gb (d * 10 + t)) (lt d).toNat)) ((ga ((w * 10) + i)).toNat) 0)), (wA, .inr (6, [.ref aL, .ref aN, .int (J ca1)])), (aL, ca cI nLA ga), (aN, ca cI nA la), (wB, .inr (6, [.ref bL, .ref bN, .int (J cb1)])), (bL, ca cI nLB gb), (bN, ca cI nB lt)] := hD
                    have eg : iu (bck (fun t => ga (w * 10 + t)) i (lft (fun t => ga (w * 10 + t)) (la w).toNat (fun t => gb (d * 10 + t)) (lt d).toNat)) ((ga ((w * 10) + i)).toNat) 0 = bck (fun t => ga (w * 10 + t)) (i + 1) (lft (fun t => ga (w * 10 + t)) (la w).toNat (fun t => gb (d * 10 + t)) (lt d).toNat) := bck_s (x := (fun t => ga (w * 10 + t))) i _ g1
                    rw [eg] at hP hD
                    clear eg
                    refine w_iinc (k := 8) (lv' := [(8, .int (J ((i + 1 : Nat) : Int))), (0, .ref o), (1, .ref wA), (2, .int (J ((w : Nat) : Int))), (3, .ref wB), (4, .int (J ((d : Nat) : Int))), (5, .int (J ((w * 10 : Nat) : Int))), (6, .int (J ((d * 10 : Nat) : Int))), (7, .int (J (shr (fun t => ga (w * 10 + t)) (la w).toNat (fun t => gb (d * 10 + t)) (lt d).toNat)))]) hx hb d_Bn_sharedLetters_142 hl rfl ((i + 1 : Nat) : Int) (by omega) (by decide) rfl (fun ls hl => ?_)
                    refine lv_goto (tgt := 115) hx hb d_Bn_sharedLetters_145 (by decide) ?_
                    exact ih_115 (i + 1) (by omega) (by omega) _ _ (P_map hP [0, 1, 2, 3, 4, 5, 6, 7] rfl) (hD.sub [0, 1, 2, 3, 4, 5, 6, 7] (by decide) rfl) hS ls (lv_sub hl [1, 2, 3, 4, 5, 6, 7, 8, 0] rfl)
              rw [← bck_0 (fun t => ga (w * 10 + t)) (lft (fun t => ga (w * 10 + t)) (la w).toNat (fun t => gb (d * 10 + t)) (lt d).toNat)] at hP hD
              exact lp_115 (((la w).toNat - 0) + 1) 0 (by omega) (Nat.lt_succ_self _) _ _ (P_map hP [0, 1, 2, 3, 4, 5, 6, 7] rfl) (hD.sub [0, 1, 2, 3, 4, 5, 6, 7] (by decide) rfl) hS ls (lv_sub hl [1, 2, 3, 4, 5, 6, 7, 8, 0] rfl)
            · refine lv_aload_n hx hb d_Bn_sharedLetters_70 rfl (lv_at hl 3 rfl) ?_
              refine va_get (D := D) (ci := 6) (v := .ref bL) (C := R_Wo) (T := T_Wo) (N := 3) hx hb hts i_Wo hown hK hP 5 rfl rfl 0 (by decide) (hts _ mw_61) (fun _ h9 => h9) rfl d_Bn_sharedLetters_71 ?_
              refine lv_iload hx hb d_Bn_sharedLetters_74 (lv_at hl 6 rfl) ?_
              refine lv_iload hx hb d_Bn_sharedLetters_76 (lv_at hl 8 rfl) ?_
              refine w_iadd hx hb d_Bn_sharedLetters_78 (((d * 10) + j : Nat) : Int) (by omega) ?_
              refine w_iald hx hb hK hP 6 0 rfl rfl ((d * 10) + j) (by omega) (by omega) (by omega) d_Bn_sharedLetters_79 ?_
              refine lv_istore (lv' := [(9, .int (J (gb ((d * 10) + j)))), (0, .ref o), (1, .ref wA), (2, .int (J ((w : Nat) : Int))), (3, .ref wB), (4, .int (J ((d : Nat) : Int))), (5, .int (J ((w * 10 : Nat) : Int))), (6, .int (J ((d * 10 : Nat) : Int))), (7, .int (J t)), (8, .int (J ((j : Nat) : Int)))]) hx hb d_Bn_sharedLetters_80 hl (by decide) rfl (fun ls hl => ?_)
              refine lv_aload_n hx hb d_Bn_sharedLetters_82 rfl (lv_at hl 1 rfl) ?_
              refine va_get (D := D) (ci := 2) (v := .ref ra) (C := R_Bn) (T := T_Bn) (N := 2) hx hb hts i_Bn hown hK hP 0 rfl rfl 1 (by decide) (hts _ mw_132) (fun _ h9 => h9) rfl d_Bn_sharedLetters_83 ?_
              refine lv_iload hx hb d_Bn_sharedLetters_86 (lv_at hl 0 rfl) ?_
              refine w_iald hx hb hK hP 1 0 rfl rfl ((gb ((d * 10) + j)).toNat) (by omega) (by omega) (by omega) d_Bn_sharedLetters_88 ?_
              refine w_if_le (tgt := 106) hx hb d_Bn_sharedLetters_89 (by decide) (by omega) (fun c_89 => ?_) (fun c_89 => ?_)
              · refine w_iinc (k := 9) (lv' := [(8, .int (J ((j + 1 : Nat) : Int))), (9, .int (J (gb ((d * 10) + j)))), (0, .ref o), (1, .ref wA), (2, .int (J ((w : Nat) : Int))), (3, .ref wB), (4, .int (J ((d : Nat) : Int))), (5, .int (J ((w * 10 : Nat) : Int))), (6, .int (J ((d * 10 : Nat) : Int))), (7, .int (J t))]) hx hb d_Bn_sharedLetters_106 hl rfl ((j + 1 : Nat) : Int) (by omega) (by decide) rfl (fun ls hl => ?_)
                refine lv_goto (tgt := 58) hx hb d_Bn_sharedLetters_109 (by decide) ?_
                have e9 := lft_k (x := (fun t => ga (w * 10 + t))) (v := (fun t => gb (d * 10 + t))) (n := (la w).toNat) j g2 c_89
                rw [e9.1] at hP hD
                exact ih_58 (j + 1) t (by omega) (by rw [e9.2]; exact ht) (by omega) _ _ (P_map hP [0, 1, 2, 3, 4, 5, 6, 7] rfl) (hD.sub [0, 1, 2, 3, 4, 5, 6, 7] (by decide) rfl) hS ls (lv_sub hl [2, 3, 4, 5, 6, 7, 8, 9, 0] rfl)
              · refine lv_aload_n hx hb d_Bn_sharedLetters_92 rfl (lv_at hl 1 rfl) ?_
                refine va_get (D := D) (ci := 2) (v := .ref ra) (C := R_Bn) (T := T_Bn) (N := 2) hx hb hts i_Bn hown hK hP 0 rfl rfl 1 (by decide) (hts _ mw_132) (fun _ h9 => h9) rfl d_Bn_sharedLetters_93 ?_
                refine lv_iload hx hb d_Bn_sharedLetters_96 (lv_at hl 0 rfl) ?_
                refine lv_dup2_11 hx hb d_Bn_sharedLetters_98 rfl rfl ?_
                refine w_iald hx hb hK hP 1 0 rfl rfl ((gb ((d * 10) + j)).toNat) (by omega) (by omega) (by omega) d_Bn_sharedLetters_99 ?_
                refine lv_iconst (v := J (1)) hx hb d_Bn_sharedLetters_100 rfl ?_
                refine w_isub hx hb d_Bn_sharedLetters_101 (((lft (fun t => ga (w * 10 + t)) (la w).toNat (fun t => gb (d * 10 + t)) j) ((gb ((d * 10) + j)).toNat)) - 1) (rfl) ?_
                refine w_iast hx hb hK hP hD hS 1 0 rfl rfl ((gb ((d * 10) + j)).toNat) (by omega) (by omega) (by omega) d_Bn_sharedLetters_102 (fun H locs hP hD hS => ?_)
                have hP : va_P D classes [(o, .inr (2, [.ref wo, .ref ra])), (ra, ca cI 26 (iu (lft (fun t => ga (w * 10 + t)) (la w).toNat (fun t => gb (d * 10 + t)) j) ((gb ((d * 10) + j)).toNat) (((lft (fun t => ga (w * 10 + t)) (la w).toNat (fun t => gb (d * 10 + t)) j) ((gb ((d * 10) + j)).toNat)) - 1))), (wA, .inr (6, [.ref aL, .ref aN, .int (J ca1)])), (aL, ca cI nLA ga), (aN, ca cI nA la), (wB, .inr (6, [.ref bL, .ref bN, .int (J cb1)])), (bL, ca cI nLB gb), (bN, ca cI nB lt)] H := hP
                have hD : va_D A [(o, .inr (2, [.ref wo, .ref ra])), (ra, ca cI 26 (iu (lft (fun t => ga (w * 10 + t)) (la w).toNat (fun t => gb (d * 10 + t)) j) ((gb ((d * 10) + j)).toNat) (((lft (fun t => ga (w * 10 + t)) (la w).toNat (fun t => gb (d * 10 + t)) j) ((gb ((d * 10) + j)).toNat)) - 1))), (wA, .inr (6, [.ref aL, .ref aN, .int (J ca1)])), (aL, ca cI nLA ga), (aN, ca cI nA la), (wB, .inr (6, [.ref bL, .ref bN, .int (J cb1)])), (bL, ca cI nLB gb), (bN, ca cI nB lt)] := hD
                have eg : iu (lft (fun t => ga (w * 10 + t)) (la w).toNat (fun t => gb (d * 10 + t)) j) ((gb ((d * 10) + j)).toNat) (((lft (fun t => ga (w * 10 + t)) (la w).toNat (fun t => gb (d * 10 + t)) j) ((gb ((d * 10) + j)).toNat)) - 1) = lft (fun t => ga (w * 10 + t)) (la w).toNat (fun t => gb (d * 10 + t)) (j + 1) := (lft_s (x := (fun t => ga (w * 10 + t))) (v := (fun t => gb (d * 10 + t))) (n := (la w).toNat) j g2 c_89).1
                rw [eg] at hP hD
                clear eg
                refine w_iinc (k := 8) (lv' := [(7, .int (J (t + 1))), (9, .int (J (gb ((d * 10) + j)))), (0, .ref o), (1, .ref wA), (2, .int (J ((w : Nat) : Int))), (3, .ref wB), (4, .int (J ((d : Nat) : Int))), (5, .int (J ((w * 10 : Nat) : Int))), (6, .int (J ((d * 10 : Nat) : Int))), (8, .int (J ((j : Nat) : Int)))]) hx hb d_Bn_sharedLetters_103 hl rfl (t + 1) (by omega) (by decide) rfl (fun ls hl => ?_)
                refine w_iinc (k := 9) (lv' := [(8, .int (J ((j + 1 : Nat) : Int))), (7, .int (J (t + 1))), (9, .int (J (gb ((d * 10) + j)))), (0, .ref o), (1, .ref wA), (2, .int (J ((w : Nat) : Int))), (3, .ref wB), (4, .int (J ((d : Nat) : Int))), (5, .int (J ((w * 10 : Nat) : Int))), (6, .int (J ((d * 10 : Nat) : Int)))]) hx hb d_Bn_sharedLetters_106 hl rfl ((j + 1 : Nat) : Int) (by omega) (by decide) rfl (fun ls hl => ?_)
                refine lv_goto (tgt := 58) hx hb d_Bn_sharedLetters_109 (by decide) ?_
                have e9 := lft_s (x := (fun t => ga (w * 10 + t))) (v := (fun t => gb (d * 10 + t))) (n := (la w).toNat) j g2 c_89
                exact ih_58 (j + 1) (t + 1) (by omega) (by rw [e9.2, ht]) (by omega) _ _ (P_map hP [0, 1, 2, 3, 4, 5, 6, 7] rfl) (hD.sub [0, 1, 2, 3, 4, 5, 6, 7] (by decide) rfl) hS ls (lv_sub hl [3, 4, 5, 6, 7, 8, 9, 1, 0] rfl)
        rw [lft_0 (fun t => ga (w * 10 + t)) (la w).toNat (fun t => gb (d * 10 + t))] at hP hD
        exact lp_58 (((lt d).toNat - 0) + 1) 0 0 (by omega) ((shr_0 _ _ _).symm) (Nat.lt_succ_self _) _ _ (P_map hP [0, 1, 2, 3, 4, 5, 6, 7] rfl) (hD.sub [0, 1, 2, 3, 4, 5, 6, 7] (by decide) rfl) hS ls (lv_sub hl [2, 3, 4, 5, 6, 7, 8, 1, 0] rfl)
      · refine lv_aload_n hx hb d_Bn_sharedLetters_27 rfl (lv_at hl 0 rfl) ?_
        refine va_get (D := D) (ci := 2) (v := .ref ra) (C := R_Bn) (T := T_Bn) (N := 2) hx hb hts i_Bn hown hK hP 0 rfl rfl 1 (by decide) (hts _ mw_132) (fun _ h9 => h9) rfl d_Bn_sharedLetters_28 ?_
        refine lv_aload_n hx hb d_Bn_sharedLetters_31 rfl (lv_at hl 1 rfl) ?_
        refine va_get (D := D) (ci := 6) (v := .ref aL) (C := R_Wo) (T := T_Wo) (N := 3) hx hb hts i_Wo hown hK hP 2 rfl rfl 0 (by decide) (hts _ mw_61) (fun _ h9 => h9) rfl d_Bn_sharedLetters_32 ?_
        refine lv_iload hx hb d_Bn_sharedLetters_35 (lv_at hl 5 rfl) ?_
        refine lv_iload hx hb d_Bn_sharedLetters_37 (lv_at hl 7 rfl) ?_
        refine w_iadd hx hb d_Bn_sharedLetters_39 (((w * 10) + i : Nat) : Int) (by omega) ?_
        refine w_iald hx hb hK hP 3 0 rfl rfl ((w * 10) + i) (by omega) (by omega) (by omega) d_Bn_sharedLetters_40 ?_
        refine lv_dup2_11 hx hb d_Bn_sharedLetters_41 rfl rfl ?_
        refine w_iald hx hb hK hP 1 0 rfl rfl ((ga ((w * 10) + i)).toNat) (by omega) (by omega) (by omega) d_Bn_sharedLetters_42 ?_
        refine lv_iconst (v := J (1)) hx hb d_Bn_sharedLetters_43 rfl ?_
        refine w_iadd hx hb d_Bn_sharedLetters_44 (((ctf (fun t => ga (w * 10 + t)) i) ((ga ((w * 10) + i)).toNat)) + 1) (rfl) ?_
        refine w_iast hx hb hK hP hD hS 1 0 rfl rfl ((ga ((w * 10) + i)).toNat) (by omega) (by omega) (by omega) d_Bn_sharedLetters_45 (fun H locs hP hD hS => ?_)
        have hP : va_P D classes [(o, .inr (2, [.ref wo, .ref ra])), (ra, ca cI 26 (iu (ctf (fun t => ga (w * 10 + t)) i) ((ga ((w * 10) + i)).toNat) (((ctf (fun t => ga (w * 10 + t)) i) ((ga ((w * 10) + i)).toNat)) + 1))), (wA, .inr (6, [.ref aL, .ref aN, .int (J ca1)])), (aL, ca cI nLA ga), (aN, ca cI nA la), (wB, .inr (6, [.ref bL, .ref bN, .int (J cb1)])), (bL, ca cI nLB gb), (bN, ca cI nB lt)] H := hP
        have hD : va_D A [(o, .inr (2, [.ref wo, .ref ra])), (ra, ca cI 26 (iu (ctf (fun t => ga (w * 10 + t)) i) ((ga ((w * 10) + i)).toNat) (((ctf (fun t => ga (w * 10 + t)) i) ((ga ((w * 10) + i)).toNat)) + 1))), (wA, .inr (6, [.ref aL, .ref aN, .int (J ca1)])), (aL, ca cI nLA ga), (aN, ca cI nA la), (wB, .inr (6, [.ref bL, .ref bN, .int (J cb1)])), (bL, ca cI nLB gb), (bN, ca cI nB lt)] := hD
        have eg : iu (ctf (fun t => ga (w * 10 + t)) i) ((ga ((w * 10) + i)).toNat) (((ctf (fun t => ga (w * 10 + t)) i) ((ga ((w * 10) + i)).toNat)) + 1) = ctf (fun t => ga (w * 10 + t)) (i + 1) := ctf_s (x := (fun t => ga (w * 10 + t))) i g1
        rw [eg] at hP hD
        clear eg
        refine w_iinc (k := 7) (lv' := [(7, .int (J ((i + 1 : Nat) : Int))), (0, .ref o), (1, .ref wA), (2, .int (J ((w : Nat) : Int))), (3, .ref wB), (4, .int (J ((d : Nat) : Int))), (5, .int (J ((w * 10 : Nat) : Int))), (6, .int (J ((d * 10 : Nat) : Int)))]) hx hb d_Bn_sharedLetters_46 hl rfl ((i + 1 : Nat) : Int) (by omega) (by decide) rfl (fun ls hl => ?_)
        refine lv_goto (tgt := 16) hx hb d_Bn_sharedLetters_49 (by decide) ?_
        exact ih_16 (i + 1) (by omega) (by omega) _ _ (P_map hP [0, 1, 2, 3, 4, 5, 6, 7] rfl) (hD.sub [0, 1, 2, 3, 4, 5, 6, 7] (by decide) rfl) hS ls (lv_sub hl [1, 2, 3, 4, 5, 6, 7, 0] rfl)
  rw [← ctf_0 (fun t => ga (w * 10 + t))] at hP hD
  exact lp_16 (((la w).toNat - 0) + 1) 0 (by omega) (Nat.lt_succ_self _) _ _ (P_map hP [0, 1, 2, 3, 4, 5, 6, 7] rfl) (hD.sub [0, 1, 2, 3, 4, 5, 6, 7] (by decide) rfl) hS ls (lv_sub hl [3, 4, 5, 6, 7, 2, 1, 0] rfl)
theorem bey_m {x v : Nat → Int} {n k : Nat} (h : ∀ j, 0 ≤ x j ∧ x j < 26) (hn : n ≤ 10) {z : Int} (hz : 0 ≤ z ∧ z ≤ 1000) : 0 ≤ bey x n v k * z ∧ bey x n v k * z ≤ 10000 := by
  have h1 := bey_rg (u := x) (v := v) (n := n) (k := k) (fun j _ => h j)
  have h2 := mul_rg (k := 10) hz (b := bey x n v k) (by omega)
  rw [Int.mul_comm]
  omega
set_option maxHeartbeats 4000000 in
set_option maxRecDepth 100000 in
theorem c_Bn_between (l : Launch) (D : va_G) (cI cZ cJ : ClassId) (sz : Nat) (o : Nat) (wo : Nat) (wa : Nat) (ra : Nat) (wA : Nat) (aL : Nat) (aN : Nat) (wB : Nat) (bL : Nat) (bN : Nat) (nLA : Nat) (nA : Nat) (nLB : Nat) (nB : Nat) (ca1 : Int) (cb1 : Int) (wt : Nat → Int) (ga : Nat → Int) (la : Nat → Int) (gb : Nat → Int) (lt : Nat → Int) (w : Nat) (d : Nat) (hw : ∀ k, 0 ≤ wt k ∧ wt k ≤ 1000) (hla : ∀ k, 0 ≤ la k ∧ la k ≤ 10) (hlt : ∀ k, 0 ≤ lt k ∧ lt k ≤ 10) (hga : ∀ k, 0 ≤ ga k ∧ ga k < 26) (hgb : ∀ k, 0 ≤ gb k ∧ gb k < 26) (hA : w < nA ∧ nA ≤ 120 ∧ nLA = 10 * nA) (hB : d < nB ∧ nB ≤ 120 ∧ nLB = 10 * nB) : Mi l y_Bn_between w_Bn_between ({ frames := 2, cells := 0, slots := 0, locals := 49 }) false D classes [(cI, .int), (cZ, .boolean), (cJ, .long)] sz [.ref o, .ref wA, .int (J ((w : Nat) : Int)), .ref wB, .int (J ((d : Nat) : Int))] [(o, .inr (2, [.ref wo, .ref ra])), (ra, ca cI 26 (fun _ => 0)), (wo, .inr (5, [.ref wa])), (wa, ca cI 6 wt), (wA, .inr (6, [.ref aL, .ref aN, .int (J ca1)])), (aL, ca cI nLA ga), (aN, ca cI nA la), (wB, .inr (6, [.ref bL, .ref bN, .int (J cb1)])), (bL, ca cI nLB gb), (bN, ca cI nB lt)] (lb wt (fun t => ga (w * 10 + t)) (la w).toNat (fun t => gb (d * 10 + t)) (lt d).toNat) (S := Unit) (fun _ => True) (fun u : Unit => [(o, .inr (2, [.ref wo, .ref ra])), (ra, ca cI 26 (fun _ => 0)), (wo, .inr (5, [.ref wa])), (wa, ca cI 6 wt), (wA, .inr (6, [.ref aL, .ref aN, .int (J ca1)])), (aL, ca cI nLA ga), (aN, ca cI nA la), (wB, .inr (6, [.ref bL, .ref bN, .int (J cb1)])), (bL, ca cI nLB gb), (bN, ca cI nB lt)]) 0 0 := by
  refine Mi_of (cc := b_Bn_between) (maxL := 9) (by decide) rfl (Nat.le_of_ble_eq_true rfl) ?_
  intro p e s m args below meth c hx hb hr hml hts hown hlocks A hA hP hK hD hT hS Q hQ H hH ls hl
  subst hH
  have hl : lv_has ls 9 [(0, .ref o), (1, .ref wA), (2, .int (J ((w : Nat) : Int))), (3, .ref wB), (4, .int (J ((d : Nat) : Int)))] := hl
  have l1 := hla w
  have l2 := hlt d
  have w0 := hw 0
  have w1 := hw 1
  have w2 := hw 2
  have w3 := hw 3
  have m1 := bey_m (x := (fun t => ga (w * 10 + t))) (v := (fun t => gb (d * 10 + t))) (n := (la w).toNat) (k := (lt d).toNat) (fun j => hga (w * 10 + j)) (by omega) (z := min (wt 1) (min (wt 2) (wt 3))) (by omega)
  have m2 := bey_m (x := (fun t => gb (d * 10 + t))) (v := (fun t => ga (w * 10 + t))) (n := (lt d).toNat) (k := (la w).toNat) (fun j => hgb (d * 10 + j)) (by omega) (z := min (wt 0) (min (wt 2) (wt 3))) (by omega)
  refine lv_aload_n hx hb d_Bn_between_0 rfl (lv_at hl 0 rfl) ?_
  refine lv_aload_n hx hb d_Bn_between_1 rfl (lv_at hl 1 rfl) ?_
  refine lv_iload_n hx hb d_Bn_between_2 rfl (lv_at hl 2 rfl) ?_
  refine lv_aload_n hx hb d_Bn_between_3 rfl (lv_at hl 3 rfl) ?_
  refine lv_iload hx hb d_Bn_between_4 (lv_at hl 4 rfl) ?_
  refine Mi_call (wr := [(wo, .inr (5, [.ref wa])), (wa, ca cI 6 wt)]) (va_runV (As := [.ref wA, .int (J ((w : Nat) : Int)), .ref wB, .int (J ((d : Nat) : Int))]) (rest := []) ⟨hx, hb, hml, hown, hts⟩ (c_Bn_sharedLetters l D cI cZ cJ s.heap.size o wo ra wA aL aN wB bL bN nLA nA nLB nB ca1 cb1 ga la gb lt w d (by first | assumption | omega) (by first | assumption | omega) (by first | assumption | omega) (by first | assumption | omega) (by first | assumption | omega) (by first | assumption | omega)) (cwV 4 hts (g_V mw_358 mw_360 mw_5 mw_30 mw_361) rfl rfl rfl (by decide +kernel) ⟨Nat.le_of_ble_eq_true rfl, Nat.le_of_ble_eq_true rfl⟩) (pre_WV hP hK hD [0, 1, 4, 5, 6, 7, 8, 9] rfl (by decide) 2 0 rfl rfl (fun h => Bool.noConfusion h)) rfl rfl hl.1 rfl (lv_room (Nat.le_of_ble_eq_true rfl)) d_Bn_between_6 ⟨Nat.le_of_ble_eq_true rfl, Nat.le_of_ble_eq_true rfl⟩) hP hD hS hA [0, 1, 4, 5, 6, 7, 8, 9] [2, 3] rfl rfl (by decide) (by decide) (fun _u H locs _hu hP hD hS => ?_)
  have hP : va_P D classes [(wo, .inr (5, [.ref wa])), (wa, ca cI 6 wt), (o, .inr (2, [.ref wo, .ref ra])), (ra, ca cI 26 (fun _ => 0)), (wA, .inr (6, [.ref aL, .ref aN, .int (J ca1)])), (aL, ca cI nLA ga), (aN, ca cI nA la), (wB, .inr (6, [.ref bL, .ref bN, .int (J cb1)])), (bL, ca cI nLB gb), (bN, ca cI nB lt)] H := hP
  have hD : va_D A [(wo, .inr (5, [.ref wa])), (wa, ca cI 6 wt), (o, .inr (2, [.ref wo, .ref ra])), (ra, ca cI 26 (fun _ => 0)), (wA, .inr (6, [.ref aL, .ref aN, .int (J ca1)])), (aL, ca cI nLA ga), (aN, ca cI nA la), (wB, .inr (6, [.ref bL, .ref bN, .int (J cb1)])), (bL, ca cI nLB gb), (bN, ca cI nB lt)] := hD
  refine lv_istore (lv' := [(5, .int (J (shr (fun t => ga (w * 10 + t)) (la w).toNat (fun t => gb (d * 10 + t)) (lt d).toNat))), (0, .ref o), (1, .ref wA), (2, .int (J ((w : Nat) : Int))), (3, .ref wB), (4, .int (J ((d : Nat) : Int)))]) hx hb d_Bn_between_9 hl (by decide) rfl (fun ls hl => ?_)
  refine lv_aload_n hx hb d_Bn_between_11 rfl (lv_at hl 1 rfl) ?_
  refine va_get (D := D) (ci := 2) (v := .ref wo) (C := R_Bn) (T := T_Bn) (N := 2) hx hb hts i_Bn hown hK hP 2 rfl rfl 0 (by decide) (hts _ mw_131) (fun _ h9 => h9) rfl d_Bn_between_12 ?_
  refine Ri_call (va_runV (As := []) (rest := []) ⟨hx, hb, hml, hown, hts⟩ (c_We_exchangedAlike l D cI cZ cJ wo wa wt (by first | assumption | omega)) (cwV 0 hts (g_V mw_363 mw_343 mw_344 mw_28 mw_345) rfl rfl rfl (by decide +kernel) ⟨Nat.le_of_ble_eq_true rfl, Nat.le_of_ble_eq_true rfl⟩) (pre_RV hP hK [0, 1] rfl 5 0 rfl rfl) rfl rfl hl.1 rfl (lv_room (Nat.le_of_ble_eq_true rfl)) d_Bn_between_15 ⟨Nat.le_of_ble_eq_true rfl, Nat.le_of_ble_eq_true rfl⟩) ?_
  refine lv_istore (lv' := [(6, .int (J (min (wt 2) (wt 3)))), (5, .int (J (shr (fun t => ga (w * 10 + t)) (la w).toNat (fun t => gb (d * 10 + t)) (lt d).toNat))), (0, .ref o), (1, .ref wA), (2, .int (J ((w : Nat) : Int))), (3, .ref wB), (4, .int (J ((d : Nat) : Int)))]) hx hb d_Bn_between_18 hl (by decide) rfl (fun ls hl => ?_)
  refine lv_aload_n hx hb d_Bn_between_20 rfl (lv_at hl 3 rfl) ?_
  refine va_get (D := D) (ci := 6) (v := .ref aN) (C := R_Wo) (T := T_Wo) (N := 3) hx hb hts i_Wo hown hK hP 4 rfl rfl 1 (by decide) (hts _ mw_64) (fun _ h9 => h9) rfl d_Bn_between_21 ?_
  refine lv_iload_n hx hb d_Bn_between_24 rfl (lv_at hl 4 rfl) ?_
  refine w_iald hx hb hK hP 6 0 rfl rfl w (by omega) (by omega) (by omega) d_Bn_between_25 ?_
  refine tp_J (y := (((la w).toNat : Nat) : Int)) (by omega) ?_
  refine lv_iload hx hb d_Bn_between_26 (lv_at hl 1 rfl) ?_
  refine w_isub hx hb d_Bn_between_28 (bey (fun t => ga (w * 10 + t)) (la w).toNat (fun t => gb (d * 10 + t)) (lt d).toNat) (by rw [← shr_bey (fun j _ => hga (w * 10 + j))]) ?_
  refine lv_istore (lv' := [(7, .int (J (bey (fun t => ga (w * 10 + t)) (la w).toNat (fun t => gb (d * 10 + t)) (lt d).toNat))), (6, .int (J (min (wt 2) (wt 3)))), (5, .int (J (shr (fun t => ga (w * 10 + t)) (la w).toNat (fun t => gb (d * 10 + t)) (lt d).toNat))), (0, .ref o), (1, .ref wA), (2, .int (J ((w : Nat) : Int))), (3, .ref wB), (4, .int (J ((d : Nat) : Int)))]) hx hb d_Bn_between_29 hl (by decide) rfl (fun ls hl => ?_)
  refine lv_aload_n hx hb d_Bn_between_31 rfl (lv_at hl 6 rfl) ?_
  refine va_get (D := D) (ci := 6) (v := .ref bN) (C := R_Wo) (T := T_Wo) (N := 3) hx hb hts i_Wo hown hK hP 7 rfl rfl 1 (by decide) (hts _ mw_64) (fun _ h9 => h9) rfl d_Bn_between_32 ?_
  refine lv_iload hx hb d_Bn_between_35 (lv_at hl 7 rfl) ?_
  refine w_iald hx hb hK hP 9 0 rfl rfl d (by omega) (by omega) (by omega) d_Bn_between_37 ?_
  refine tp_J (y := (((lt d).toNat : Nat) : Int)) (by omega) ?_
  refine lv_iload hx hb d_Bn_between_38 (lv_at hl 2 rfl) ?_
  refine w_isub hx hb d_Bn_between_40 (bey (fun t => gb (d * 10 + t)) (lt d).toNat (fun t => ga (w * 10 + t)) (la w).toNat) (by rw [← shr_bey (fun j _ => hgb (d * 10 + j)), shr_comm]) ?_
  refine lv_istore (lv' := [(8, .int (J (bey (fun t => gb (d * 10 + t)) (lt d).toNat (fun t => ga (w * 10 + t)) (la w).toNat))), (7, .int (J (bey (fun t => ga (w * 10 + t)) (la w).toNat (fun t => gb (d * 10 + t)) (lt d).toNat))), (6, .int (J (min (wt 2) (wt 3)))), (5, .int (J (shr (fun t => ga (w * 10 + t)) (la w).toNat (fun t => gb (d * 10 + t)) (lt d).toNat))), (0, .ref o), (1, .ref wA), (2, .int (J ((w : Nat) : Int))), (3, .ref wB), (4, .int (J ((d : Nat) : Int)))]) hx hb d_Bn_between_41 hl (by decide) rfl (fun ls hl => ?_)
  refine lv_iload hx hb d_Bn_between_43 (lv_at hl 1 rfl) ?_
  refine lv_aload_n hx hb d_Bn_between_45 rfl (lv_at hl 4 rfl) ?_
  refine va_get (D := D) (ci := 2) (v := .ref wo) (C := R_Bn) (T := T_Bn) (N := 2) hx hb hts i_Bn hown hK hP 2 rfl rfl 0 (by decide) (hts _ mw_131) (fun _ h9 => h9) rfl d_Bn_between_46 ?_
  refine Ri_call (va_runV (As := []) (rest := [.int (J (bey (fun t => ga (w * 10 + t)) (la w).toNat (fun t => gb (d * 10 + t)) (lt d).toNat))]) ⟨hx, hb, hml, hown, hts⟩ (c_We_leftOut l D cI cZ cJ wo wa wt ) (cwV 0 hts (g_V mw_364 mw_335 mw_336 mw_28 mw_337) rfl rfl rfl (by decide +kernel) ⟨Nat.le_of_ble_eq_true rfl, Nat.le_of_ble_eq_true rfl⟩) (pre_RV hP hK [0, 1] rfl 5 0 rfl rfl) rfl rfl hl.1 rfl (lv_room (Nat.le_of_ble_eq_true rfl)) d_Bn_between_49 ⟨Nat.le_of_ble_eq_true rfl, Nat.le_of_ble_eq_true rfl⟩) ?_
  refine lv_iload hx hb d_Bn_between_52 (lv_at hl 2 rfl) ?_
  refine w_mmin hx hb (by rw [hml]; exact hl.1.symm) hown (hts _ mw_365) (hts _ mw_347) (hts _ mw_34) (hts _ mw_348) (by decide) (Nat.le_of_ble_eq_true rfl) (by decide) (by decide) d_Bn_between_54 (by omega) (by omega) ?_
  refine w_imul hx hb d_Bn_between_57 ((bey (fun t => ga (w * 10 + t)) (la w).toNat (fun t => gb (d * 10 + t)) (lt d).toNat) * (min (wt 1) (min (wt 2) (wt 3)))) (rfl) ?_
  refine lv_iload hx hb d_Bn_between_58 (lv_at hl 0 rfl) ?_
  refine lv_aload_n hx hb d_Bn_between_60 rfl (lv_at hl 4 rfl) ?_
  refine va_get (D := D) (ci := 2) (v := .ref wo) (C := R_Bn) (T := T_Bn) (N := 2) hx hb hts i_Bn hown hK hP 2 rfl rfl 0 (by decide) (hts _ mw_131) (fun _ h9 => h9) rfl d_Bn_between_61 ?_
  refine Ri_call (va_runV (As := []) (rest := [.int (J (bey (fun t => gb (d * 10 + t)) (lt d).toNat (fun t => ga (w * 10 + t)) (la w).toNat)), .int (J ((bey (fun t => ga (w * 10 + t)) (la w).toNat (fun t => gb (d * 10 + t)) (lt d).toNat) * (min (wt 1) (min (wt 2) (wt 3)))))]) ⟨hx, hb, hml, hown, hts⟩ (c_We_putIn l D cI cZ cJ wo wa wt ) (cwV 0 hts (g_V mw_366 mw_326 mw_327 mw_28 mw_328) rfl rfl rfl (by decide +kernel) ⟨Nat.le_of_ble_eq_true rfl, Nat.le_of_ble_eq_true rfl⟩) (pre_RV hP hK [0, 1] rfl 5 0 rfl rfl) rfl rfl hl.1 rfl (lv_room (Nat.le_of_ble_eq_true rfl)) d_Bn_between_64 ⟨Nat.le_of_ble_eq_true rfl, Nat.le_of_ble_eq_true rfl⟩) ?_
  refine lv_iload hx hb d_Bn_between_67 (lv_at hl 2 rfl) ?_
  refine w_mmin hx hb (by rw [hml]; exact hl.1.symm) hown (hts _ mw_365) (hts _ mw_347) (hts _ mw_34) (hts _ mw_348) (by decide) (Nat.le_of_ble_eq_true rfl) (by decide) (by decide) d_Bn_between_69 (by omega) (by omega) ?_
  refine w_imul hx hb d_Bn_between_72 ((bey (fun t => gb (d * 10 + t)) (lt d).toNat (fun t => ga (w * 10 + t)) (la w).toNat) * (min (wt 0) (min (wt 2) (wt 3)))) (rfl) ?_
  refine w_mmax hx hb (by rw [hml]; exact hl.1.symm) hown (hts _ mw_367) (hts _ mw_368) (hts _ mw_34) (hts _ mw_369) (by decide) (Nat.le_of_ble_eq_true rfl) (by decide) (by decide) d_Bn_between_73 (by omega) (by omega) ?_
  exact Mi_ret hx hb hr hlocks hQ d_Bn_between_76 hP hK hD hS nb_i (rfl) () (trivial) [2, 3, 0, 1, 4, 5, 6, 7, 8, 9] rfl (by decide)
end
section
theorem w_dne {p : Program} {l : Launch} {e : Env} {R : Room} {s : State} {m : MethodId} {args : Array Value} {below : List Frame} {meth : Method} {c : Code} {H : Heap} {locs : List Loc} {cells slots : Nat} {Q : State → Prop} {cc : ByteArray} {pc : Nat} {ls : Array Slot} {rest : List Value} {q : Prop} [Decidable q] {off off2 : Int} {tgt X : Nat} (hexec : p.tables.exec = Jvm.exec) (hb : c.code = cc) (h1 : decode cc pc = .ok (.ifCond .ne off, 3)) (ht : (pc : Int) + off = (tgt : Int)) (h2 : decode cc (pc + 3) = .ok (.iconst 1, 1)) (h3 : decode cc (pc + 4) = .ok (.goto off2, 3)) (hX : ((pc + 4 : Nat) : Int) + off2 = (X : Int)) (h4 : decode cc tgt = .ok (.iconst 0, 1)) (h5 : tgt + 1 = X)
    (k : W p l e R s m args below meth c H locs cells slots Q (F0 m X ls (.int (J (b2 (¬ q))) :: rest))) : W p l e R s m args below meth c H locs cells slots Q (F0 m pc ls (.int (J (b2 q)) :: rest)) := by
  refine w_if_ne hexec hb h1 ht rg_b2 (fun h => ?_) (fun h => ?_)
  · have h := b2_n0.mp h
    refine lv_iconst (v := J 0) hexec hb h4 rfl ?_
    rw [b2_f (q := ¬ q) (fun z => z h)] at k
    subst h5
    exact k
  · have h := b2_0.mp h
    refine lv_iconst (v := J 1) hexec hb h2 rfl ?_
    refine lv_goto (tgt := X) hexec hb h3 hX ?_
    rw [b2_t (q := ¬ q) h] at k
    exact k
theorem w_deq {p : Program} {l : Launch} {e : Env} {R : Room} {s : State} {m : MethodId} {args : Array Value} {below : List Frame} {meth : Method} {c : Code} {H : Heap} {locs : List Loc} {cells slots : Nat} {Q : State → Prop} {cc : ByteArray} {pc : Nat} {ls : Array Slot} {rest : List Value} {q : Prop} [Decidable q] {off off2 : Int} {tgt X : Nat} (hexec : p.tables.exec = Jvm.exec) (hb : c.code = cc) (h1 : decode cc pc = .ok (.ifCond .eq off, 3)) (ht : (pc : Int) + off = (tgt : Int)) (h2 : decode cc (pc + 3) = .ok (.iconst 1, 1)) (h3 : decode cc (pc + 4) = .ok (.goto off2, 3)) (hX : ((pc + 4 : Nat) : Int) + off2 = (X : Int)) (h4 : decode cc tgt = .ok (.iconst 0, 1)) (h5 : tgt + 1 = X)
    (k : W p l e R s m args below meth c H locs cells slots Q (F0 m X ls (.int (J (b2 q)) :: rest))) : W p l e R s m args below meth c H locs cells slots Q (F0 m pc ls (.int (J (b2 q)) :: rest)) := by
  refine w_if_eq hexec hb h1 ht rg_b2 (fun h => ?_) (fun h => ?_)
  · have h := b2_0.mp h
    refine lv_iconst (v := J 0) hexec hb h4 rfl ?_
    rw [b2_f (q := q) h] at k
    subst h5
    exact k
  · have h := b2_n0.mp h
    refine lv_iconst (v := J 1) hexec hb h2 rfl ?_
    refine lv_goto (tgt := X) hexec hb h3 hX ?_
    rw [b2_t (q := q) h] at k
    exact k
theorem b2_eq {q r : Prop} [Decidable q] [Decidable r] (h : q ↔ r) : b2 q = b2 r := by
  by_cases z : q
  · rw [b2_t z, b2_t (h.mp z)]
  · rw [b2_f z, b2_f (fun y => z (h.mpr y))]
def shf (f : Nat → Int) (k : Nat) : Nat → Int := fun j => f (k + j)
/-- the costs of pairing, by changes and by counts -/
def csc (wt ga la gb lt : Nat → Int) (en : Nat) : Nat → Int := fun j => ed wt (fun t => ga (j / 3 * 10 + t)) (fun t => gb ((en * 3 + j % 3) * 10 + t)) (la (j / 3)).toNat (lt (en * 3 + j % 3)).toNat
def csn (wt ga la gb lt : Nat → Int) (en : Nat) : Nat → Int := fun j => lb wt (fun t => ga (j / 3 * 10 + t)) (la (j / 3)).toNat (fun t => gb ((en * 3 + j % 3) * 10 + t)) (lt (en * 3 + j % 3)).toNat
theorem csc_at (wt ga la gb lt : Nat → Int) (en w : Nat) {d : Nat} (h : d < 3) : csc wt ga la gb lt en (3 * w + d) = ed wt (fun t => ga (w * 10 + t)) (fun t => gb ((en * 3 + d) * 10 + t)) (la w).toNat (lt (en * 3 + d)).toNat := by
  unfold csc
  rw [show (3 * w + d) / 3 = w by omega, show (3 * w + d) % 3 = d by omega]
theorem csn_at (wt ga la gb lt : Nat → Int) (en w : Nat) {d : Nat} (h : d < 3) : csn wt ga la gb lt en (3 * w + d) = lb wt (fun t => ga (w * 10 + t)) (la w).toNat (fun t => gb ((en * 3 + d) * 10 + t)) (lt (en * 3 + d)).toNat := by
  unfold csn
  rw [show (3 * w + d) / 3 = w by omega, show (3 * w + d) % 3 = d by omega]
theorem csc_rg {wt ga la gb lt : Nat → Int} (hw : ∀ k, 0 ≤ wt k ∧ wt k ≤ 1000) (hla : ∀ k, 0 ≤ la k ∧ la k ≤ 10) (hlt : ∀ k, 0 ≤ lt k ∧ lt k ≤ 10) (en j : Nat) : 0 ≤ csc wt ga la gb lt en j ∧ csc wt ga la gb lt en j ≤ 20000 := by
  have h1 := ed_rg hw (fun t => ga (j / 3 * 10 + t)) (fun t => gb ((en * 3 + j % 3) * 10 + t)) (la (j / 3)).toNat (lt (en * 3 + j % 3)).toNat
  have h2 := hla (j / 3)
  have h3 := hlt (en * 3 + j % 3)
  unfold csc
  omega
theorem csn_rg {wt ga la gb lt : Nat → Int} (hw : ∀ k, 0 ≤ wt k ∧ wt k ≤ 1000) (hla : ∀ k, 0 ≤ la k ∧ la k ≤ 10) (hlt : ∀ k, 0 ≤ lt k ∧ lt k ≤ 10) (hga : ∀ k, 0 ≤ ga k ∧ ga k < 26) (hgb : ∀ k, 0 ≤ gb k ∧ gb k < 26) (en j : Nat) : 0 ≤ csn wt ga la gb lt en j ∧ csn wt ga la gb lt en j ≤ 20000 := by
  have h2 := hla (j / 3)
  have h3 := hlt (en * 3 + j % 3)
  have w0 := hw 0
  have w1 := hw 1
  have w2 := hw 2
  have w3 := hw 3
  have m1 := bey_m (x := fun t => ga (j / 3 * 10 + t)) (v := fun t => gb ((en * 3 + j % 3) * 10 + t)) (n := (la (j / 3)).toNat) (k := (lt (en * 3 + j % 3)).toNat) (fun t => hga _) (by omega) (z := min (wt 1) (min (wt 2) (wt 3))) (by omega)
  have m2 := bey_m (x := fun t => gb ((en * 3 + j % 3) * 10 + t)) (v := fun t => ga (j / 3 * 10 + t)) (n := (lt (en * 3 + j % 3)).toNat) (k := (la (j / 3)).toNat) (fun t => hgb _) (by omega) (z := min (wt 0) (min (wt 2) (wt 3))) (by omega)
  unfold csn lb
  omega
set_option maxHeartbeats 4000000 in
set_option maxRecDepth 100000 in
theorem c_Nf_isLookedFor (l : Launch) (D : va_G) (cI cZ cJ : ClassId) (o : Nat) (bk : Nat) (wA : Nat) (wo : Nat) (m1 : Nat) (m2 : Nat) (pa : Nat) (hi : Nat) (wB : Nat) (q1 : Nat) (q2 : Nat) (q3 : Nat) (q4 : Nat) (n : Nat) (ap : Int) (sw : Int) (pl : Nat → Int) (dr : Nat → Int) (en : Nat) (hen : en < 40) (hdr : ∀ k, 0 ≤ dr k ∧ dr k ≤ 1) (hpl : ∀ k, rg (pl k)) (hap : rg ap) : Ri l y_Nf_isLookedFor w_Nf_isLookedFor ({ frames := 0, cells := 0, slots := 0, locals := 0 }) D classes [(cI, .int), (cZ, .boolean), (cJ, .long)] [.ref o, .int (J ((en : Nat) : Int))] [(o, .inr (7, [.ref bk, .ref wA, .ref wo, .ref m1, .ref m2, .ref pa, .ref hi, .int (J ap), .int (J sw)])), (bk, .inr (0, [.ref wB, .ref q1, .ref q2, .ref q3, .ref q4, .int (J ((n : Nat) : Int))])), (q1, ca cI 40 pl), (q4, ca cZ 40 dr)] (b2 (dr en = 0 ∧ (ap = -1 ∨ ap = pl en))) := by
  refine Ri_of (cc := b_Nf_isLookedFor) (maxL := 2) (by decide) rfl (Nat.le_of_ble_eq_true rfl) ?_
  intro p e s m args below meth c hx hb hr hml hts hown hlocks hP hK Q hQ H hH ls hl
  rw [← hH] at hP
  have hl : lv_has ls 2 [(0, .ref o), (1, .int (J ((en : Nat) : Int)))] := hl
  have r1 := hdr en
  have r2 := hpl en
  refine lv_aload_n hx hb d_Nf_isLookedFor_0 rfl (lv_at hl 0 rfl) ?_
  refine va_get (D := D) (ci := 7) (v := .ref bk) (C := R_Nf) (T := T_Nf) (N := 9) hx hb hts i_Nf hown hK hP 0 rfl rfl 0 (by decide) (hts _ mw_186) (fun _ h9 => h9) rfl d_Nf_isLookedFor_1 ?_
  refine va_get (D := D) (ci := 0) (v := .ref q4) (C := R_Bk) (T := T_Bk) (N := 6) hx hb hts i_Bk hown hK hP 1 rfl rfl 4 (by decide) (hts _ mw_83) (fun _ h9 => h9) rfl d_Nf_isLookedFor_4 ?_
  refine lv_iload_n hx hb d_Nf_isLookedFor_7 rfl (lv_at hl 1 rfl) ?_
  refine w_zald hx hb hK hP 3 1 rfl rfl en (by omega) (by omega) (by omega) d_Nf_isLookedFor_8 ?_
  refine w_if_ne (tgt := 40) hx hb d_Nf_isLookedFor_9 (by decide) (by omega) (fun c_9 => ?_) (fun c_9 => ?_)
  · refine lv_iconst (v := J (0)) hx hb d_Nf_isLookedFor_40 rfl ?_
    exact Ri_ret hx hb hr hlocks hQ hH d_Nf_isLookedFor_41 (nb_z (by omega)) (by unfold b2; split <;> omega)
  · refine lv_aload_n hx hb d_Nf_isLookedFor_12 rfl (lv_at hl 0 rfl) ?_
    refine va_get (D := D) (ci := 7) (v := .int (J ap)) (C := R_Nf) (T := T_Nf) (N := 9) hx hb hts i_Nf hown hK hP 0 rfl rfl 7 (by decide) (hts _ mw_193) (fun _ h9 => h9) rfl d_Nf_isLookedFor_13 ?_
    refine lv_iconst (v := J (-1)) hx hb d_Nf_isLookedFor_16 rfl ?_
    refine w_icmp_eq (tgt := 36) hx hb d_Nf_isLookedFor_17 (by decide) (by omega) (by omega) (fun c_17 => ?_) (fun c_17 => ?_)
    · refine lv_iconst (v := J (1)) hx hb d_Nf_isLookedFor_36 rfl ?_
      refine lv_goto (tgt := 41) hx hb d_Nf_isLookedFor_37 (by decide) ?_
      exact Ri_ret hx hb hr hlocks hQ hH d_Nf_isLookedFor_41 (nb_z (by omega)) (by unfold b2; split <;> omega)
    · refine lv_aload_n hx hb d_Nf_isLookedFor_20 rfl (lv_at hl 0 rfl) ?_
      refine va_get (D := D) (ci := 7) (v := .int (J ap)) (C := R_Nf) (T := T_Nf) (N := 9) hx hb hts i_Nf hown hK hP 0 rfl rfl 7 (by decide) (hts _ mw_193) (fun _ h9 => h9) rfl d_Nf_isLookedFor_21 ?_
      refine lv_aload_n hx hb d_Nf_isLookedFor_24 rfl (lv_at hl 0 rfl) ?_
      refine va_get (D := D) (ci := 7) (v := .ref bk) (C := R_Nf) (T := T_Nf) (N := 9) hx hb hts i_Nf hown hK hP 0 rfl rfl 0 (by decide) (hts _ mw_186) (fun _ h9 => h9) rfl d_Nf_isLookedFor_25 ?_
      refine va_get (D := D) (ci := 0) (v := .ref q1) (C := R_Bk) (T := T_Bk) (N := 6) hx hb hts i_Bk hown hK hP 1 rfl rfl 1 (by decide) (hts _ mw_78) (fun _ h9 => h9) rfl d_Nf_isLookedFor_28 ?_
      refine lv_iload_n hx hb d_Nf_isLookedFor_31 rfl (lv_at hl 1 rfl) ?_
      refine w_iald hx hb hK hP 2 0 rfl rfl en (by omega) (by omega) (by omega) d_Nf_isLookedFor_32 ?_
      refine w_icmp_ne (tgt := 40) hx hb d_Nf_isLookedFor_33 (by decide) (by omega) (by omega) (fun c_33 => ?_) (fun c_33 => ?_)
      · refine lv_iconst (v := J (0)) hx hb d_Nf_isLookedFor_40 rfl ?_
        exact Ri_ret hx hb hr hlocks hQ hH d_Nf_isLookedFor_41 (nb_z (by omega)) (by unfold b2; split <;> omega)
      · refine lv_iconst (v := J (1)) hx hb d_Nf_isLookedFor_36 rfl ?_
        refine lv_goto (tgt := 41) hx hb d_Nf_isLookedFor_37 (by decide) ?_
        exact Ri_ret hx hb hr hlocks hQ hH d_Nf_isLookedFor_41 (nb_z (by omega)) (by unfold b2; split <;> omega)
set_option maxHeartbeats 4000000 in
set_option maxRecDepth 100000 in
theorem c_Nf_costOfPair_c (l : Launch) (D : va_G) (cI cZ cJ : ClassId) (sz : Nat) (o : Nat) (bk : Nat) (wA : Nat) (wo : Nat) (m1 : Nat) (m2 : Nat) (pa : Nat) (hi : Nat) (wB : Nat) (q1 : Nat) (q2 : Nat) (q3 : Nat) (q4 : Nat) (n : Nat) (ap : Int) (sw : Int) (ra : Nat) (aL : Nat) (aN : Nat) (bL : Nat) (bN : Nat) (wa : Nat) (ca1 : Int) (cb1 : Int) (wt : Nat → Int) (ga : Nat → Int) (la : Nat → Int) (gb : Nat → Int) (lt : Nat → Int) (r0 : Nat → Int) (w : Nat) (d : Nat) (hw : ∀ k, 0 ≤ wt k ∧ wt k ≤ 1000) (hla : ∀ k, 0 ≤ la k ∧ la k ≤ 10) (hlt : ∀ k, 0 ≤ lt k ∧ lt k ≤ 10) (hga : ∀ k, 0 ≤ ga k ∧ ga k < 26) (hgb : ∀ k, 0 ≤ gb k ∧ gb k < 26) (hwd : w < 3 ∧ d < 120) (hr0 : ∀ k, 0 ≤ r0 k ∧ r0 k ≤ 100000) : Mi l y_Nf_costOfPair w_Nf_costOfPair ({ frames := 4, cells := 0, slots := 0, locals := 94 }) true D classes [(cI, .int), (cZ, .boolean), (cJ, .long)] sz [.ref o, .int (J ((w : Nat) : Int)), .int (J ((d : Nat) : Int)), .ref m1] [(o, .inr (7, [.ref bk, .ref wA, .ref wo, .ref m1, .ref m2, .ref pa, .ref hi, .int (J ap), .int (J sw)])), (bk, .inr (0, [.ref wB, .ref q1, .ref q2, .ref q3, .ref q4, .int (J ((n : Nat) : Int))])), (m1, .inr (1, [.ref wo, .ref ra])), (ra, ca cI 11 r0), (wo, .inr (5, [.ref wa])), (wa, ca cI 6 wt), (wA, .inr (6, [.ref aL, .ref aN, .int (J ca1)])), (aL, ca cI 30 ga), (aN, ca cI 3 la), (wB, .inr (6, [.ref bL, .ref bN, .int (J cb1)])), (bL, ca cI 1200 gb), (bN, ca cI 120 lt)] (if 0 < la w ∧ 0 < lt d then ed wt (fun t => ga (w * 10 + t)) (fun t => gb (d * 10 + t)) (la w).toNat (lt d).toNat else -1) (S := Nat → Int) (fun f => ∀ k, 0 ≤ f k ∧ f k ≤ 100000) (fun u : Nat → Int => [(o, .inr (7, [.ref bk, .ref wA, .ref wo, .ref m1, .ref m2, .ref pa, .ref hi, .int (J ap), .int (J sw)])), (bk, .inr (0, [.ref wB, .ref q1, .ref q2, .ref q3, .ref q4, .int (J ((n : Nat) : Int))])), (m1, .inr (1, [.ref wo, .ref ra])), (ra, ca cI 11 u), (wo, .inr (5, [.ref wa])), (wa, ca cI 6 wt), (wA, .inr (6, [.ref aL, .ref aN, .int (J ca1)])), (aL, ca cI 30 ga), (aN, ca cI 3 la), (wB, .inr (6, [.ref bL, .ref bN, .int (J cb1)])), (bL, ca cI 1200 gb), (bN, ca cI 120 lt)]) 0 0 := by
  refine Mi_of (cc := b_Nf_costOfPair) (maxL := 4) (by decide) rfl (Nat.le_of_ble_eq_true rfl) ?_
  intro p e s m args below meth c hx hb hr hml hts hown hlocks A hA hP hK hD hT hS Q hQ H hH ls hl
  subst hH
  have hl : lv_has ls 4 [(0, .ref o), (1, .int (J ((w : Nat) : Int))), (2, .int (J ((d : Nat) : Int))), (3, .ref m1)] := hl
  obtain ⟨tt, hZ, hTt, hF1, hF2⟩ := hT rfl
  have l1 := hla w
  have l2 := hlt d
  refine lv_aload_n hx hb d_Nf_costOfPair_0 rfl (lv_at hl 0 rfl) ?_
  refine va_get (D := D) (ci := 7) (v := .ref wA) (C := R_Nf) (T := T_Nf) (N := 9) hx hb hts i_Nf hown hK hP 0 rfl rfl 1 (by decide) (hts _ mw_187) (fun _ h9 => h9) rfl d_Nf_costOfPair_1 ?_
  refine lv_iload_n hx hb d_Nf_costOfPair_4 rfl (lv_at hl 1 rfl) ?_
  refine Ri_call (va_runV (As := [.int (J ((w : Nat) : Int))]) (rest := []) ⟨hx, hb, hml, hown, hts⟩ (c_Wo_isNone l D cI cZ cJ wA aL aN 3 ca1 la w (by first | assumption | omega) (by first | assumption | omega) (by first | assumption | omega)) (cwV 1 hts (g_V mw_303 mw_304 mw_305 mw_27 mw_306) rfl rfl rfl (by decide +kernel) ⟨Nat.le_of_ble_eq_true rfl, Nat.le_of_ble_eq_true rfl⟩) (pre_RV hP hK [6, 8] rfl 6 0 rfl rfl) rfl rfl hl.1 rfl (lv_room (Nat.le_of_ble_eq_true rfl)) d_Nf_costOfPair_5 ⟨Nat.le_of_ble_eq_true rfl, Nat.le_of_ble_eq_true rfl⟩) ?_
  refine w_if_ne (tgt := 25) hx hb d_Nf_costOfPair_8 (by decide) (rg_b2) (fun c_8 => ?_) (fun c_8 => ?_)
  · have c_8 := b2_n0.mp c_8
    refine lv_iconst (v := J (-1)) hx hb d_Nf_costOfPair_25 rfl ?_
    exact Mi_ret hx hb hr hlocks hQ d_Nf_costOfPair_26 hP hK hD hS nb_i (by rw [if_neg (by omega)]) r0 (hr0) [0, 1, 2, 3, 4, 5, 6, 7, 8, 9, 10, 11] rfl (by decide)
  · have c_8 := b2_0.mp c_8
    refine lv_aload_n hx hb d_Nf_costOfPair_11 rfl (lv_at hl 0 rfl) ?_
    refine va_get (D := D) (ci := 7) (v := .ref bk) (C := R_Nf) (T := T_Nf) (N := 9) hx hb hts i_Nf hown hK hP 0 rfl rfl 0 (by decide) (hts _ mw_186) (fun _ h9 => h9) rfl d_Nf_costOfPair_12 ?_
    refine va_get (D := D) (ci := 0) (v := .ref wB) (C := R_Bk) (T := T_Bk) (N := 6) hx hb hts i_Bk hown hK hP 1 rfl rfl 0 (by decide) (hts _ mw_76) (fun _ h9 => h9) rfl d_Nf_costOfPair_15 ?_
    refine lv_iload_n hx hb d_Nf_costOfPair_18 rfl (lv_at hl 2 rfl) ?_
    refine Ri_call (va_runV (As := [.int (J ((d : Nat) : Int))]) (rest := []) ⟨hx, hb, hml, hown, hts⟩ (c_Wo_isNone l D cI cZ cJ wB bL bN 120 cb1 lt d (by first | assumption | omega) (by first | assumption | omega) (by first | assumption | omega)) (cwV 1 hts (g_V mw_303 mw_304 mw_305 mw_27 mw_306) rfl rfl rfl (by decide +kernel) ⟨Nat.le_of_ble_eq_true rfl, Nat.le_of_ble_eq_true rfl⟩) (pre_RV hP hK [9, 11] rfl 6 0 rfl rfl) rfl rfl hl.1 rfl (lv_room (Nat.le_of_ble_eq_true rfl)) d_Nf_costOfPair_19 ⟨Nat.le_of_ble_eq_true rfl, Nat.le_of_ble_eq_true rfl⟩) ?_
    refine w_if_eq (tgt := 27) hx hb d_Nf_costOfPair_22 (by decide) (rg_b2) (fun c_22 => ?_) (fun c_22 => ?_)
    · have c_22 := b2_0.mp c_22
      refine lv_aload_n hx hb d_Nf_costOfPair_27 rfl (lv_at hl 3 rfl) ?_
      refine lv_aload_n hx hb d_Nf_costOfPair_28 rfl (lv_at hl 0 rfl) ?_
      refine va_get (D := D) (ci := 7) (v := .ref wA) (C := R_Nf) (T := T_Nf) (N := 9) hx hb hts i_Nf hown hK hP 0 rfl rfl 1 (by decide) (hts _ mw_187) (fun _ h9 => h9) rfl d_Nf_costOfPair_29 ?_
      refine lv_iload_n hx hb d_Nf_costOfPair_32 rfl (lv_at hl 1 rfl) ?_
      refine lv_aload_n hx hb d_Nf_costOfPair_33 rfl (lv_at hl 0 rfl) ?_
      refine va_get (D := D) (ci := 7) (v := .ref bk) (C := R_Nf) (T := T_Nf) (N := 9) hx hb hts i_Nf hown hK hP 0 rfl rfl 0 (by decide) (hts _ mw_186) (fun _ h9 => h9) rfl d_Nf_costOfPair_34 ?_
      refine va_get (D := D) (ci := 0) (v := .ref wB) (C := R_Bk) (T := T_Bk) (N := 6) hx hb hts i_Bk hown hK hP 1 rfl rfl 0 (by decide) (hts _ mw_76) (fun _ h9 => h9) rfl d_Nf_costOfPair_37 ?_
      refine lv_iload_n hx hb d_Nf_costOfPair_40 rfl (lv_at hl 2 rfl) ?_
      refine Mi_callF (wr := [(o, .inr (7, [.ref bk, .ref wA, .ref wo, .ref m1, .ref m2, .ref pa, .ref hi, .int (J ap), .int (J sw)])), (bk, .inr (0, [.ref wB, .ref q1, .ref q2, .ref q3, .ref q4, .int (J ((n : Nat) : Int))]))]) (va_runF (As := [.ref wA, .int (J ((w : Nat) : Int)), .ref wB, .int (J ((d : Nat) : Int))]) (rest := []) (hK.1 1 _ rfl).2 ⟨hx, hb, hml, hown, hts⟩ (c_Bc_between l D cI cZ cJ s.heap.size m1 wo wa ra wA aL aN wB bL bN 30 3 1200 120 ca1 cb1 wt r0 ga la gb lt w d (by first | assumption | omega) (by first | assumption | omega) (by first | assumption | omega) (by first | assumption | omega) (by first | assumption | omega) (by first | assumption | omega) (by first | assumption | omega) (by first | assumption | omega)) (va_cwF 4 hts (g_F mw_316 mw_320 mw_322 mw_29 mw_324) rfl rfl rfl hF1 (by decide +kernel) ⟨Nat.le_of_ble_eq_true rfl, Nat.le_of_ble_eq_true rfl⟩) (pre_WV hP hK hD [2, 3, 4, 5, 6, 7, 8, 9, 10, 11] rfl (by decide) 1 0 rfl rfl (fun _ => (hT rfl).at hD hS hA [2, 3, 4, 5, 6, 7, 8, 9, 10, 11] rfl)) rfl rfl hl.1 rfl (lv_room (Nat.le_of_ble_eq_true rfl)) d_Nf_costOfPair_41 ⟨Nat.le_of_ble_eq_true rfl, Nat.le_of_ble_eq_true rfl⟩) hP hD hS hA [2, 3, 4, 5, 6, 7, 8, 9, 10, 11] [0, 1] rfl rfl (by decide) (by decide) (fun u_41 H locs hu_41 hP hD hS => ?_)
      have hP : va_P D classes [(o, .inr (7, [.ref bk, .ref wA, .ref wo, .ref m1, .ref m2, .ref pa, .ref hi, .int (J ap), .int (J sw)])), (bk, .inr (0, [.ref wB, .ref q1, .ref q2, .ref q3, .ref q4, .int (J ((n : Nat) : Int))])), (m1, .inr (1, [.ref wo, .ref ra])), (ra, ca cI 11 u_41), (wo, .inr (5, [.ref wa])), (wa, ca cI 6 wt), (wA, .inr (6, [.ref aL, .ref aN, .int (J ca1)])), (aL, ca cI 30 ga), (aN, ca cI 3 la), (wB, .inr (6, [.ref bL, .ref bN, .int (J cb1)])), (bL, ca cI 1200 gb), (bN, ca cI 120 lt)] H := hP
      have hD : va_D A [(o, .inr (7, [.ref bk, .ref wA, .ref wo, .ref m1, .ref m2, .ref pa, .ref hi, .int (J ap), .int (J sw)])), (bk, .inr (0, [.ref wB, .ref q1, .ref q2, .ref q3, .ref q4, .int (J ((n : Nat) : Int))])), (m1, .inr (1, [.ref wo, .ref ra])), (ra, ca cI 11 u_41), (wo, .inr (5, [.ref wa])), (wa, ca cI 6 wt), (wA, .inr (6, [.ref aL, .ref aN, .int (J ca1)])), (aL, ca cI 30 ga), (aN, ca cI 3 la), (wB, .inr (6, [.ref bL, .ref bN, .int (J cb1)])), (bL, ca cI 1200 gb), (bN, ca cI 120 lt)] := hD
      exact Mi_ret hx hb hr hlocks hQ d_Nf_costOfPair_46 hP hK hD hS nb_i (by rw [if_pos (by omega)]) u_41 (hu_41) [0, 1, 2, 3, 4, 5, 6, 7, 8, 9, 10, 11] rfl (by decide)
    · have c_22 := b2_n0.mp c_22
      refine lv_iconst (v := J (-1)) hx hb d_Nf_costOfPair_25 rfl ?_
      exact Mi_ret hx hb hr hlocks hQ d_Nf_costOfPair_26 hP hK hD hS nb_i (by rw [if_neg (by omega)]) r0 (hr0) [0, 1, 2, 3, 4, 5, 6, 7, 8, 9, 10, 11] rfl (by decide)
set_option maxHeartbeats 4000000 in
set_option maxRecDepth 100000 in
theorem c_Nf_costOfPair_n (l : Launch) (D : va_G) (cI cZ cJ : ClassId) (sz : Nat) (o : Nat) (bk : Nat) (wA : Nat) (wo : Nat) (m1 : Nat) (m2 : Nat) (pa : Nat) (hi : Nat) (wB : Nat) (q1 : Nat) (q2 : Nat) (q3 : Nat) (q4 : Nat) (n : Nat) (ap : Int) (sw : Int) (sa : Nat) (aL : Nat) (aN : Nat) (bL : Nat) (bN : Nat) (wa : Nat) (ca1 : Int) (cb1 : Int) (wt : Nat → Int) (ga : Nat → Int) (la : Nat → Int) (gb : Nat → Int) (lt : Nat → Int) (w : Nat) (d : Nat) (hw : ∀ k, 0 ≤ wt k ∧ wt k ≤ 1000) (hla : ∀ k, 0 ≤ la k ∧ la k ≤ 10) (hlt : ∀ k, 0 ≤ lt k ∧ lt k ≤ 10) (hga : ∀ k, 0 ≤ ga k ∧ ga k < 26) (hgb : ∀ k, 0 ≤ gb k ∧ gb k < 26) (hwd : w < 3 ∧ d < 120) : Mi l y_Nf_costOfPair w_Nf_costOfPair ({ frames := 3, cells := 0, slots := 0, locals := 77 }) true D classes [(cI, .int), (cZ, .boolean), (cJ, .long)] sz [.ref o, .int (J ((w : Nat) : Int)), .int (J ((d : Nat) : Int)), .ref m2] [(o, .inr (7, [.ref bk, .ref wA, .ref wo, .ref m1, .ref m2, .ref pa, .ref hi, .int (J ap), .int (J sw)])), (bk, .inr (0, [.ref wB, .ref q1, .ref q2, .ref q3, .ref q4, .int (J ((n : Nat) : Int))])), (m2, .inr (2, [.ref wo, .ref sa])), (sa, ca cI 26 (fun _ => 0)), (wo, .inr (5, [.ref wa])), (wa, ca cI 6 wt), (wA, .inr (6, [.ref aL, .ref aN, .int (J ca1)])), (aL, ca cI 30 ga), (aN, ca cI 3 la), (wB, .inr (6, [.ref bL, .ref bN, .int (J cb1)])), (bL, ca cI 1200 gb), (bN, ca cI 120 lt)] (if 0 < la w ∧ 0 < lt d then lb wt (fun t => ga (w * 10 + t)) (la w).toNat (fun t => gb (d * 10 + t)) (lt d).toNat else -1) (S := Unit) (fun _ => True) (fun u : Unit => [(o, .inr (7, [.ref bk, .ref wA, .ref wo, .ref m1, .ref m2, .ref pa, .ref hi, .int (J ap), .int (J sw)])), (bk, .inr (0, [.ref wB, .ref q1, .ref q2, .ref q3, .ref q4, .int (J ((n : Nat) : Int))])), (m2, .inr (2, [.ref wo, .ref sa])), (sa, ca cI 26 (fun _ => 0)), (wo, .inr (5, [.ref wa])), (wa, ca cI 6 wt), (wA, .inr (6, [.ref aL, .ref aN, .int (J ca1)])), (aL, ca cI 30 ga), (aN, ca cI 3 la), (wB, .inr (6, [.ref bL, .ref bN, .int (J cb1)])), (bL, ca cI 1200 gb), (bN, ca cI 120 lt)]) 0 0 := by
  refine Mi_of (cc := b_Nf_costOfPair) (maxL := 4) (by decide) rfl (Nat.le_of_ble_eq_true rfl) ?_
  intro p e s m args below meth c hx hb hr hml hts hown hlocks A hA hP hK hD hT hS Q hQ H hH ls hl
  subst hH
  have hl : lv_has ls 4 [(0, .ref o), (1, .int (J ((w : Nat) : Int))), (2, .int (J ((d : Nat) : Int))), (3, .ref m2)] := hl
  obtain ⟨tt, hZ, hTt, hF1, hF2⟩ := hT rfl
  have l1 := hla w
  have l2 := hlt d
  refine lv_aload_n hx hb d_Nf_costOfPair_0 rfl (lv_at hl 0 rfl) ?_
  refine va_get (D := D) (ci := 7) (v := .ref wA) (C := R_Nf) (T := T_Nf) (N := 9) hx hb hts i_Nf hown hK hP 0 rfl rfl 1 (by decide) (hts _ mw_187) (fun _ h9 => h9) rfl d_Nf_costOfPair_1 ?_
  refine lv_iload_n hx hb d_Nf_costOfPair_4 rfl (lv_at hl 1 rfl) ?_
  refine Ri_call (va_runV (As := [.int (J ((w : Nat) : Int))]) (rest := []) ⟨hx, hb, hml, hown, hts⟩ (c_Wo_isNone l D cI cZ cJ wA aL aN 3 ca1 la w (by first | assumption | omega) (by first | assumption | omega) (by first | assumption | omega)) (cwV 1 hts (g_V mw_303 mw_304 mw_305 mw_27 mw_306) rfl rfl rfl (by decide +kernel) ⟨Nat.le_of_ble_eq_true rfl, Nat.le_of_ble_eq_true rfl⟩) (pre_RV hP hK [6, 8] rfl 6 0 rfl rfl) rfl rfl hl.1 rfl (lv_room (Nat.le_of_ble_eq_true rfl)) d_Nf_costOfPair_5 ⟨Nat.le_of_ble_eq_true rfl, Nat.le_of_ble_eq_true rfl⟩) ?_
  refine w_if_ne (tgt := 25) hx hb d_Nf_costOfPair_8 (by decide) (rg_b2) (fun c_8 => ?_) (fun c_8 => ?_)
  · have c_8 := b2_n0.mp c_8
    refine lv_iconst (v := J (-1)) hx hb d_Nf_costOfPair_25 rfl ?_
    exact Mi_ret hx hb hr hlocks hQ d_Nf_costOfPair_26 hP hK hD hS nb_i (by rw [if_neg (by omega)]) () (trivial) [0, 1, 2, 3, 4, 5, 6, 7, 8, 9, 10, 11] rfl (by decide)
  · have c_8 := b2_0.mp c_8
    refine lv_aload_n hx hb d_Nf_costOfPair_11 rfl (lv_at hl 0 rfl) ?_
    refine va_get (D := D) (ci := 7) (v := .ref bk) (C := R_Nf) (T := T_Nf) (N := 9) hx hb hts i_Nf hown hK hP 0 rfl rfl 0 (by decide) (hts _ mw_186) (fun _ h9 => h9) rfl d_Nf_costOfPair_12 ?_
    refine va_get (D := D) (ci := 0) (v := .ref wB) (C := R_Bk) (T := T_Bk) (N := 6) hx hb hts i_Bk hown hK hP 1 rfl rfl 0 (by decide) (hts _ mw_76) (fun _ h9 => h9) rfl d_Nf_costOfPair_15 ?_
    refine lv_iload_n hx hb d_Nf_costOfPair_18 rfl (lv_at hl 2 rfl) ?_
    refine Ri_call (va_runV (As := [.int (J ((d : Nat) : Int))]) (rest := []) ⟨hx, hb, hml, hown, hts⟩ (c_Wo_isNone l D cI cZ cJ wB bL bN 120 cb1 lt d (by first | assumption | omega) (by first | assumption | omega) (by first | assumption | omega)) (cwV 1 hts (g_V mw_303 mw_304 mw_305 mw_27 mw_306) rfl rfl rfl (by decide +kernel) ⟨Nat.le_of_ble_eq_true rfl, Nat.le_of_ble_eq_true rfl⟩) (pre_RV hP hK [9, 11] rfl 6 0 rfl rfl) rfl rfl hl.1 rfl (lv_room (Nat.le_of_ble_eq_true rfl)) d_Nf_costOfPair_19 ⟨Nat.le_of_ble_eq_true rfl, Nat.le_of_ble_eq_true rfl⟩) ?_
    refine w_if_eq (tgt := 27) hx hb d_Nf_costOfPair_22 (by decide) (rg_b2) (fun c_22 => ?_) (fun c_22 => ?_)
    · have c_22 := b2_0.mp c_22
      refine lv_aload_n hx hb d_Nf_costOfPair_27 rfl (lv_at hl 3 rfl) ?_
      refine lv_aload_n hx hb d_Nf_costOfPair_28 rfl (lv_at hl 0 rfl) ?_
      refine va_get (D := D) (ci := 7) (v := .ref wA) (C := R_Nf) (T := T_Nf) (N := 9) hx hb hts i_Nf hown hK hP 0 rfl rfl 1 (by decide) (hts _ mw_187) (fun _ h9 => h9) rfl d_Nf_costOfPair_29 ?_
      refine lv_iload_n hx hb d_Nf_costOfPair_32 rfl (lv_at hl 1 rfl) ?_
      refine lv_aload_n hx hb d_Nf_costOfPair_33 rfl (lv_at hl 0 rfl) ?_
      refine va_get (D := D) (ci := 7) (v := .ref bk) (C := R_Nf) (T := T_Nf) (N := 9) hx hb hts i_Nf hown hK hP 0 rfl rfl 0 (by decide) (hts _ mw_186) (fun _ h9 => h9) rfl d_Nf_costOfPair_34 ?_
      refine va_get (D := D) (ci := 0) (v := .ref wB) (C := R_Bk) (T := T_Bk) (N := 6) hx hb hts i_Bk hown hK hP 1 rfl rfl 0 (by decide) (hts _ mw_76) (fun _ h9 => h9) rfl d_Nf_costOfPair_37 ?_
      refine lv_iload_n hx hb d_Nf_costOfPair_40 rfl (lv_at hl 2 rfl) ?_
      refine Mi_callF (wr := [(o, .inr (7, [.ref bk, .ref wA, .ref wo, .ref m1, .ref m2, .ref pa, .ref hi, .int (J ap), .int (J sw)])), (bk, .inr (0, [.ref wB, .ref q1, .ref q2, .ref q3, .ref q4, .int (J ((n : Nat) : Int))]))]) (va_runF (As := [.ref wA, .int (J ((w : Nat) : Int)), .ref wB, .int (J ((d : Nat) : Int))]) (rest := []) (hK.1 2 _ rfl).2 ⟨hx, hb, hml, hown, hts⟩ (c_Bn_between l D cI cZ cJ s.heap.size m2 wo wa sa wA aL aN wB bL bN 30 3 1200 120 ca1 cb1 wt ga la gb lt w d (by first | assumption | omega) (by first | assumption | omega) (by first | assumption | omega) (by first | assumption | omega) (by first | assumption | omega) (by first | assumption | omega) (by first | assumption | omega)) (va_cwF 4 hts (g_F mw_316 mw_353 mw_355 mw_30 mw_357) rfl rfl rfl hF2 (by decide +kernel) ⟨Nat.le_of_ble_eq_true rfl, Nat.le_of_ble_eq_true rfl⟩) (pre_WV hP hK hD [2, 3, 4, 5, 6, 7, 8, 9, 10, 11] rfl (by decide) 2 0 rfl rfl (fun h => Bool.noConfusion h)) rfl rfl hl.1 rfl (lv_room (Nat.le_of_ble_eq_true rfl)) d_Nf_costOfPair_41 ⟨Nat.le_of_ble_eq_true rfl, Nat.le_of_ble_eq_true rfl⟩) hP hD hS hA [2, 3, 4, 5, 6, 7, 8, 9, 10, 11] [0, 1] rfl rfl (by decide) (by decide) (fun _u H locs _hu hP hD hS => ?_)
      have hP : va_P D classes [(o, .inr (7, [.ref bk, .ref wA, .ref wo, .ref m1, .ref m2, .ref pa, .ref hi, .int (J ap), .int (J sw)])), (bk, .inr (0, [.ref wB, .ref q1, .ref q2, .ref q3, .ref q4, .int (J ((n : Nat) : Int))])), (m2, .inr (2, [.ref wo, .ref sa])), (sa, ca cI 26 (fun _ => 0)), (wo, .inr (5, [.ref wa])), (wa, ca cI 6 wt), (wA, .inr (6, [.ref aL, .ref aN, .int (J ca1)])), (aL, ca cI 30 ga), (aN, ca cI 3 la), (wB, .inr (6, [.ref bL, .ref bN, .int (J cb1)])), (bL, ca cI 1200 gb), (bN, ca cI 120 lt)] H := hP
      have hD : va_D A [(o, .inr (7, [.ref bk, .ref wA, .ref wo, .ref m1, .ref m2, .ref pa, .ref hi, .int (J ap), .int (J sw)])), (bk, .inr (0, [.ref wB, .ref q1, .ref q2, .ref q3, .ref q4, .int (J ((n : Nat) : Int))])), (m2, .inr (2, [.ref wo, .ref sa])), (sa, ca cI 26 (fun _ => 0)), (wo, .inr (5, [.ref wa])), (wa, ca cI 6 wt), (wA, .inr (6, [.ref aL, .ref aN, .int (J ca1)])), (aL, ca cI 30 ga), (aN, ca cI 3 la), (wB, .inr (6, [.ref bL, .ref bN, .int (J cb1)])), (bL, ca cI 1200 gb), (bN, ca cI 120 lt)] := hD
      exact Mi_ret hx hb hr hlocks hQ d_Nf_costOfPair_46 hP hK hD hS nb_i (by rw [if_pos (by omega)]) () (trivial) [0, 1, 2, 3, 4, 5, 6, 7, 8, 9, 10, 11] rfl (by decide)
    · have c_22 := b2_n0.mp c_22
      refine lv_iconst (v := J (-1)) hx hb d_Nf_costOfPair_25 rfl ?_
      exact Mi_ret hx hb hr hlocks hQ d_Nf_costOfPair_26 hP hK hD hS nb_i (by rw [if_neg (by omega)]) () (trivial) [0, 1, 2, 3, 4, 5, 6, 7, 8, 9, 10, 11] rfl (by decide)
end
section
/-- how many words are there among the first w of both sides -/
def cwn (la lt : Nat → Int) : Nat → Int
  | 0 => 0
  | w + 1 => cwn la lt w + b2 (0 < la w) + b2 (0 < lt w)
theorem cwn_rg (la lt : Nat → Int) : ∀ w : Nat, 0 ≤ cwn la lt w ∧ cwn la lt w ≤ 2 * (w : Int)
  | 0 => by simp [cwn]
  | w + 1 => by
    have h := cwn_rg la lt w
    have h1 := b2_rg (q := 0 < la w)
    have h2 := b2_rg (q := 0 < lt w)
    rw [cwn]
    omega
theorem cwn_3 (la lt : Nat → Int) : cwn la lt 3 = nw la + nw lt := by
  simp only [cwn, nw]
  omega
/-- the class's costs, filled up to word w and other d -/
def ckq (la lt cs ck : Nat → Int) (w d : Nat) : Prop := ∀ a b : Nat, b < 3 → (a < w ∨ (a = w ∧ b < d)) → ck (3 * a + b) = if 0 < la a ∧ 0 < lt b then cs (3 * a + b) else -1
theorem ckq_s {la lt cs ck : Nat → Int} {w d : Nat} (h : ckq la lt cs ck w d) (hd : d < 3) {z : Int} (hz : z = if 0 < la w ∧ 0 < lt d then cs (3 * w + d) else -1) : ckq la lt cs (iu ck (w * 3 + d) z) w (d + 1) := by
  intro a b hb hab
  by_cases e : a = w ∧ b = d
  · obtain ⟨rfl, rfl⟩ := e
    rw [show 3 * a + b = a * 3 + b by omega, iu_s, hz, show 3 * a + b = a * 3 + b by omega]
  · rw [iu_n _ _ (by omega)]
    exact h a b hb (by omega)
theorem ckq_w {la lt cs ck : Nat → Int} {w : Nat} (h : ckq la lt cs ck w 3) : ckq la lt cs ck (w + 1) 0 := fun a b hb hab => h a b hb (by omega)
theorem ckq_3 {la lt cs ck : Nat → Int} (h : ckq la lt cs ck 3 0) : ckf la lt cs ck := fun a b ha hb => h a b hb (by omega)
set_option maxHeartbeats 4000000 in
set_option maxRecDepth 100000 in
theorem c_Nf_leastOfWays_c (l : Launch) (D : va_G) (cI cZ cJ : ClassId) (sz : Nat) (o : Nat) (bk : Nat) (wA : Nat) (wo : Nat) (m1 : Nat) (m2 : Nat) (pa : Nat) (hi : Nat) (wB : Nat) (q1 : Nat) (q2 : Nat) (q3 : Nat) (q4 : Nat) (n : Nat) (ap : Int) (sw : Int) (ra : Nat) (aL : Nat) (aN : Nat) (bL : Nat) (bN : Nat) (wa : Nat) (ca1 : Int) (cb1 : Int) (wt : Nat → Int) (ga : Nat → Int) (la : Nat → Int) (gb : Nat → Int) (lt : Nat → Int) (ac : Nat) (wc : Int) (bw : Int) (ck0 : Nat → Int) (r0 : Nat → Int) (en : Nat) (hw : ∀ k, 0 ≤ wt k ∧ wt k ≤ 1000) (hla : ∀ k, 0 ≤ la k ∧ la k ≤ 10) (hlt : ∀ k, 0 ≤ lt k ∧ lt k ≤ 10) (hga : ∀ k, 0 ≤ ga k ∧ ga k < 26) (hgb : ∀ k, 0 ≤ gb k ∧ gb k < 26) (hen : en < 40) (hck0 : ∀ j, -1 ≤ ck0 j ∧ ck0 j ≤ 20000) (hr0 : ∀ k, 0 ≤ r0 k ∧ r0 k ≤ 100000) : Mi l y_Nf_leastOfWays w_Nf_leastOfWays ({ frames := 5, cells := 0, slots := 0, locals := 117 }) true D classes [(cI, .int), (cZ, .boolean), (cJ, .long)] sz [.ref o, .int (J ((en : Nat) : Int)), .ref m1] [(o, .inr (7, [.ref bk, .ref wA, .ref wo, .ref m1, .ref m2, .ref pa, .ref hi, .int (J ap), .int (J sw)])), (bk, .inr (0, [.ref wB, .ref q1, .ref q2, .ref q3, .ref q4, .int (J ((n : Nat) : Int))])), (m1, .inr (1, [.ref wo, .ref ra])), (ra, ca cI 11 r0), (wo, .inr (5, [.ref wa])), (wa, ca cI 6 wt), (wA, .inr (6, [.ref aL, .ref aN, .int (J ca1)])), (aL, ca cI 30 ga), (aN, ca cI 3 la), (wB, .inr (6, [.ref bL, .ref bN, .int (J cb1)])), (bL, ca cI 1200 gb), (bN, ca cI 120 lt), (pa, .inr (4, [.ref wo, .ref ac, .int (J wc), .int (J bw)])), (ac, ca cI 9 ck0)] ((pkw la (shf lt (en * 3)) wt (csc wt ga la gb lt en) (nw la + nw (shf lt (en * 3))) 64).1) (S := (Nat → Int) × (Nat → Int)) (fun f => (∀ k, 0 ≤ f.1 k ∧ f.1 k ≤ 100000) ∧ ∀ j, -1 ≤ f.2 j ∧ f.2 j ≤ 20000) (fun u : (Nat → Int) × (Nat → Int) => [(o, .inr (7, [.ref bk, .ref wA, .ref wo, .ref m1, .ref m2, .ref pa, .ref hi, .int (J ap), .int (J sw)])), (bk, .inr (0, [.ref wB, .ref q1, .ref q2, .ref q3, .ref q4, .int (J ((n : Nat) : Int))])), (m1, .inr (1, [.ref wo, .ref ra])), (ra, ca cI 11 (u.1)), (wo, .inr (5, [.ref wa])), (wa, ca cI 6 wt), (wA, .inr (6, [.ref aL, .ref aN, .int (J ca1)])), (aL, ca cI 30 ga), (aN, ca cI 3 la), (wB, .inr (6, [.ref bL, .ref bN, .int (J cb1)])), (bL, ca cI 1200 gb), (bN, ca cI 120 lt), (pa, .inr (4, [.ref wo, .ref ac, .int (J (nw la + nw (shf lt (en * 3)))), .int (J (((pkw la (shf lt (en * 3)) wt (csc wt ga la gb lt en) (nw la + nw (shf lt (en * 3))) 64).2 : Nat) : Int))])), (ac, ca cI 9 (u.2))]) 0 0 := by
  refine Mi_of (cc := b_Nf_leastOfWays) (maxL := 5) (by decide) rfl (Nat.le_of_ble_eq_true rfl) ?_
  intro p e s m args below meth c hx hb hr hml hts hown hlocks A hA hP hK hD hT hS Q hQ H hH ls hl
  subst hH
  have hl : lv_has ls 5 [(0, .ref o), (1, .int (J ((en : Nat) : Int))), (2, .ref m1)] := hl
  refine lv_aload_n hx hb d_Nf_leastOfWays_0 rfl (lv_at hl 0 rfl) ?_
  refine va_get (D := D) (ci := 7) (v := .ref pa) (C := R_Nf) (T := T_Nf) (N := 9) hx hb hts i_Nf hown hK hP 0 rfl rfl 5 (by decide) (hts _ mw_191) (fun _ h9 => h9) rfl d_Nf_leastOfWays_1 ?_
  refine Mv_call (wr := [(o, .inr (7, [.ref bk, .ref wA, .ref wo, .ref m1, .ref m2, .ref pa, .ref hi, .int (J ap), .int (J sw)])), (bk, .inr (0, [.ref wB, .ref q1, .ref q2, .ref q3, .ref q4, .int (J ((n : Nat) : Int))])), (m1, .inr (1, [.ref wo, .ref ra])), (ra, ca cI 11 r0), (wo, .inr (5, [.ref wa])), (wa, ca cI 6 wt), (wA, .inr (6, [.ref aL, .ref aN, .int (J ca1)])), (aL, ca cI 30 ga), (aN, ca cI 3 la), (wB, .inr (6, [.ref bL, .ref bN, .int (J cb1)])), (bL, ca cI 1200 gb), (bN, ca cI 120 lt), (ac, ca cI 9 ck0)]) (va_runV (As := []) (rest := []) ⟨hx, hb, hml, hown, hts⟩ (c_Pa_start l D cI cZ cJ s.heap.size pa wo ac wc bw ) (cwV 0 hts (g_V mw_299 mw_300 mw_301 mw_31 mw_302) rfl rfl rfl (by decide +kernel) ⟨Nat.le_of_ble_eq_true rfl, Nat.le_of_ble_eq_true rfl⟩) (pre_WV hP hK hD [12] rfl (by decide) 4 0 rfl rfl (fun h => Bool.noConfusion h)) rfl rfl hl.1 rfl (lv_room (Nat.le_of_ble_eq_true rfl)) d_Nf_leastOfWays_4 ⟨Nat.le_of_ble_eq_true rfl, Nat.le_of_ble_eq_true rfl⟩) hP hD hS hA [12] [0, 1, 2, 3, 4, 5, 6, 7, 8, 9, 10, 11, 13] rfl rfl (by decide) (by decide) (fun _u H locs _hu hP hD hS => ?_)
  have hP : va_P D classes [(o, .inr (7, [.ref bk, .ref wA, .ref wo, .ref m1, .ref m2, .ref pa, .ref hi, .int (J ap), .int (J sw)])), (bk, .inr (0, [.ref wB, .ref q1, .ref q2, .ref q3, .ref q4, .int (J ((n : Nat) : Int))])), (m1, .inr (1, [.ref wo, .ref ra])), (ra, ca cI 11 r0), (wo, .inr (5, [.ref wa])), (wa, ca cI 6 wt), (wA, .inr (6, [.ref aL, .ref aN, .int (J ca1)])), (aL, ca cI 30 ga), (aN, ca cI 3 la), (wB, .inr (6, [.ref bL, .ref bN, .int (J cb1)])), (bL, ca cI 1200 gb), (bN, ca cI 120 lt), (ac, ca cI 9 ck0), (pa, .inr (4, [.ref wo, .ref ac, .int (J 0), .int (J bw)]))] H := hP
  have hD : va_D A [(o, .inr (7, [.ref bk, .ref wA, .ref wo, .ref m1, .ref m2, .ref pa, .ref hi, .int (J ap), .int (J sw)])), (bk, .inr (0, [.ref wB, .ref q1, .ref q2, .ref q3, .ref q4, .int (J ((n : Nat) : Int))])), (m1, .inr (1, [.ref wo, .ref ra])), (ra, ca cI 11 r0), (wo, .inr (5, [.ref wa])), (wa, ca cI 6 wt), (wA, .inr (6, [.ref aL, .ref aN, .int (J ca1)])), (aL, ca cI 30 ga), (aN, ca cI 3 la), (wB, .inr (6, [.ref bL, .ref bN, .int (J cb1)])), (bL, ca cI 1200 gb), (bN, ca cI 120 lt), (ac, ca cI 9 ck0), (pa, .inr (4, [.ref wo, .ref ac, .int (J 0), .int (J bw)]))] := hD
  refine lv_iconst (v := J (0)) hx hb d_Nf_leastOfWays_7 rfl ?_
  refine lv_istore_n (lv' := [(3, .int (J 0)), (0, .ref o), (1, .int (J ((en : Nat) : Int))), (2, .ref m1)]) hx hb d_Nf_leastOfWays_8 rfl hl (by decide) rfl (fun ls hl => ?_)
  have lp_9 : ∀ (fu : Nat) (w : Nat) (ck : Nat → Int) (rr : Nat → Int), (w ≤ 3) → (ckq la (shf lt (en * 3)) (csc wt ga la gb lt en) ck w 0) → (∀ j, -1 ≤ ck j ∧ ck j ≤ 20000) → (∀ k, 0 ≤ rr k ∧ rr k ≤ 100000) → (3 - w) < fu → ∀ (H : Heap) (locs : List Loc), va_P D classes [(o, .inr (7, [.ref bk, .ref wA, .ref wo, .ref m1, .ref m2, .ref pa, .ref hi, .int (J ap), .int (J sw)])), (bk, .inr (0, [.ref wB, .ref q1, .ref q2, .ref q3, .ref q4, .int (J ((n : Nat) : Int))])), (m1, .inr (1, [.ref wo, .ref ra])), (ra, ca cI 11 rr), (wo, .inr (5, [.ref wa])), (wa, ca cI 6 wt), (wA, .inr (6, [.ref aL, .ref aN, .int (J ca1)])), (aL, ca cI 30 ga), (aN, ca cI 3 la), (wB, .inr (6, [.ref bL, .ref bN, .int (J cb1)])), (bL, ca cI 1200 gb), (bN, ca cI 120 lt), (ac, ca cI 9 ck), (pa, .inr (4, [.ref wo, .ref ac, .int (J (cwn la (shf lt (en * 3)) w)), .int (J bw)]))] H → va_D A [(o, .inr (7, [.ref bk, .ref wA, .ref wo, .ref m1, .ref m2, .ref pa, .ref hi, .int (J ap), .int (J sw)])), (bk, .inr (0, [.ref wB, .ref q1, .ref q2, .ref q3, .ref q4, .int (J ((n : Nat) : Int))])), (m1, .inr (1, [.ref wo, .ref ra])), (ra, ca cI 11 rr), (wo, .inr (5, [.ref wa])), (wa, ca cI 6 wt), (wA, .inr (6, [.ref aL, .ref aN, .int (J ca1)])), (aL, ca cI 30 ga), (aN, ca cI 3 la), (wB, .inr (6, [.ref bL, .ref bN, .int (J cb1)])), (bL, ca cI 1200 gb), (bN, ca cI 120 lt), (ac, ca cI 9 ck), (pa, .inr (4, [.ref wo, .ref ac, .int (J (cwn la (shf lt (en * 3)) w)), .int (J bw)]))] → va_S A s.heap H locs → ∀ ls : Array Slot, lv_has ls 5 [(0, .ref o), (1, .int (J ((en : Nat) : Int))), (2, .ref m1), (3, .int (J ((w : Nat) : Int)))] → W p l e ({ frames := 5, cells := 0, slots := 0, locals := 117 }) s m args below meth c H locs 0 0 Q (F0 m 9 ls []) := by
    intro fu
    induction fu with
    | zero => intro w ck rr hw3 hq hcb hrr hfu; exact absurd hfu (Nat.not_lt_zero _)
    | succ fu ih_9 =>
      intro w ck rr hw3 hq hcb hrr hfu H locs hP hD hS ls hl
      have x1 := hla w
      have x2 := hlt (en * 3 + w)
      have x3 := cwn_rg la (shf lt (en * 3)) w
      refine lv_iload_n hx hb d_Nf_leastOfWays_9 rfl (lv_at hl 3 rfl) ?_
      refine lv_iconst (v := J (3)) hx hb d_Nf_leastOfWays_10 rfl ?_
      refine w_icmp_ge (tgt := 110) hx hb d_Nf_leastOfWays_11 (by decide) (by omega) (by omega) (fun c_11 => ?_) (fun c_11 => ?_)
      · obtain rfl : w = 3 := by omega
        rw [cwn_3] at hP hD
        have hcs : ∀ j, 0 ≤ csc wt ga la gb lt en j ∧ csc wt ga la gb lt en j ≤ 20000 := fun j => csc_rg hw hla hlt en j
        refine lv_aload_n hx hb d_Nf_leastOfWays_110 rfl (lv_at hl 0 rfl) ?_
        refine va_get (D := D) (ci := 7) (v := .ref pa) (C := R_Nf) (T := T_Nf) (N := 9) hx hb hts i_Nf hown hK hP 0 rfl rfl 5 (by decide) (hts _ mw_191) (fun _ h9 => h9) rfl d_Nf_leastOfWays_111 ?_
        refine Mi_call (wr := [(o, .inr (7, [.ref bk, .ref wA, .ref wo, .ref m1, .ref m2, .ref pa, .ref hi, .int (J ap), .int (J sw)])), (bk, .inr (0, [.ref wB, .ref q1, .ref q2, .ref q3, .ref q4, .int (J ((n : Nat) : Int))])), (m1, .inr (1, [.ref wo, .ref ra])), (ra, ca cI 11 rr), (wA, .inr (6, [.ref aL, .ref aN, .int (J ca1)])), (aL, ca cI 30 ga), (aN, ca cI 3 la), (wB, .inr (6, [.ref bL, .ref bN, .int (J cb1)])), (bL, ca cI 1200 gb), (bN, ca cI 120 lt)]) (va_runV (As := []) (rest := []) ⟨hx, hb, hml, hown, hts⟩ (c_Pa_choose l D cI cZ cJ H.size pa wo wa ac bw wt ck la (shf lt (en * 3)) (csc wt ga la gb lt en) (by first | assumption | omega) (by first | assumption | omega) (hcs) (ckq_3 hq)) (cwV 0 hts (g_V mw_374 mw_375 mw_376 mw_31 mw_377) rfl rfl rfl (by decide +kernel) ⟨Nat.le_of_ble_eq_true rfl, Nat.le_of_ble_eq_true rfl⟩) (pre_WV hP hK hD [13, 4, 5, 12] rfl (by decide) 4 0 rfl rfl (fun h => Bool.noConfusion h)) rfl rfl hl.1 rfl (lv_room (Nat.le_of_ble_eq_true rfl)) d_Nf_leastOfWays_114 ⟨Nat.le_of_ble_eq_true rfl, Nat.le_of_ble_eq_true rfl⟩) hP hD hS hA [13, 4, 5, 12] [0, 1, 2, 3, 6, 7, 8, 9, 10, 11] rfl rfl (by decide) (by decide) (fun _u H locs _hu hP hD hS => ?_)
        have hP : va_P D classes [(o, .inr (7, [.ref bk, .ref wA, .ref wo, .ref m1, .ref m2, .ref pa, .ref hi, .int (J ap), .int (J sw)])), (bk, .inr (0, [.ref wB, .ref q1, .ref q2, .ref q3, .ref q4, .int (J ((n : Nat) : Int))])), (m1, .inr (1, [.ref wo, .ref ra])), (ra, ca cI 11 rr), (wA, .inr (6, [.ref aL, .ref aN, .int (J ca1)])), (aL, ca cI 30 ga), (aN, ca cI 3 la), (wB, .inr (6, [.ref bL, .ref bN, .int (J cb1)])), (bL, ca cI 1200 gb), (bN, ca cI 120 lt), (pa, .inr (4, [.ref wo, .ref ac, .int (J (nw la + nw (shf lt (en * 3)))), .int (J (((pkw la (shf lt (en * 3)) wt (csc wt ga la gb lt en) (nw la + nw (shf lt (en * 3))) 64).2 : Nat) : Int))])), (wo, .inr (5, [.ref wa])), (wa, ca cI 6 wt), (ac, ca cI 9 ck)] H := hP
        have hD : va_D A [(o, .inr (7, [.ref bk, .ref wA, .ref wo, .ref m1, .ref m2, .ref pa, .ref hi, .int (J ap), .int (J sw)])), (bk, .inr (0, [.ref wB, .ref q1, .ref q2, .ref q3, .ref q4, .int (J ((n : Nat) : Int))])), (m1, .inr (1, [.ref wo, .ref ra])), (ra, ca cI 11 rr), (wA, .inr (6, [.ref aL, .ref aN, .int (J ca1)])), (aL, ca cI 30 ga), (aN, ca cI 3 la), (wB, .inr (6, [.ref bL, .ref bN, .int (J cb1)])), (bL, ca cI 1200 gb), (bN, ca cI 120 lt), (pa, .inr (4, [.ref wo, .ref ac, .int (J (nw la + nw (shf lt (en * 3)))), .int (J (((pkw la (shf lt (en * 3)) wt (csc wt ga la gb lt en) (nw la + nw (shf lt (en * 3))) 64).2 : Nat) : Int))])), (wo, .inr (5, [.ref wa])), (wa, ca cI 6 wt), (ac, ca cI 9 ck)] := hD
        exact Mi_ret hx hb hr hlocks hQ d_Nf_leastOfWays_117 hP hK hD hS nb_i (rfl) (rr, ck) (⟨hrr, hcb⟩) [0, 1, 2, 3, 11, 12, 4, 5, 6, 7, 8, 9, 10, 13] rfl (by decide)
      · refine lv_aload_n hx hb d_Nf_leastOfWays_14 rfl (lv_at hl 0 rfl) ?_
        refine va_get (D := D) (ci := 7) (v := .ref pa) (C := R_Nf) (T := T_Nf) (N := 9) hx hb hts i_Nf hown hK hP 0 rfl rfl 5 (by decide) (hts _ mw_191) (fun _ h9 => h9) rfl d_Nf_leastOfWays_15 ?_
        refine lv_aload_n hx hb d_Nf_leastOfWays_18 rfl (lv_at hl 0 rfl) ?_
        refine va_get (D := D) (ci := 7) (v := .ref wA) (C := R_Nf) (T := T_Nf) (N := 9) hx hb hts i_Nf hown hK hP 0 rfl rfl 1 (by decide) (hts _ mw_187) (fun _ h9 => h9) rfl d_Nf_leastOfWays_19 ?_
        refine lv_iload_n hx hb d_Nf_leastOfWays_22 rfl (lv_at hl 3 rfl) ?_
        refine Ri_call (va_runV (As := [.int (J ((w : Nat) : Int))]) (rest := [.ref pa]) ⟨hx, hb, hml, hown, hts⟩ (c_Wo_isNone l D cI cZ cJ wA aL aN 3 ca1 la w (by first | assumption | omega) (by first | assumption | omega) (by first | assumption | omega)) (cwV 1 hts (g_V mw_303 mw_304 mw_305 mw_27 mw_306) rfl rfl rfl (by decide +kernel) ⟨Nat.le_of_ble_eq_true rfl, Nat.le_of_ble_eq_true rfl⟩) (pre_RV hP hK [6, 8] rfl 6 0 rfl rfl) rfl rfl hl.1 rfl (lv_room (Nat.le_of_ble_eq_true rfl)) d_Nf_leastOfWays_23 ⟨Nat.le_of_ble_eq_true rfl, Nat.le_of_ble_eq_true rfl⟩) ?_
        refine w_dne (tgt := 33) (X := 34) hx hb d_Nf_leastOfWays_26 (by decide) d_Nf_leastOfWays_29 d_Nf_leastOfWays_30 (by decide) d_Nf_leastOfWays_33 rfl ?_
        refine tp_J (y := b2 (0 < la w)) (b2_eq (by omega)) ?_
        refine Mv_call (wr := [(o, .inr (7, [.ref bk, .ref wA, .ref wo, .ref m1, .ref m2, .ref pa, .ref hi, .int (J ap), .int (J sw)])), (bk, .inr (0, [.ref wB, .ref q1, .ref q2, .ref q3, .ref q4, .int (J ((n : Nat) : Int))])), (m1, .inr (1, [.ref wo, .ref ra])), (ra, ca cI 11 rr), (wo, .inr (5, [.ref wa])), (wa, ca cI 6 wt), (wA, .inr (6, [.ref aL, .ref aN, .int (J ca1)])), (aL, ca cI 30 ga), (aN, ca cI 3 la), (wB, .inr (6, [.ref bL, .ref bN, .int (J cb1)])), (bL, ca cI 1200 gb), (bN, ca cI 120 lt), (ac, ca cI 9 ck)]) (va_runV (As := [.int (J (b2 (0 < la w)))]) (rest := []) ⟨hx, hb, hml, hown, hts⟩ (c_Pa_countWord l D cI cZ cJ H.size pa wo ac (cwn la (shf lt (en * 3)) w) bw (b2 (0 < la w)) (b2_rg)) (cwV 1 hts (g_V mw_307 mw_308 mw_309 mw_31 mw_310) rfl rfl rfl (by decide +kernel) ⟨Nat.le_of_ble_eq_true rfl, Nat.le_of_ble_eq_true rfl⟩) (pre_WV hP hK hD [13] rfl (by decide) 4 0 rfl rfl (fun h => Bool.noConfusion h)) rfl rfl hl.1 rfl (lv_room (Nat.le_of_ble_eq_true rfl)) d_Nf_leastOfWays_34 ⟨Nat.le_of_ble_eq_true rfl, Nat.le_of_ble_eq_true rfl⟩) hP hD hS hA [13] [0, 1, 2, 3, 4, 5, 6, 7, 8, 9, 10, 11, 12] rfl rfl (by decide) (by decide) (fun _u H locs _hu hP hD hS => ?_)
        have hP : va_P D classes [(o, .inr (7, [.ref bk, .ref wA, .ref wo, .ref m1, .ref m2, .ref pa, .ref hi, .int (J ap), .int (J sw)])), (bk, .inr (0, [.ref wB, .ref q1, .ref q2, .ref q3, .ref q4, .int (J ((n : Nat) : Int))])), (m1, .inr (1, [.ref wo, .ref ra])), (ra, ca cI 11 rr), (wo, .inr (5, [.ref wa])), (wa, ca cI 6 wt), (wA, .inr (6, [.ref aL, .ref aN, .int (J ca1)])), (aL, ca cI 30 ga), (aN, ca cI 3 la), (wB, .inr (6, [.ref bL, .ref bN, .int (J cb1)])), (bL, ca cI 1200 gb), (bN, ca cI 120 lt), (ac, ca cI 9 ck), (pa, .inr (4, [.ref wo, .ref ac, .int (J ((cwn la (shf lt (en * 3)) w) + (b2 (0 < la w)))), .int (J bw)]))] H := hP
        have hD : va_D A [(o, .inr (7, [.ref bk, .ref wA, .ref wo, .ref m1, .ref m2, .ref pa, .ref hi, .int (J ap), .int (J sw)])), (bk, .inr (0, [.ref wB, .ref q1, .ref q2, .ref q3, .ref q4, .int (J ((n : Nat) : Int))])), (m1, .inr (1, [.ref wo, .ref ra])), (ra, ca cI 11 rr), (wo, .inr (5, [.ref wa])), (wa, ca cI 6 wt), (wA, .inr (6, [.ref aL, .ref aN, .int (J ca1)])), (aL, ca cI 30 ga), (aN, ca cI 3 la), (wB, .inr (6, [.ref bL, .ref bN, .int (J cb1)])), (bL, ca cI 1200 gb), (bN, ca cI 120 lt), (ac, ca cI 9 ck), (pa, .inr (4, [.ref wo, .ref ac, .int (J ((cwn la (shf lt (en * 3)) w) + (b2 (0 < la w)))), .int (J bw)]))] := hD
        refine lv_aload_n hx hb d_Nf_leastOfWays_37 rfl (lv_at hl 0 rfl) ?_
        refine va_get (D := D) (ci := 7) (v := .ref pa) (C := R_Nf) (T := T_Nf) (N := 9) hx hb hts i_Nf hown hK hP 0 rfl rfl 5 (by decide) (hts _ mw_191) (fun _ h9 => h9) rfl d_Nf_leastOfWays_38 ?_
        refine lv_aload_n hx hb d_Nf_leastOfWays_41 rfl (lv_at hl 0 rfl) ?_
        refine va_get (D := D) (ci := 7) (v := .ref bk) (C := R_Nf) (T := T_Nf) (N := 9) hx hb hts i_Nf hown hK hP 0 rfl rfl 0 (by decide) (hts _ mw_186) (fun _ h9 => h9) rfl d_Nf_leastOfWays_42 ?_
        refine va_get (D := D) (ci := 0) (v := .ref wB) (C := R_Bk) (T := T_Bk) (N := 6) hx hb hts i_Bk hown hK hP 1 rfl rfl 0 (by decide) (hts _ mw_76) (fun _ h9 => h9) rfl d_Nf_leastOfWays_45 ?_
        refine lv_iload_n hx hb d_Nf_leastOfWays_48 rfl (lv_at hl 1 rfl) ?_
        refine lv_iload_n hx hb d_Nf_leastOfWays_49 rfl (lv_at hl 3 rfl) ?_
        refine Ri_call (va_runS (As := [.int (J ((en : Nat) : Int)), .int (J ((w : Nat) : Int))]) (rest := [.ref wB, .ref pa]) ⟨hx, hb, hml, hown, hts⟩ (c_Bk_wordAt l D cI cZ cJ en w ) (va_cwS 2 hts (g_S mw_243 mw_244 mw_26 mw_245) rfl rfl rfl (by decide +kernel) ⟨Nat.le_of_ble_eq_true rfl, Nat.le_of_ble_eq_true rfl⟩) (pre_RS hP hK [] rfl) rfl rfl hl.1 rfl (lv_room (Nat.le_of_ble_eq_true rfl)) d_Nf_leastOfWays_50 ⟨Nat.le_of_ble_eq_true rfl, Nat.le_of_ble_eq_true rfl⟩) ?_
        refine Ri_call (va_runV (As := [.int (J ((en * 3 + w : Nat) : Int))]) (rest := [.ref pa]) ⟨hx, hb, hml, hown, hts⟩ (c_Wo_isNone l D cI cZ cJ wB bL bN 120 cb1 lt (en * 3 + w) (by first | assumption | omega) (by first | assumption | omega) (by first | assumption | omega)) (cwV 1 hts (g_V mw_303 mw_304 mw_305 mw_27 mw_306) rfl rfl rfl (by decide +kernel) ⟨Nat.le_of_ble_eq_true rfl, Nat.le_of_ble_eq_true rfl⟩) (pre_RV hP hK [9, 11] rfl 6 0 rfl rfl) rfl rfl hl.1 rfl (lv_room (Nat.le_of_ble_eq_true rfl)) d_Nf_leastOfWays_53 ⟨Nat.le_of_ble_eq_true rfl, Nat.le_of_ble_eq_true rfl⟩) ?_
        refine w_dne (tgt := 63) (X := 64) hx hb d_Nf_leastOfWays_56 (by decide) d_Nf_leastOfWays_59 d_Nf_leastOfWays_60 (by decide) d_Nf_leastOfWays_63 rfl ?_
        refine tp_J (y := b2 (0 < (shf lt (en * 3)) w)) (b2_eq (by show ¬ lt (en * 3 + w) = 0 ↔ 0 < lt (en * 3 + w); omega)) ?_
        refine Mv_call (wr := [(o, .inr (7, [.ref bk, .ref wA, .ref wo, .ref m1, .ref m2, .ref pa, .ref hi, .int (J ap), .int (J sw)])), (bk, .inr (0, [.ref wB, .ref q1, .ref q2, .ref q3, .ref q4, .int (J ((n : Nat) : Int))])), (m1, .inr (1, [.ref wo, .ref ra])), (ra, ca cI 11 rr), (wo, .inr (5, [.ref wa])), (wa, ca cI 6 wt), (wA, .inr (6, [.ref aL, .ref aN, .int (J ca1)])), (aL, ca cI 30 ga), (aN, ca cI 3 la), (wB, .inr (6, [.ref bL, .ref bN, .int (J cb1)])), (bL, ca cI 1200 gb), (bN, ca cI 120 lt), (ac, ca cI 9 ck)]) (va_runV (As := [.int (J (b2 (0 < (shf lt (en * 3)) w)))]) (rest := []) ⟨hx, hb, hml, hown, hts⟩ (c_Pa_countWord l D cI cZ cJ H.size pa wo ac ((cwn la (shf lt (en * 3)) w) + (b2 (0 < la w))) bw (b2 (0 < (shf lt (en * 3)) w)) (b2_rg)) (cwV 1 hts (g_V mw_307 mw_308 mw_309 mw_31 mw_310) rfl rfl rfl (by decide +kernel) ⟨Nat.le_of_ble_eq_true rfl, Nat.le_of_ble_eq_true rfl⟩) (pre_WV hP hK hD [13] rfl (by decide) 4 0 rfl rfl (fun h => Bool.noConfusion h)) rfl rfl hl.1 rfl (lv_room (Nat.le_of_ble_eq_true rfl)) d_Nf_leastOfWays_64 ⟨Nat.le_of_ble_eq_true rfl, Nat.le_of_ble_eq_true rfl⟩) hP hD hS hA [13] [0, 1, 2, 3, 4, 5, 6, 7, 8, 9, 10, 11, 12] rfl rfl (by decide) (by decide) (fun _u H locs _hu hP hD hS => ?_)
        have hP : va_P D classes [(o, .inr (7, [.ref bk, .ref wA, .ref wo, .ref m1, .ref m2, .ref pa, .ref hi, .int (J ap), .int (J sw)])), (bk, .inr (0, [.ref wB, .ref q1, .ref q2, .ref q3, .ref q4, .int (J ((n : Nat) : Int))])), (m1, .inr (1, [.ref wo, .ref ra])), (ra, ca cI 11 rr), (wo, .inr (5, [.ref wa])), (wa, ca cI 6 wt), (wA, .inr (6, [.ref aL, .ref aN, .int (J ca1)])), (aL, ca cI 30 ga), (aN, ca cI 3 la), (wB, .inr (6, [.ref bL, .ref bN, .int (J cb1)])), (bL, ca cI 1200 gb), (bN, ca cI 120 lt), (ac, ca cI 9 ck), (pa, .inr (4, [.ref wo, .ref ac, .int (J (((cwn la (shf lt (en * 3)) w) + (b2 (0 < la w))) + (b2 (0 < (shf lt (en * 3)) w)))), .int (J bw)]))] H := hP
        have hD : va_D A [(o, .inr (7, [.ref bk, .ref wA, .ref wo, .ref m1, .ref m2, .ref pa, .ref hi, .int (J ap), .int (J sw)])), (bk, .inr (0, [.ref wB, .ref q1, .ref q2, .ref q3, .ref q4, .int (J ((n : Nat) : Int))])), (m1, .inr (1, [.ref wo, .ref ra])), (ra, ca cI 11 rr), (wo, .inr (5, [.ref wa])), (wa, ca cI 6 wt), (wA, .inr (6, [.ref aL, .ref aN, .int (J ca1)])), (aL, ca cI 30 ga), (aN, ca cI 3 la), (wB, .inr (6, [.ref bL, .ref bN, .int (J cb1)])), (bL, ca cI 1200 gb), (bN, ca cI 120 lt), (ac, ca cI 9 ck), (pa, .inr (4, [.ref wo, .ref ac, .int (J (((cwn la (shf lt (en * 3)) w) + (b2 (0 < la w))) + (b2 (0 < (shf lt (en * 3)) w)))), .int (J bw)]))] := hD
        have ew : ((cwn la (shf lt (en * 3)) w) + (b2 (0 < la w))) + (b2 (0 < (shf lt (en * 3)) w)) = cwn la (shf lt (en * 3)) (w + 1) := rfl
        rw [ew] at hP hD
        refine lv_iconst (v := J (0)) hx hb d_Nf_leastOfWays_67 rfl ?_
        refine lv_istore (lv' := [(4, .int (J 0)), (0, .ref o), (1, .int (J ((en : Nat) : Int))), (2, .ref m1), (3, .int (J ((w : Nat) : Int)))]) hx hb d_Nf_leastOfWays_68 hl (by decide) rfl (fun ls hl => ?_)
        have lp_70 : ∀ (fu : Nat) (d : Nat) (ck : Nat → Int) (rr : Nat → Int), (d ≤ 3) → (ckq la (shf lt (en * 3)) (csc wt ga la gb lt en) ck w d) → (∀ j, -1 ≤ ck j ∧ ck j ≤ 20000) → (∀ k, 0 ≤ rr k ∧ rr k ≤ 100000) → (3 - d) < fu → ∀ (H : Heap) (locs : List Loc), va_P D classes [(o, .inr (7, [.ref bk, .ref wA, .ref wo, .ref m1, .ref m2, .ref pa, .ref hi, .int (J ap), .int (J sw)])), (bk, .inr (0, [.ref wB, .ref q1, .ref q2, .ref q3, .ref q4, .int (J ((n : Nat) : Int))])), (m1, .inr (1, [.ref wo, .ref ra])), (ra, ca cI 11 rr), (wo, .inr (5, [.ref wa])), (wa, ca cI 6 wt), (wA, .inr (6, [.ref aL, .ref aN, .int (J ca1)])), (aL, ca cI 30 ga), (aN, ca cI 3 la), (wB, .inr (6, [.ref bL, .ref bN, .int (J cb1)])), (bL, ca cI 1200 gb), (bN, ca cI 120 lt), (ac, ca cI 9 ck), (pa, .inr (4, [.ref wo, .ref ac, .int (J (cwn la (shf lt (en * 3)) (w + 1))), .int (J bw)]))] H → va_D A [(o, .inr (7, [.ref bk, .ref wA, .ref wo, .ref m1, .ref m2, .ref pa, .ref hi, .int (J ap), .int (J sw)])), (bk, .inr (0, [.ref wB, .ref q1, .ref q2, .ref q3, .ref q4, .int (J ((n : Nat) : Int))])), (m1, .inr (1, [.ref wo, .ref ra])), (ra, ca cI 11 rr), (wo, .inr (5, [.ref wa])), (wa, ca cI 6 wt), (wA, .inr (6, [.ref aL, .ref aN, .int (J ca1)])), (aL, ca cI 30 ga), (aN, ca cI 3 la), (wB, .inr (6, [.ref bL, .ref bN, .int (J cb1)])), (bL, ca cI 1200 gb), (bN, ca cI 120 lt), (ac, ca cI 9 ck), (pa, .inr (4, [.ref wo, .ref ac, .int (J (cwn la (shf lt (en * 3)) (w + 1))), .int (J bw)]))] → va_S A s.heap H locs → ∀ ls : Array Slot, lv_has ls 5 [(0, .ref o), (1, .int (J ((en : Nat) : Int))), (2, .ref m1), (3, .int (J ((w : Nat) : Int))), (4, .int (J ((d : Nat) : Int)))] → W p l e ({ frames := 5, cells := 0, slots := 0, locals := 117 }) s m args below meth c H locs 0 0 Q (F0 m 70 ls []) := by
          intro fu
          induction fu with
          | zero => intro d ck rr hd3 hq3 hcb hrr hfu; exact absurd hfu (Nat.not_lt_zero _)
          | succ fu ih_70 =>
            intro d ck rr hd3 hq3 hcb hrr hfu H locs hP hD hS ls hl
            refine lv_iload hx hb d_Nf_leastOfWays_70 (lv_at hl 4 rfl) ?_
            refine lv_iconst (v := J (3)) hx hb d_Nf_leastOfWays_72 rfl ?_
            refine w_icmp_ge (tgt := 104) hx hb d_Nf_leastOfWays_73 (by decide) (by omega) (by omega) (fun c_73 => ?_) (fun c_73 => ?_)
            · obtain rfl : d = 3 := by omega
              refine w_iinc (k := 3) (lv' := [(3, .int (J ((w + 1 : Nat) : Int))), (0, .ref o), (1, .int (J ((en : Nat) : Int))), (2, .ref m1), (4, .int (J ((3 : Nat) : Int)))]) hx hb d_Nf_leastOfWays_104 hl rfl ((w + 1 : Nat) : Int) (by omega) (by decide) rfl (fun ls hl => ?_)
              refine lv_goto (tgt := 9) hx hb d_Nf_leastOfWays_107 (by decide) ?_
              exact ih_9 (w + 1) ck rr (by omega) (ckq_w hq3) (hcb) (hrr) (by omega) _ _ (P_map hP [0, 1, 2, 3, 4, 5, 6, 7, 8, 9, 10, 11, 12, 13] rfl) (hD.sub [0, 1, 2, 3, 4, 5, 6, 7, 8, 9, 10, 11, 12, 13] (by decide) rfl) hS ls (lv_sub hl [1, 2, 3, 0] rfl)
            · refine lv_aload_n hx hb d_Nf_leastOfWays_76 rfl (lv_at hl 0 rfl) ?_
              refine va_get (D := D) (ci := 7) (v := .ref pa) (C := R_Nf) (T := T_Nf) (N := 9) hx hb hts i_Nf hown hK hP 0 rfl rfl 5 (by decide) (hts _ mw_191) (fun _ h9 => h9) rfl d_Nf_leastOfWays_77 ?_
              refine lv_iload_n hx hb d_Nf_leastOfWays_80 rfl (lv_at hl 3 rfl) ?_
              refine lv_iload hx hb d_Nf_leastOfWays_81 (lv_at hl 4 rfl) ?_
              refine lv_aload_n hx hb d_Nf_leastOfWays_83 rfl (lv_at hl 0 rfl) ?_
              refine lv_iload_n hx hb d_Nf_leastOfWays_84 rfl (lv_at hl 3 rfl) ?_
              refine lv_iload_n hx hb d_Nf_leastOfWays_85 rfl (lv_at hl 1 rfl) ?_
              refine lv_iload hx hb d_Nf_leastOfWays_86 (lv_at hl 4 rfl) ?_
              refine Ri_call (va_runS (As := [.int (J ((en : Nat) : Int)), .int (J ((d : Nat) : Int))]) (rest := [.int (J ((w : Nat) : Int)), .ref o, .int (J ((d : Nat) : Int)), .int (J ((w : Nat) : Int)), .ref pa]) ⟨hx, hb, hml, hown, hts⟩ (c_Bk_wordAt l D cI cZ cJ en d ) (va_cwS 2 hts (g_S mw_243 mw_244 mw_26 mw_245) rfl rfl rfl (by decide +kernel) ⟨Nat.le_of_ble_eq_true rfl, Nat.le_of_ble_eq_true rfl⟩) (pre_RS hP hK [] rfl) rfl rfl hl.1 rfl (lv_room (Nat.le_of_ble_eq_true rfl)) d_Nf_leastOfWays_88 ⟨Nat.le_of_ble_eq_true rfl, Nat.le_of_ble_eq_true rfl⟩) ?_
              refine lv_aload_n hx hb d_Nf_leastOfWays_91 rfl (lv_at hl 2 rfl) ?_
              refine Mi_call (wr := [(ac, ca cI 9 ck), (pa, .inr (4, [.ref wo, .ref ac, .int (J (cwn la (shf lt (en * 3)) (w + 1))), .int (J bw)]))]) (va_runV (As := [.int (J ((w : Nat) : Int)), .int (J ((en * 3 + d : Nat) : Int)), .ref m1]) (rest := [.int (J ((d : Nat) : Int)), .int (J ((w : Nat) : Int)), .ref pa]) ⟨hx, hb, hml, hown, hts⟩ (c_Nf_costOfPair_c l D cI cZ cJ H.size o bk wA wo m1 m2 pa hi wB q1 q2 q3 q4 n ap sw ra aL aN bL bN wa ca1 cb1 wt ga la gb lt rr w (en * 3 + d) (by first | assumption | omega) (by first | assumption | omega) (by first | assumption | omega) (by first | assumption | omega) (by first | assumption | omega) (by first | assumption | omega) (by first | assumption | omega)) (cwV 3 hts (g_V mw_311 mw_313 mw_3 mw_25 mw_314) rfl rfl rfl (by decide +kernel) ⟨Nat.le_of_ble_eq_true rfl, Nat.le_of_ble_eq_true rfl⟩) (pre_WV hP hK hD [0, 1, 2, 3, 4, 5, 6, 7, 8, 9, 10, 11] rfl (by decide) 7 0 rfl rfl (fun _ => (hT rfl).at hD hS hA [0, 1, 2, 3, 4, 5, 6, 7, 8, 9, 10, 11] rfl)) rfl rfl hl.1 rfl (lv_room (Nat.le_of_ble_eq_true rfl)) d_Nf_leastOfWays_92 ⟨Nat.le_of_ble_eq_true rfl, Nat.le_of_ble_eq_true rfl⟩) hP hD hS hA [0, 1, 2, 3, 4, 5, 6, 7, 8, 9, 10, 11] [12, 13] rfl rfl (by decide) (by decide) (fun u_92 H locs hu_92 hP hD hS => ?_)
              have hP : va_P D classes [(ac, ca cI 9 ck), (pa, .inr (4, [.ref wo, .ref ac, .int (J (cwn la (shf lt (en * 3)) (w + 1))), .int (J bw)])), (o, .inr (7, [.ref bk, .ref wA, .ref wo, .ref m1, .ref m2, .ref pa, .ref hi, .int (J ap), .int (J sw)])), (bk, .inr (0, [.ref wB, .ref q1, .ref q2, .ref q3, .ref q4, .int (J ((n : Nat) : Int))])), (m1, .inr (1, [.ref wo, .ref ra])), (ra, ca cI 11 u_92), (wo, .inr (5, [.ref wa])), (wa, ca cI 6 wt), (wA, .inr (6, [.ref aL, .ref aN, .int (J ca1)])), (aL, ca cI 30 ga), (aN, ca cI 3 la), (wB, .inr (6, [.ref bL, .ref bN, .int (J cb1)])), (bL, ca cI 1200 gb), (bN, ca cI 120 lt)] H := hP
              have hD : va_D A [(ac, ca cI 9 ck), (pa, .inr (4, [.ref wo, .ref ac, .int (J (cwn la (shf lt (en * 3)) (w + 1))), .int (J bw)])), (o, .inr (7, [.ref bk, .ref wA, .ref wo, .ref m1, .ref m2, .ref pa, .ref hi, .int (J ap), .int (J sw)])), (bk, .inr (0, [.ref wB, .ref q1, .ref q2, .ref q3, .ref q4, .int (J ((n : Nat) : Int))])), (m1, .inr (1, [.ref wo, .ref ra])), (ra, ca cI 11 u_92), (wo, .inr (5, [.ref wa])), (wa, ca cI 6 wt), (wA, .inr (6, [.ref aL, .ref aN, .int (J ca1)])), (aL, ca cI 30 ga), (aN, ca cI 3 la), (wB, .inr (6, [.ref bL, .ref bN, .int (J cb1)])), (bL, ca cI 1200 gb), (bN, ca cI 120 lt)] := hD
              have v1 : -1 ≤ (if 0 < la w ∧ 0 < lt (en * 3 + d) then ed wt (fun t => ga (w * 10 + t)) (fun t => gb ((en * 3 + d) * 10 + t)) (la w).toNat (lt (en * 3 + d)).toNat else -1) ∧ (if 0 < la w ∧ 0 < lt (en * 3 + d) then ed wt (fun t => ga (w * 10 + t)) (fun t => gb ((en * 3 + d) * 10 + t)) (la w).toNat (lt (en * 3 + d)).toNat else -1) ≤ 20000 := by
                have z1 := csc_rg (ga := ga) (gb := gb) hw hla hlt en (3 * w + d)
                rw [csc_at _ _ _ _ _ _ _ (by omega)] at z1
                split <;> omega
              refine Mv_call (wr := [(o, .inr (7, [.ref bk, .ref wA, .ref wo, .ref m1, .ref m2, .ref pa, .ref hi, .int (J ap), .int (J sw)])), (bk, .inr (0, [.ref wB, .ref q1, .ref q2, .ref q3, .ref q4, .int (J ((n : Nat) : Int))])), (m1, .inr (1, [.ref wo, .ref ra])), (ra, ca cI 11 u_92), (wo, .inr (5, [.ref wa])), (wa, ca cI 6 wt), (wA, .inr (6, [.ref aL, .ref aN, .int (J ca1)])), (aL, ca cI 30 ga), (aN, ca cI 3 la), (wB, .inr (6, [.ref bL, .ref bN, .int (J cb1)])), (bL, ca cI 1200 gb), (bN, ca cI 120 lt)]) (va_runV (As := [.int (J ((w : Nat) : Int)), .int (J ((d : Nat) : Int)), .int (J (if 0 < la w ∧ 0 < lt (en * 3 + d) then ed wt (fun t => ga (w * 10 + t)) (fun t => gb ((en * 3 + d) * 10 + t)) (la w).toNat (lt (en * 3 + d)).toNat else -1))]) (rest := []) ⟨hx, hb, hml, hown, hts⟩ (c_Pa_setCost l D cI cZ cJ H.size pa wo ac (cwn la (shf lt (en * 3)) (w + 1)) bw ck w d (if 0 < la w ∧ 0 < lt (en * 3 + d) then ed wt (fun t => ga (w * 10 + t)) (fun t => gb ((en * 3 + d) * 10 + t)) (la w).toNat (lt (en * 3 + d)).toNat else -1) (by first | assumption | omega) (by first | assumption | omega)) (cwV 3 hts (g_V mw_370 mw_371 mw_372 mw_31 mw_373) rfl rfl rfl (by decide +kernel) ⟨Nat.le_of_ble_eq_true rfl, Nat.le_of_ble_eq_true rfl⟩) (pre_WV hP hK hD [1, 0] rfl (by decide) 4 0 rfl rfl (fun h => Bool.noConfusion h)) rfl rfl hl.1 rfl (lv_room (Nat.le_of_ble_eq_true rfl)) d_Nf_leastOfWays_95 ⟨Nat.le_of_ble_eq_true rfl, Nat.le_of_ble_eq_true rfl⟩) hP hD hS hA [1, 0] [2, 3, 4, 5, 6, 7, 8, 9, 10, 11, 12, 13] rfl rfl (by decide) (by decide) (fun _u H locs _hu hP hD hS => ?_)
              have hP : va_P D classes [(o, .inr (7, [.ref bk, .ref wA, .ref wo, .ref m1, .ref m2, .ref pa, .ref hi, .int (J ap), .int (J sw)])), (bk, .inr (0, [.ref wB, .ref q1, .ref q2, .ref q3, .ref q4, .int (J ((n : Nat) : Int))])), (m1, .inr (1, [.ref wo, .ref ra])), (ra, ca cI 11 u_92), (wo, .inr (5, [.ref wa])), (wa, ca cI 6 wt), (wA, .inr (6, [.ref aL, .ref aN, .int (J ca1)])), (aL, ca cI 30 ga), (aN, ca cI 3 la), (wB, .inr (6, [.ref bL, .ref bN, .int (J cb1)])), (bL, ca cI 1200 gb), (bN, ca cI 120 lt), (pa, .inr (4, [.ref wo, .ref ac, .int (J (cwn la (shf lt (en * 3)) (w + 1))), .int (J bw)])), (ac, ca cI 9 (iu ck (w * 3 + d) (if 0 < la w ∧ 0 < lt (en * 3 + d) then ed wt (fun t => ga (w * 10 + t)) (fun t => gb ((en * 3 + d) * 10 + t)) (la w).toNat (lt (en * 3 + d)).toNat else -1)))] H := hP
              have hD : va_D A [(o, .inr (7, [.ref bk, .ref wA, .ref wo, .ref m1, .ref m2, .ref pa, .ref hi, .int (J ap), .int (J sw)])), (bk, .inr (0, [.ref wB, .ref q1, .ref q2, .ref q3, .ref q4, .int (J ((n : Nat) : Int))])), (m1, .inr (1, [.ref wo, .ref ra])), (ra, ca cI 11 u_92), (wo, .inr (5, [.ref wa])), (wa, ca cI 6 wt), (wA, .inr (6, [.ref aL, .ref aN, .int (J ca1)])), (aL, ca cI 30 ga), (aN, ca cI 3 la), (wB, .inr (6, [.ref bL, .ref bN, .int (J cb1)])), (bL, ca cI 1200 gb), (bN, ca cI 120 lt), (pa, .inr (4, [.ref wo, .ref ac, .int (J (cwn la (shf lt (en * 3)) (w + 1))), .int (J bw)])), (ac, ca cI 9 (iu ck (w * 3 + d) (if 0 < la w ∧ 0 < lt (en * 3 + d) then ed wt (fun t => ga (w * 10 + t)) (fun t => gb ((en * 3 + d) * 10 + t)) (la w).toNat (lt (en * 3 + d)).toNat else -1)))] := hD
              refine w_iinc (k := 4) (lv' := [(4, .int (J ((d + 1 : Nat) : Int))), (0, .ref o), (1, .int (J ((en : Nat) : Int))), (2, .ref m1), (3, .int (J ((w : Nat) : Int)))]) hx hb d_Nf_leastOfWays_98 hl rfl ((d + 1 : Nat) : Int) (by omega) (by decide) rfl (fun ls hl => ?_)
              refine lv_goto (tgt := 70) hx hb d_Nf_leastOfWays_101 (by decide) ?_
              exact ih_70 (d + 1) (iu ck (w * 3 + d) (if 0 < la w ∧ 0 < lt (en * 3 + d) then ed wt (fun t => ga (w * 10 + t)) (fun t => gb ((en * 3 + d) * 10 + t)) (la w).toNat (lt (en * 3 + d)).toNat else -1)) u_92 (by omega) (ckq_s hq3 (by omega) (by rw [csc_at _ _ _ _ _ _ _ (by omega)]; rfl)) (fun j => by unfold iu; split <;> first | exact hcb j | omega) (hu_92) (by omega) _ _ (P_map hP [0, 1, 2, 3, 4, 5, 6, 7, 8, 9, 10, 11, 13, 12] rfl) (hD.sub [0, 1, 2, 3, 4, 5, 6, 7, 8, 9, 10, 11, 13, 12] (by decide) rfl) hS ls (lv_sub hl [1, 2, 3, 4, 0] rfl)
        exact lp_70 ((3 - 0) + 1) 0 ck rr (by omega) (hq) (hcb) (hrr) (Nat.lt_succ_self _) _ _ (P_map hP [0, 1, 2, 3, 4, 5, 6, 7, 8, 9, 10, 11, 12, 13] rfl) (hD.sub [0, 1, 2, 3, 4, 5, 6, 7, 8, 9, 10, 11, 12, 13] (by decide) rfl) hS ls (lv_sub hl [1, 2, 3, 4, 0] rfl)
  exact lp_9 ((3 - 0) + 1) 0 ck0 r0 (by omega) (fun a b hb hab => absurd hab (by omega)) (hck0) (hr0) (Nat.lt_succ_self _) _ _ (P_map hP [0, 1, 2, 3, 4, 5, 6, 7, 8, 9, 10, 11, 12, 13] rfl) (hD.sub [0, 1, 2, 3, 4, 5, 6, 7, 8, 9, 10, 11, 12, 13] (by decide) rfl) hS ls (lv_sub hl [1, 2, 3, 0] rfl)
set_option maxHeartbeats 4000000 in
set_option maxRecDepth 100000 in
theorem c_Nf_leastOfWays_n (l : Launch) (D : va_G) (cI cZ cJ : ClassId) (sz : Nat) (o : Nat) (bk : Nat) (wA : Nat) (wo : Nat) (m1 : Nat) (m2 : Nat) (pa : Nat) (hi : Nat) (wB : Nat) (q1 : Nat) (q2 : Nat) (q3 : Nat) (q4 : Nat) (n : Nat) (ap : Int) (sw : Int) (sa : Nat) (aL : Nat) (aN : Nat) (bL : Nat) (bN : Nat) (wa : Nat) (ca1 : Int) (cb1 : Int) (wt : Nat → Int) (ga : Nat → Int) (la : Nat → Int) (gb : Nat → Int) (lt : Nat → Int) (ac : Nat) (wc : Int) (bw : Int) (ck0 : Nat → Int) (en : Nat) (hw : ∀ k, 0 ≤ wt k ∧ wt k ≤ 1000) (hla : ∀ k, 0 ≤ la k ∧ la k ≤ 10) (hlt : ∀ k, 0 ≤ lt k ∧ lt k ≤ 10) (hga : ∀ k, 0 ≤ ga k ∧ ga k < 26) (hgb : ∀ k, 0 ≤ gb k ∧ gb k < 26) (hen : en < 40) (hck0 : ∀ j, -1 ≤ ck0 j ∧ ck0 j ≤ 20000) : Mi l y_Nf_leastOfWays w_Nf_leastOfWays ({ frames := 4, cells := 0, slots := 0, locals := 100 }) true D classes [(cI, .int), (cZ, .boolean), (cJ, .long)] sz [.ref o, .int (J ((en : Nat) : Int)), .ref m2] [(o, .inr (7, [.ref bk, .ref wA, .ref wo, .ref m1, .ref m2, .ref pa, .ref hi, .int (J ap), .int (J sw)])), (bk, .inr (0, [.ref wB, .ref q1, .ref q2, .ref q3, .ref q4, .int (J ((n : Nat) : Int))])), (m2, .inr (2, [.ref wo, .ref sa])), (sa, ca cI 26 (fun _ => 0)), (wo, .inr (5, [.ref wa])), (wa, ca cI 6 wt), (wA, .inr (6, [.ref aL, .ref aN, .int (J ca1)])), (aL, ca cI 30 ga), (aN, ca cI 3 la), (wB, .inr (6, [.ref bL, .ref bN, .int (J cb1)])), (bL, ca cI 1200 gb), (bN, ca cI 120 lt), (pa, .inr (4, [.ref wo, .ref ac, .int (J wc), .int (J bw)])), (ac, ca cI 9 ck0)] ((pkw la (shf lt (en * 3)) wt (csn wt ga la gb lt en) (nw la + nw (shf lt (en * 3))) 64).1) (S := Nat → Int) (fun f => ∀ j, -1 ≤ f j ∧ f j ≤ 20000) (fun u : Nat → Int => [(o, .inr (7, [.ref bk, .ref wA, .ref wo, .ref m1, .ref m2, .ref pa, .ref hi, .int (J ap), .int (J sw)])), (bk, .inr (0, [.ref wB, .ref q1, .ref q2, .ref q3, .ref q4, .int (J ((n : Nat) : Int))])), (m2, .inr (2, [.ref wo, .ref sa])), (sa, ca cI 26 (fun _ => 0)), (wo, .inr (5, [.ref wa])), (wa, ca cI 6 wt), (wA, .inr (6, [.ref aL, .ref aN, .int (J ca1)])), (aL, ca cI 30 ga), (aN, ca cI 3 la), (wB, .inr (6, [.ref bL, .ref bN, .int (J cb1)])), (bL, ca cI 1200 gb), (bN, ca cI 120 lt), (pa, .inr (4, [.ref wo, .ref ac, .int (J (nw la + nw (shf lt (en * 3)))), .int (J (((pkw la (shf lt (en * 3)) wt (csn wt ga la gb lt en) (nw la + nw (shf lt (en * 3))) 64).2 : Nat) : Int))])), (ac, ca cI 9 u)]) 0 0 := by
  refine Mi_of (cc := b_Nf_leastOfWays) (maxL := 5) (by decide) rfl (Nat.le_of_ble_eq_true rfl) ?_
  intro p e s m args below meth c hx hb hr hml hts hown hlocks A hA hP hK hD hT hS Q hQ H hH ls hl
  subst hH
  have hl : lv_has ls 5 [(0, .ref o), (1, .int (J ((en : Nat) : Int))), (2, .ref m2)] := hl
  refine lv_aload_n hx hb d_Nf_leastOfWays_0 rfl (lv_at hl 0 rfl) ?_
  refine va_get (D := D) (ci := 7) (v := .ref pa) (C := R_Nf) (T := T_Nf) (N := 9) hx hb hts i_Nf hown hK hP 0 rfl rfl 5 (by decide) (hts _ mw_191) (fun _ h9 => h9) rfl d_Nf_leastOfWays_1 ?_
  refine Mv_call (wr := [(o, .inr (7, [.ref bk, .ref wA, .ref wo, .ref m1, .ref m2, .ref pa, .ref hi, .int (J ap), .int (J sw)])), (bk, .inr (0, [.ref wB, .ref q1, .ref q2, .ref q3, .ref q4, .int (J ((n : Nat) : Int))])), (m2, .inr (2, [.ref wo, .ref sa])), (sa, ca cI 26 (fun _ => 0)), (wo, .inr (5, [.ref wa])), (wa, ca cI 6 wt), (wA, .inr (6, [.ref aL, .ref aN, .int (J ca1)])), (aL, ca cI 30 ga), (aN, ca cI 3 la), (wB, .inr (6, [.ref bL, .ref bN, .int (J cb1)])), (bL, ca cI 1200 gb), (bN, ca cI 120 lt), (ac, ca cI 9 ck0)]) (va_runV (As := []) (rest := []) ⟨hx, hb, hml, hown, hts⟩ (c_Pa_start l D cI cZ cJ s.heap.size pa wo ac wc bw ) (cwV 0 hts (g_V mw_299 mw_300 mw_301 mw_31 mw_302) rfl rfl rfl (by decide +kernel) ⟨Nat.le_of_ble_eq_true rfl, Nat.le_of_ble_eq_true rfl⟩) (pre_WV hP hK hD [12] rfl (by decide) 4 0 rfl rfl (fun h => Bool.noConfusion h)) rfl rfl hl.1 rfl (lv_room (Nat.le_of_ble_eq_true rfl)) d_Nf_leastOfWays_4 ⟨Nat.le_of_ble_eq_true rfl, Nat.le_of_ble_eq_true rfl⟩) hP hD hS hA [12] [0, 1, 2, 3, 4, 5, 6, 7, 8, 9, 10, 11, 13] rfl rfl (by decide) (by decide) (fun _u H locs _hu hP hD hS => ?_)
  have hP : va_P D classes [(o, .inr (7, [.ref bk, .ref wA, .ref wo, .ref m1, .ref m2, .ref pa, .ref hi, .int (J ap), .int (J sw)])), (bk, .inr (0, [.ref wB, .ref q1, .ref q2, .ref q3, .ref q4, .int (J ((n : Nat) : Int))])), (m2, .inr (2, [.ref wo, .ref sa])), (sa, ca cI 26 (fun _ => 0)), (wo, .inr (5, [.ref wa])), (wa, ca cI 6 wt), (wA, .inr (6, [.ref aL, .ref aN, .int (J ca1)])), (aL, ca cI 30 ga), (aN, ca cI 3 la), (wB, .inr (6, [.ref bL, .ref bN, .int (J cb1)])), (bL, ca cI 1200 gb), (bN, ca cI 120 lt), (ac, ca cI 9 ck0), (pa, .inr (4, [.ref wo, .ref ac, .int (J 0), .int (J bw)]))] H := hP
  have hD : va_D A [(o, .inr (7, [.ref bk, .ref wA, .ref wo, .ref m1, .ref m2, .ref pa, .ref hi, .int (J ap), .int (J sw)])), (bk, .inr (0, [.ref wB, .ref q1, .ref q2, .ref q3, .ref q4, .int (J ((n : Nat) : Int))])), (m2, .inr (2, [.ref wo, .ref sa])), (sa, ca cI 26 (fun _ => 0)), (wo, .inr (5, [.ref wa])), (wa, ca cI 6 wt), (wA, .inr (6, [.ref aL, .ref aN, .int (J ca1)])), (aL, ca cI 30 ga), (aN, ca cI 3 la), (wB, .inr (6, [.ref bL, .ref bN, .int (J cb1)])), (bL, ca cI 1200 gb), (bN, ca cI 120 lt), (ac, ca cI 9 ck0), (pa, .inr (4, [.ref wo, .ref ac, .int (J 0), .int (J bw)]))] := hD
  refine lv_iconst (v := J (0)) hx hb d_Nf_leastOfWays_7 rfl ?_
  refine lv_istore_n (lv' := [(3, .int (J 0)), (0, .ref o), (1, .int (J ((en : Nat) : Int))), (2, .ref m2)]) hx hb d_Nf_leastOfWays_8 rfl hl (by decide) rfl (fun ls hl => ?_)
  have lp_9 : ∀ (fu : Nat) (w : Nat) (ck : Nat → Int), (w ≤ 3) → (ckq la (shf lt (en * 3)) (csn wt ga la gb lt en) ck w 0) → (∀ j, -1 ≤ ck j ∧ ck j ≤ 20000) → (3 - w) < fu → ∀ (H : Heap) (locs : List Loc), va_P D classes [(o, .inr (7, [.ref bk, .ref wA, .ref wo, .ref m1, .ref m2, .ref pa, .ref hi, .int (J ap), .int (J sw)])), (bk, .inr (0, [.ref wB, .ref q1, .ref q2, .ref q3, .ref q4, .int (J ((n : Nat) : Int))])), (m2, .inr (2, [.ref wo, .ref sa])), (sa, ca cI 26 (fun _ => 0)), (wo, .inr (5, [.ref wa])), (wa, ca cI 6 wt), (wA, .inr (6, [.ref aL, .ref aN, .int (J ca1)])), (aL, ca cI 30 ga), (aN, ca cI 3 la), (wB, .inr (6, [.ref bL, .ref bN, .int (J cb1)])), (bL, ca cI 1200 gb), (bN, ca cI 120 lt), (ac, ca cI 9 ck), (pa, .inr (4, [.ref wo, .ref ac, .int (J (cwn la (shf lt (en * 3)) w)), .int (J bw)]))] H → va_D A [(o, .inr (7, [.ref bk, .ref wA, .ref wo, .ref m1, .ref m2, .ref pa, .ref hi, .int (J ap), .int (J sw)])), (bk, .inr (0, [.ref wB, .ref q1, .ref q2, .ref q3, .ref q4, .int (J ((n : Nat) : Int))])), (m2, .inr (2, [.ref wo, .ref sa])), (sa, ca cI 26 (fun _ => 0)), (wo, .inr (5, [.ref wa])), (wa, ca cI 6 wt), (wA, .inr (6, [.ref aL, .ref aN, .int (J ca1)])), (aL, ca cI 30 ga), (aN, ca cI 3 la), (wB, .inr (6, [.ref bL, .ref bN, .int (J cb1)])), (bL, ca cI 1200 gb), (bN, ca cI 120 lt), (ac, ca cI 9 ck), (pa, .inr (4, [.ref wo, .ref ac, .int (J (cwn la (shf lt (en * 3)) w)), .int (J bw)]))] → va_S A s.heap H locs → ∀ ls : Array Slot, lv_has ls 5 [(0, .ref o), (1, .int (J ((en : Nat) : Int))), (2, .ref m2), (3, .int (J ((w : Nat) : Int)))] → W p l e ({ frames := 4, cells := 0, slots := 0, locals := 100 }) s m args below meth c H locs 0 0 Q (F0 m 9 ls []) := by
    intro fu
    induction fu with
    | zero => intro w ck hw3 hq hcb hfu; exact absurd hfu (Nat.not_lt_zero _)
    | succ fu ih_9 =>
      intro w ck hw3 hq hcb hfu H locs hP hD hS ls hl
      have x1 := hla w
      have x2 := hlt (en * 3 + w)
      have x3 := cwn_rg la (shf lt (en * 3)) w
      refine lv_iload_n hx hb d_Nf_leastOfWays_9 rfl (lv_at hl 3 rfl) ?_
      refine lv_iconst (v := J (3)) hx hb d_Nf_leastOfWays_10 rfl ?_
      refine w_icmp_ge (tgt := 110) hx hb d_Nf_leastOfWays_11 (by decide) (by omega) (by omega) (fun c_11 => ?_) (fun c_11 => ?_)
      · obtain rfl : w = 3 := by omega
        rw [cwn_3] at hP hD
        have hcs : ∀ j, 0 ≤ csn wt ga la gb lt en j ∧ csn wt ga la gb lt en j ≤ 20000 := fun j => csn_rg hw hla hlt hga hgb en j
        refine lv_aload_n hx hb d_Nf_leastOfWays_110 rfl (lv_at hl 0 rfl) ?_
        refine va_get (D := D) (ci := 7) (v := .ref pa) (C := R_Nf) (T := T_Nf) (N := 9) hx hb hts i_Nf hown hK hP 0 rfl rfl 5 (by decide) (hts _ mw_191) (fun _ h9 => h9) rfl d_Nf_leastOfWays_111 ?_
        refine Mi_call (wr := [(o, .inr (7, [.ref bk, .ref wA, .ref wo, .ref m1, .ref m2, .ref pa, .ref hi, .int (J ap), .int (J sw)])), (bk, .inr (0, [.ref wB, .ref q1, .ref q2, .ref q3, .ref q4, .int (J ((n : Nat) : Int))])), (m2, .inr (2, [.ref wo, .ref sa])), (sa, ca cI 26 (fun _ => 0)), (wA, .inr (6, [.ref aL, .ref aN, .int (J ca1)])), (aL, ca cI 30 ga), (aN, ca cI 3 la), (wB, .inr (6, [.ref bL, .ref bN, .int (J cb1)])), (bL, ca cI 1200 gb), (bN, ca cI 120 lt)]) (va_runV (As := []) (rest := []) ⟨hx, hb, hml, hown, hts⟩ (c_Pa_choose l D cI cZ cJ H.size pa wo wa ac bw wt ck la (shf lt (en * 3)) (csn wt ga la gb lt en) (by first | assumption | omega) (by first | assumption | omega) (hcs) (ckq_3 hq)) (cwV 0 hts (g_V mw_374 mw_375 mw_376 mw_31 mw_377) rfl rfl rfl (by decide +kernel) ⟨Nat.le_of_ble_eq_true rfl, Nat.le_of_ble_eq_true rfl⟩) (pre_WV hP hK hD [13, 4, 5, 12] rfl (by decide) 4 0 rfl rfl (fun h => Bool.noConfusion h)) rfl rfl hl.1 rfl (lv_room (Nat.le_of_ble_eq_true rfl)) d_Nf_leastOfWays_114 ⟨Nat.le_of_ble_eq_true rfl, Nat.le_of_ble_eq_true rfl⟩) hP hD hS hA [13, 4, 5, 12] [0, 1, 2, 3, 6, 7, 8, 9, 10, 11] rfl rfl (by decide) (by decide) (fun _u H locs _hu hP hD hS => ?_)
        have hP : va_P D classes [(o, .inr (7, [.ref bk, .ref wA, .ref wo, .ref m1, .ref m2, .ref pa, .ref hi, .int (J ap), .int (J sw)])), (bk, .inr (0, [.ref wB, .ref q1, .ref q2, .ref q3, .ref q4, .int (J ((n : Nat) : Int))])), (m2, .inr (2, [.ref wo, .ref sa])), (sa, ca cI 26 (fun _ => 0)), (wA, .inr (6, [.ref aL, .ref aN, .int (J ca1)])), (aL, ca cI 30 ga), (aN, ca cI 3 la), (wB, .inr (6, [.ref bL, .ref bN, .int (J cb1)])), (bL, ca cI 1200 gb), (bN, ca cI 120 lt), (pa, .inr (4, [.ref wo, .ref ac, .int (J (nw la + nw (shf lt (en * 3)))), .int (J (((pkw la (shf lt (en * 3)) wt (csn wt ga la gb lt en) (nw la + nw (shf lt (en * 3))) 64).2 : Nat) : Int))])), (wo, .inr (5, [.ref wa])), (wa, ca cI 6 wt), (ac, ca cI 9 ck)] H := hP
        have hD : va_D A [(o, .inr (7, [.ref bk, .ref wA, .ref wo, .ref m1, .ref m2, .ref pa, .ref hi, .int (J ap), .int (J sw)])), (bk, .inr (0, [.ref wB, .ref q1, .ref q2, .ref q3, .ref q4, .int (J ((n : Nat) : Int))])), (m2, .inr (2, [.ref wo, .ref sa])), (sa, ca cI 26 (fun _ => 0)), (wA, .inr (6, [.ref aL, .ref aN, .int (J ca1)])), (aL, ca cI 30 ga), (aN, ca cI 3 la), (wB, .inr (6, [.ref bL, .ref bN, .int (J cb1)])), (bL, ca cI 1200 gb), (bN, ca cI 120 lt), (pa, .inr (4, [.ref wo, .ref ac, .int (J (nw la + nw (shf lt (en * 3)))), .int (J (((pkw la (shf lt (en * 3)) wt (csn wt ga la gb lt en) (nw la + nw (shf lt (en * 3))) 64).2 : Nat) : Int))])), (wo, .inr (5, [.ref wa])), (wa, ca cI 6 wt), (ac, ca cI 9 ck)] := hD
        exact Mi_ret hx hb hr hlocks hQ d_Nf_leastOfWays_117 hP hK hD hS nb_i (rfl) ck (hcb) [0, 1, 2, 3, 11, 12, 4, 5, 6, 7, 8, 9, 10, 13] rfl (by decide)
      · refine lv_aload_n hx hb d_Nf_leastOfWays_14 rfl (lv_at hl 0 rfl) ?_
        refine va_get (D := D) (ci := 7) (v := .ref pa) (C := R_Nf) (T := T_Nf) (N := 9) hx hb hts i_Nf hown hK hP 0 rfl rfl 5 (by decide) (hts _ mw_191) (fun _ h9 => h9) rfl d_Nf_leastOfWays_15 ?_
        refine lv_aload_n hx hb d_Nf_leastOfWays_18 rfl (lv_at hl 0 rfl) ?_
        refine va_get (D := D) (ci := 7) (v := .ref wA) (C := R_Nf) (T := T_Nf) (N := 9) hx hb hts i_Nf hown hK hP 0 rfl rfl 1 (by decide) (hts _ mw_187) (fun _ h9 => h9) rfl d_Nf_leastOfWays_19 ?_
        refine lv_iload_n hx hb d_Nf_leastOfWays_22 rfl (lv_at hl 3 rfl) ?_
        refine Ri_call (va_runV (As := [.int (J ((w : Nat) : Int))]) (rest := [.ref pa]) ⟨hx, hb, hml, hown, hts⟩ (c_Wo_isNone l D cI cZ cJ wA aL aN 3 ca1 la w (by first | assumption | omega) (by first | assumption | omega) (by first | assumption | omega)) (cwV 1 hts (g_V mw_303 mw_304 mw_305 mw_27 mw_306) rfl rfl rfl (by decide +kernel) ⟨Nat.le_of_ble_eq_true rfl, Nat.le_of_ble_eq_true rfl⟩) (pre_RV hP hK [6, 8] rfl 6 0 rfl rfl) rfl rfl hl.1 rfl (lv_room (Nat.le_of_ble_eq_true rfl)) d_Nf_leastOfWays_23 ⟨Nat.le_of_ble_eq_true rfl, Nat.le_of_ble_eq_true rfl⟩) ?_
        refine w_dne (tgt := 33) (X := 34) hx hb d_Nf_leastOfWays_26 (by decide) d_Nf_leastOfWays_29 d_Nf_leastOfWays_30 (by decide) d_Nf_leastOfWays_33 rfl ?_
        refine tp_J (y := b2 (0 < la w)) (b2_eq (by omega)) ?_
        refine Mv_call (wr := [(o, .inr (7, [.ref bk, .ref wA, .ref wo, .ref m1, .ref m2, .ref pa, .ref hi, .int (J ap), .int (J sw)])), (bk, .inr (0, [.ref wB, .ref q1, .ref q2, .ref q3, .ref q4, .int (J ((n : Nat) : Int))])), (m2, .inr (2, [.ref wo, .ref sa])), (sa, ca cI 26 (fun _ => 0)), (wo, .inr (5, [.ref wa])), (wa, ca cI 6 wt), (wA, .inr (6, [.ref aL, .ref aN, .int (J ca1)])), (aL, ca cI 30 ga), (aN, ca cI 3 la), (wB, .inr (6, [.ref bL, .ref bN, .int (J cb1)])), (bL, ca cI 1200 gb), (bN, ca cI 120 lt), (ac, ca cI 9 ck)]) (va_runV (As := [.int (J (b2 (0 < la w)))]) (rest := []) ⟨hx, hb, hml, hown, hts⟩ (c_Pa_countWord l D cI cZ cJ H.size pa wo ac (cwn la (shf lt (en * 3)) w) bw (b2 (0 < la w)) (b2_rg)) (cwV 1 hts (g_V mw_307 mw_308 mw_309 mw_31 mw_310) rfl rfl rfl (by decide +kernel) ⟨Nat.le_of_ble_eq_true rfl, Nat.le_of_ble_eq_true rfl⟩) (pre_WV hP hK hD [13] rfl (by decide) 4 0 rfl rfl (fun h => Bool.noConfusion h)) rfl rfl hl.1 rfl (lv_room (Nat.le_of_ble_eq_true rfl)) d_Nf_leastOfWays_34 ⟨Nat.le_of_ble_eq_true rfl, Nat.le_of_ble_eq_true rfl⟩) hP hD hS hA [13] [0, 1, 2, 3, 4, 5, 6, 7, 8, 9, 10, 11, 12] rfl rfl (by decide) (by decide) (fun _u H locs _hu hP hD hS => ?_)
        have hP : va_P D classes [(o, .inr (7, [.ref bk, .ref wA, .ref wo, .ref m1, .ref m2, .ref pa, .ref hi, .int (J ap), .int (J sw)])), (bk, .inr (0, [.ref wB, .ref q1, .ref q2, .ref q3, .ref q4, .int (J ((n : Nat) : Int))])), (m2, .inr (2, [.ref wo, .ref sa])), (sa, ca cI 26 (fun _ => 0)), (wo, .inr (5, [.ref wa])), (wa, ca cI 6 wt), (wA, .inr (6, [.ref aL, .ref aN, .int (J ca1)])), (aL, ca cI 30 ga), (aN, ca cI 3 la), (wB, .inr (6, [.ref bL, .ref bN, .int (J cb1)])), (bL, ca cI 1200 gb), (bN, ca cI 120 lt), (ac, ca cI 9 ck), (pa, .inr (4, [.ref wo, .ref ac, .int (J ((cwn la (shf lt (en * 3)) w) + (b2 (0 < la w)))), .int (J bw)]))] H := hP
        have hD : va_D A [(o, .inr (7, [.ref bk, .ref wA, .ref wo, .ref m1, .ref m2, .ref pa, .ref hi, .int (J ap), .int (J sw)])), (bk, .inr (0, [.ref wB, .ref q1, .ref q2, .ref q3, .ref q4, .int (J ((n : Nat) : Int))])), (m2, .inr (2, [.ref wo, .ref sa])), (sa, ca cI 26 (fun _ => 0)), (wo, .inr (5, [.ref wa])), (wa, ca cI 6 wt), (wA, .inr (6, [.ref aL, .ref aN, .int (J ca1)])), (aL, ca cI 30 ga), (aN, ca cI 3 la), (wB, .inr (6, [.ref bL, .ref bN, .int (J cb1)])), (bL, ca cI 1200 gb), (bN, ca cI 120 lt), (ac, ca cI 9 ck), (pa, .inr (4, [.ref wo, .ref ac, .int (J ((cwn la (shf lt (en * 3)) w) + (b2 (0 < la w)))), .int (J bw)]))] := hD
        refine lv_aload_n hx hb d_Nf_leastOfWays_37 rfl (lv_at hl 0 rfl) ?_
        refine va_get (D := D) (ci := 7) (v := .ref pa) (C := R_Nf) (T := T_Nf) (N := 9) hx hb hts i_Nf hown hK hP 0 rfl rfl 5 (by decide) (hts _ mw_191) (fun _ h9 => h9) rfl d_Nf_leastOfWays_38 ?_
        refine lv_aload_n hx hb d_Nf_leastOfWays_41 rfl (lv_at hl 0 rfl) ?_
        refine va_get (D := D) (ci := 7) (v := .ref bk) (C := R_Nf) (T := T_Nf) (N := 9) hx hb hts i_Nf hown hK hP 0 rfl rfl 0 (by decide) (hts _ mw_186) (fun _ h9 => h9) rfl d_Nf_leastOfWays_42 ?_
        refine va_get (D := D) (ci := 0) (v := .ref wB) (C := R_Bk) (T := T_Bk) (N := 6) hx hb hts i_Bk hown hK hP 1 rfl rfl 0 (by decide) (hts _ mw_76) (fun _ h9 => h9) rfl d_Nf_leastOfWays_45 ?_
        refine lv_iload_n hx hb d_Nf_leastOfWays_48 rfl (lv_at hl 1 rfl) ?_
        refine lv_iload_n hx hb d_Nf_leastOfWays_49 rfl (lv_at hl 3 rfl) ?_
        refine Ri_call (va_runS (As := [.int (J ((en : Nat) : Int)), .int (J ((w : Nat) : Int))]) (rest := [.ref wB, .ref pa]) ⟨hx, hb, hml, hown, hts⟩ (c_Bk_wordAt l D cI cZ cJ en w ) (va_cwS 2 hts (g_S mw_243 mw_244 mw_26 mw_245) rfl rfl rfl (by decide +kernel) ⟨Nat.le_of_ble_eq_true rfl, Nat.le_of_ble_eq_true rfl⟩) (pre_RS hP hK [] rfl) rfl rfl hl.1 rfl (lv_room (Nat.le_of_ble_eq_true rfl)) d_Nf_leastOfWays_50 ⟨Nat.le_of_ble_eq_true rfl, Nat.le_of_ble_eq_true rfl⟩) ?_
        refine Ri_call (va_runV (As := [.int (J ((en * 3 + w : Nat) : Int))]) (rest := [.ref pa]) ⟨hx, hb, hml, hown, hts⟩ (c_Wo_isNone l D cI cZ cJ wB bL bN 120 cb1 lt (en * 3 + w) (by first | assumption | omega) (by first | assumption | omega) (by first | assumption | omega)) (cwV 1 hts (g_V mw_303 mw_304 mw_305 mw_27 mw_306) rfl rfl rfl (by decide +kernel) ⟨Nat.le_of_ble_eq_true rfl, Nat.le_of_ble_eq_true rfl⟩) (pre_RV hP hK [9, 11] rfl 6 0 rfl rfl) rfl rfl hl.1 rfl (lv_room (Nat.le_of_ble_eq_true rfl)) d_Nf_leastOfWays_53 ⟨Nat.le_of_ble_eq_true rfl, Nat.le_of_ble_eq_true rfl⟩) ?_
        refine w_dne (tgt := 63) (X := 64) hx hb d_Nf_leastOfWays_56 (by decide) d_Nf_leastOfWays_59 d_Nf_leastOfWays_60 (by decide) d_Nf_leastOfWays_63 rfl ?_
        refine tp_J (y := b2 (0 < (shf lt (en * 3)) w)) (b2_eq (by show ¬ lt (en * 3 + w) = 0 ↔ 0 < lt (en * 3 + w); omega)) ?_
        refine Mv_call (wr := [(o, .inr (7, [.ref bk, .ref wA, .ref wo, .ref m1, .ref m2, .ref pa, .ref hi, .int (J ap), .int (J sw)])), (bk, .inr (0, [.ref wB, .ref q1, .ref q2, .ref q3, .ref q4, .int (J ((n : Nat) : Int))])), (m2, .inr (2, [.ref wo, .ref sa])), (sa, ca cI 26 (fun _ => 0)), (wo, .inr (5, [.ref wa])), (wa, ca cI 6 wt), (wA, .inr (6, [.ref aL, .ref aN, .int (J ca1)])), (aL, ca cI 30 ga), (aN, ca cI 3 la), (wB, .inr (6, [.ref bL, .ref bN, .int (J cb1)])), (bL, ca cI 1200 gb), (bN, ca cI 120 lt), (ac, ca cI 9 ck)]) (va_runV (As := [.int (J (b2 (0 < (shf lt (en * 3)) w)))]) (rest := []) ⟨hx, hb, hml, hown, hts⟩ (c_Pa_countWord l D cI cZ cJ H.size pa wo ac ((cwn la (shf lt (en * 3)) w) + (b2 (0 < la w))) bw (b2 (0 < (shf lt (en * 3)) w)) (b2_rg)) (cwV 1 hts (g_V mw_307 mw_308 mw_309 mw_31 mw_310) rfl rfl rfl (by decide +kernel) ⟨Nat.le_of_ble_eq_true rfl, Nat.le_of_ble_eq_true rfl⟩) (pre_WV hP hK hD [13] rfl (by decide) 4 0 rfl rfl (fun h => Bool.noConfusion h)) rfl rfl hl.1 rfl (lv_room (Nat.le_of_ble_eq_true rfl)) d_Nf_leastOfWays_64 ⟨Nat.le_of_ble_eq_true rfl, Nat.le_of_ble_eq_true rfl⟩) hP hD hS hA [13] [0, 1, 2, 3, 4, 5, 6, 7, 8, 9, 10, 11, 12] rfl rfl (by decide) (by decide) (fun _u H locs _hu hP hD hS => ?_)
        have hP : va_P D classes [(o, .inr (7, [.ref bk, .ref wA, .ref wo, .ref m1, .ref m2, .ref pa, .ref hi, .int (J ap), .int (J sw)])), (bk, .inr (0, [.ref wB, .ref q1, .ref q2, .ref q3, .ref q4, .int (J ((n : Nat) : Int))])), (m2, .inr (2, [.ref wo, .ref sa])), (sa, ca cI 26 (fun _ => 0)), (wo, .inr (5, [.ref wa])), (wa, ca cI 6 wt), (wA, .inr (6, [.ref aL, .ref aN, .int (J ca1)])), (aL, ca cI 30 ga), (aN, ca cI 3 la), (wB, .inr (6, [.ref bL, .ref bN, .int (J cb1)])), (bL, ca cI 1200 gb), (bN, ca cI 120 lt), (ac, ca cI 9 ck), (pa, .inr (4, [.ref wo, .ref ac, .int (J (((cwn la (shf lt (en * 3)) w) + (b2 (0 < la w))) + (b2 (0 < (shf lt (en * 3)) w)))), .int (J bw)]))] H := hP
        have hD : va_D A [(o, .inr (7, [.ref bk, .ref wA, .ref wo, .ref m1, .ref m2, .ref pa, .ref hi, .int (J ap), .int (J sw)])), (bk, .inr (0, [.ref wB, .ref q1, .ref q2, .ref q3, .ref q4, .int (J ((n : Nat) : Int))])), (m2, .inr (2, [.ref wo, .ref sa])), (sa, ca cI 26 (fun _ => 0)), (wo, .inr (5, [.ref wa])), (wa, ca cI 6 wt), (wA, .inr (6, [.ref aL, .ref aN, .int (J ca1)])), (aL, ca cI 30 ga), (aN, ca cI 3 la), (wB, .inr (6, [.ref bL, .ref bN, .int (J cb1)])), (bL, ca cI 1200 gb), (bN, ca cI 120 lt), (ac, ca cI 9 ck), (pa, .inr (4, [.ref wo, .ref ac, .int (J (((cwn la (shf lt (en * 3)) w) + (b2 (0 < la w))) + (b2 (0 < (shf lt (en * 3)) w)))), .int (J bw)]))] := hD
        have ew : ((cwn la (shf lt (en * 3)) w) + (b2 (0 < la w))) + (b2 (0 < (shf lt (en * 3)) w)) = cwn la (shf lt (en * 3)) (w + 1) := rfl
        rw [ew] at hP hD
        refine lv_iconst (v := J (0)) hx hb d_Nf_leastOfWays_67 rfl ?_
        refine lv_istore (lv' := [(4, .int (J 0)), (0, .ref o), (1, .int (J ((en : Nat) : Int))), (2, .ref m2), (3, .int (J ((w : Nat) : Int)))]) hx hb d_Nf_leastOfWays_68 hl (by decide) rfl (fun ls hl => ?_)
        have lp_70 : ∀ (fu : Nat) (d : Nat) (ck : Nat → Int), (d ≤ 3) → (ckq la (shf lt (en * 3)) (csn wt ga la gb lt en) ck w d) → (∀ j, -1 ≤ ck j ∧ ck j ≤ 20000) → (3 - d) < fu → ∀ (H : Heap) (locs : List Loc), va_P D classes [(o, .inr (7, [.ref bk, .ref wA, .ref wo, .ref m1, .ref m2, .ref pa, .ref hi, .int (J ap), .int (J sw)])), (bk, .inr (0, [.ref wB, .ref q1, .ref q2, .ref q3, .ref q4, .int (J ((n : Nat) : Int))])), (m2, .inr (2, [.ref wo, .ref sa])), (sa, ca cI 26 (fun _ => 0)), (wo, .inr (5, [.ref wa])), (wa, ca cI 6 wt), (wA, .inr (6, [.ref aL, .ref aN, .int (J ca1)])), (aL, ca cI 30 ga), (aN, ca cI 3 la), (wB, .inr (6, [.ref bL, .ref bN, .int (J cb1)])), (bL, ca cI 1200 gb), (bN, ca cI 120 lt), (ac, ca cI 9 ck), (pa, .inr (4, [.ref wo, .ref ac, .int (J (cwn la (shf lt (en * 3)) (w + 1))), .int (J bw)]))] H → va_D A [(o, .inr (7, [.ref bk, .ref wA, .ref wo, .ref m1, .ref m2, .ref pa, .ref hi, .int (J ap), .int (J sw)])), (bk, .inr (0, [.ref wB, .ref q1, .ref q2, .ref q3, .ref q4, .int (J ((n : Nat) : Int))])), (m2, .inr (2, [.ref wo, .ref sa])), (sa, ca cI 26 (fun _ => 0)), (wo, .inr (5, [.ref wa])), (wa, ca cI 6 wt), (wA, .inr (6, [.ref aL, .ref aN, .int (J ca1)])), (aL, ca cI 30 ga), (aN, ca cI 3 la), (wB, .inr (6, [.ref bL, .ref bN, .int (J cb1)])), (bL, ca cI 1200 gb), (bN, ca cI 120 lt), (ac, ca cI 9 ck), (pa, .inr (4, [.ref wo, .ref ac, .int (J (cwn la (shf lt (en * 3)) (w + 1))), .int (J bw)]))] → va_S A s.heap H locs → ∀ ls : Array Slot, lv_has ls 5 [(0, .ref o), (1, .int (J ((en : Nat) : Int))), (2, .ref m2), (3, .int (J ((w : Nat) : Int))), (4, .int (J ((d : Nat) : Int)))] → W p l e ({ frames := 4, cells := 0, slots := 0, locals := 100 }) s m args below meth c H locs 0 0 Q (F0 m 70 ls []) := by
          intro fu
          induction fu with
          | zero => intro d ck hd3 hq3 hcb hfu; exact absurd hfu (Nat.not_lt_zero _)
          | succ fu ih_70 =>
            intro d ck hd3 hq3 hcb hfu H locs hP hD hS ls hl
            refine lv_iload hx hb d_Nf_leastOfWays_70 (lv_at hl 4 rfl) ?_
            refine lv_iconst (v := J (3)) hx hb d_Nf_leastOfWays_72 rfl ?_
            refine w_icmp_ge (tgt := 104) hx hb d_Nf_leastOfWays_73 (by decide) (by omega) (by omega) (fun c_73 => ?_) (fun c_73 => ?_)
            · obtain rfl : d = 3 := by omega
              refine w_iinc (k := 3) (lv' := [(3, .int (J ((w + 1 : Nat) : Int))), (0, .ref o), (1, .int (J ((en : Nat) : Int))), (2, .ref m2), (4, .int (J ((3 : Nat) : Int)))]) hx hb d_Nf_leastOfWays_104 hl rfl ((w + 1 : Nat) : Int) (by omega) (by decide) rfl (fun ls hl => ?_)
              refine lv_goto (tgt := 9) hx hb d_Nf_leastOfWays_107 (by decide) ?_
              exact ih_9 (w + 1) ck (by omega) (ckq_w hq3) (hcb) (by omega) _ _ (P_map hP [0, 1, 2, 3, 4, 5, 6, 7, 8, 9, 10, 11, 12, 13] rfl) (hD.sub [0, 1, 2, 3, 4, 5, 6, 7, 8, 9, 10, 11, 12, 13] (by decide) rfl) hS ls (lv_sub hl [1, 2, 3, 0] rfl)
            · refine lv_aload_n hx hb d_Nf_leastOfWays_76 rfl (lv_at hl 0 rfl) ?_
              refine va_get (D := D) (ci := 7) (v := .ref pa) (C := R_Nf) (T := T_Nf) (N := 9) hx hb hts i_Nf hown hK hP 0 rfl rfl 5 (by decide) (hts _ mw_191) (fun _ h9 => h9) rfl d_Nf_leastOfWays_77 ?_
              refine lv_iload_n hx hb d_Nf_leastOfWays_80 rfl (lv_at hl 3 rfl) ?_
              refine lv_iload hx hb d_Nf_leastOfWays_81 (lv_at hl 4 rfl) ?_
              refine lv_aload_n hx hb d_Nf_leastOfWays_83 rfl (lv_at hl 0 rfl) ?_
              refine lv_iload_n hx hb d_Nf_leastOfWays_84 rfl (lv_at hl 3 rfl) ?_
              refine lv_iload_n hx hb d_Nf_leastOfWays_85 rfl (lv_at hl 1 rfl) ?_
              refine lv_iload hx hb d_Nf_leastOfWays_86 (lv_at hl 4 rfl) ?_
              refine Ri_call (va_runS (As := [.int (J ((en : Nat) : Int)), .int (J ((d : Nat) : Int))]) (rest := [.int (J ((w : Nat) : Int)), .ref o, .int (J ((d : Nat) : Int)), .int (J ((w : Nat) : Int)), .ref pa]) ⟨hx, hb, hml, hown, hts⟩ (c_Bk_wordAt l D cI cZ cJ en d ) (va_cwS 2 hts (g_S mw_243 mw_244 mw_26 mw_245) rfl rfl rfl (by decide +kernel) ⟨Nat.le_of_ble_eq_true rfl, Nat.le_of_ble_eq_true rfl⟩) (pre_RS hP hK [] rfl) rfl rfl hl.1 rfl (lv_room (Nat.le_of_ble_eq_true rfl)) d_Nf_leastOfWays_88 ⟨Nat.le_of_ble_eq_true rfl, Nat.le_of_ble_eq_true rfl⟩) ?_
              refine lv_aload_n hx hb d_Nf_leastOfWays_91 rfl (lv_at hl 2 rfl) ?_
              refine Mi_call (wr := [(ac, ca cI 9 ck), (pa, .inr (4, [.ref wo, .ref ac, .int (J (cwn la (shf lt (en * 3)) (w + 1))), .int (J bw)]))]) (va_runV (As := [.int (J ((w : Nat) : Int)), .int (J ((en * 3 + d : Nat) : Int)), .ref m2]) (rest := [.int (J ((d : Nat) : Int)), .int (J ((w : Nat) : Int)), .ref pa]) ⟨hx, hb, hml, hown, hts⟩ (c_Nf_costOfPair_n l D cI cZ cJ H.size o bk wA wo m1 m2 pa hi wB q1 q2 q3 q4 n ap sw sa aL aN bL bN wa ca1 cb1 wt ga la gb lt w (en * 3 + d) (by first | assumption | omega) (by first | assumption | omega) (by first | assumption | omega) (by first | assumption | omega) (by first | assumption | omega) (by first | assumption | omega)) (cwV 3 hts (g_V mw_311 mw_313 mw_3 mw_25 mw_314) rfl rfl rfl (by decide +kernel) ⟨Nat.le_of_ble_eq_true rfl, Nat.le_of_ble_eq_true rfl⟩) (pre_WV hP hK hD [0, 1, 2, 3, 4, 5, 6, 7, 8, 9, 10, 11] rfl (by decide) 7 0 rfl rfl (fun _ => (hT rfl).at hD hS hA [0, 1, 2, 3, 4, 5, 6, 7, 8, 9, 10, 11] rfl)) rfl rfl hl.1 rfl (lv_room (Nat.le_of_ble_eq_true rfl)) d_Nf_leastOfWays_92 ⟨Nat.le_of_ble_eq_true rfl, Nat.le_of_ble_eq_true rfl⟩) hP hD hS hA [0, 1, 2, 3, 4, 5, 6, 7, 8, 9, 10, 11] [12, 13] rfl rfl (by decide) (by decide) (fun _u H locs _hu hP hD hS => ?_)
              have hP : va_P D classes [(ac, ca cI 9 ck), (pa, .inr (4, [.ref wo, .ref ac, .int (J (cwn la (shf lt (en * 3)) (w + 1))), .int (J bw)])), (o, .inr (7, [.ref bk, .ref wA, .ref wo, .ref m1, .ref m2, .ref pa, .ref hi, .int (J ap), .int (J sw)])), (bk, .inr (0, [.ref wB, .ref q1, .ref q2, .ref q3, .ref q4, .int (J ((n : Nat) : Int))])), (m2, .inr (2, [.ref wo, .ref sa])), (sa, ca cI 26 (fun _ => 0)), (wo, .inr (5, [.ref wa])), (wa, ca cI 6 wt), (wA, .inr (6, [.ref aL, .ref aN, .int (J ca1)])), (aL, ca cI 30 ga), (aN, ca cI 3 la), (wB, .inr (6, [.ref bL, .ref bN, .int (J cb1)])), (bL, ca cI 1200 gb), (bN, ca cI 120 lt)] H := hP
              have hD : va_D A [(ac, ca cI 9 ck), (pa, .inr (4, [.ref wo, .ref ac, .int (J (cwn la (shf lt (en * 3)) (w + 1))), .int (J bw)])), (o, .inr (7, [.ref bk, .ref wA, .ref wo, .ref m1, .ref m2, .ref pa, .ref hi, .int (J ap), .int (J sw)])), (bk, .inr (0, [.ref wB, .ref q1, .ref q2, .ref q3, .ref q4, .int (J ((n : Nat) : Int))])), (m2, .inr (2, [.ref wo, .ref sa])), (sa, ca cI 26 (fun _ => 0)), (wo, .inr (5, [.ref wa])), (wa, ca cI 6 wt), (wA, .inr (6, [.ref aL, .ref aN, .int (J ca1)])), (aL, ca cI 30 ga), (aN, ca cI 3 la), (wB, .inr (6, [.ref bL, .ref bN, .int (J cb1)])), (bL, ca cI 1200 gb), (bN, ca cI 120 lt)] := hD
              have v1 : -1 ≤ (if 0 < la w ∧ 0 < lt (en * 3 + d) then lb wt (fun t => ga (w * 10 + t)) (la w).toNat (fun t => gb ((en * 3 + d) * 10 + t)) (lt (en * 3 + d)).toNat else -1) ∧ (if 0 < la w ∧ 0 < lt (en * 3 + d) then lb wt (fun t => ga (w * 10 + t)) (la w).toNat (fun t => gb ((en * 3 + d) * 10 + t)) (lt (en * 3 + d)).toNat else -1) ≤ 20000 := by
                have z1 := csn_rg hw hla hlt hga hgb en (3 * w + d)
                rw [csn_at _ _ _ _ _ _ _ (by omega)] at z1
                split <;> omega
              refine Mv_call (wr := [(o, .inr (7, [.ref bk, .ref wA, .ref wo, .ref m1, .ref m2, .ref pa, .ref hi, .int (J ap), .int (J sw)])), (bk, .inr (0, [.ref wB, .ref q1, .ref q2, .ref q3, .ref q4, .int (J ((n : Nat) : Int))])), (m2, .inr (2, [.ref wo, .ref sa])), (sa, ca cI 26 (fun _ => 0)), (wo, .inr (5, [.ref wa])), (wa, ca cI 6 wt), (wA, .inr (6, [.ref aL, .ref aN, .int (J ca1)])), (aL, ca cI 30 ga), (aN, ca cI 3 la), (wB, .inr (6, [.ref bL, .ref bN, .int (J cb1)])), (bL, ca cI 1200 gb), (bN, ca cI 120 lt)]) (va_runV (As := [.int (J ((w : Nat) : Int)), .int (J ((d : Nat) : Int)), .int (J (if 0 < la w ∧ 0 < lt (en * 3 + d) then lb wt (fun t => ga (w * 10 + t)) (la w).toNat (fun t => gb ((en * 3 + d) * 10 + t)) (lt (en * 3 + d)).toNat else -1))]) (rest := []) ⟨hx, hb, hml, hown, hts⟩ (c_Pa_setCost l D cI cZ cJ H.size pa wo ac (cwn la (shf lt (en * 3)) (w + 1)) bw ck w d (if 0 < la w ∧ 0 < lt (en * 3 + d) then lb wt (fun t => ga (w * 10 + t)) (la w).toNat (fun t => gb ((en * 3 + d) * 10 + t)) (lt (en * 3 + d)).toNat else -1) (by first | assumption | omega) (by first | assumption | omega)) (cwV 3 hts (g_V mw_370 mw_371 mw_372 mw_31 mw_373) rfl rfl rfl (by decide +kernel) ⟨Nat.le_of_ble_eq_true rfl, Nat.le_of_ble_eq_true rfl⟩) (pre_WV hP hK hD [1, 0] rfl (by decide) 4 0 rfl rfl (fun h => Bool.noConfusion h)) rfl rfl hl.1 rfl (lv_room (Nat.le_of_ble_eq_true rfl)) d_Nf_leastOfWays_95 ⟨Nat.le_of_ble_eq_true rfl, Nat.le_of_ble_eq_true rfl⟩) hP hD hS hA [1, 0] [2, 3, 4, 5, 6, 7, 8, 9, 10, 11, 12, 13] rfl rfl (by decide) (by decide) (fun _u H locs _hu hP hD hS => ?_)
              have hP : va_P D classes [(o, .inr (7, [.ref bk, .ref wA, .ref wo, .ref m1, .ref m2, .ref pa, .ref hi, .int (J ap), .int (J sw)])), (bk, .inr (0, [.ref wB, .ref q1, .ref q2, .ref q3, .ref q4, .int (J ((n : Nat) : Int))])), (m2, .inr (2, [.ref wo, .ref sa])), (sa, ca cI 26 (fun _ => 0)), (wo, .inr (5, [.ref wa])), (wa, ca cI 6 wt), (wA, .inr (6, [.ref aL, .ref aN, .int (J ca1)])), (aL, ca cI 30 ga), (aN, ca cI 3 la), (wB, .inr (6, [.ref bL, .ref bN, .int (J cb1)])), (bL, ca cI 1200 gb), (bN, ca cI 120 lt), (pa, .inr (4, [.ref wo, .ref ac, .int (J (cwn la (shf lt (en * 3)) (w + 1))), .int (J bw)])), (ac, ca cI 9 (iu ck (w * 3 + d) (if 0 < la w ∧ 0 < lt (en * 3 + d) then lb wt (fun t => ga (w * 10 + t)) (la w).toNat (fun t => gb ((en * 3 + d) * 10 + t)) (lt (en * 3 + d)).toNat else -1)))] H := hP
              have hD : va_D A [(o, .inr (7, [.ref bk, .ref wA, .ref wo, .ref m1, .ref m2, .ref pa, .ref hi, .int (J ap), .int (J sw)])), (bk, .inr (0, [.ref wB, .ref q1, .ref q2, .ref q3, .ref q4, .int (J ((n : Nat) : Int))])), (m2, .inr (2, [.ref wo, .ref sa])), (sa, ca cI 26 (fun _ => 0)), (wo, .inr (5, [.ref wa])), (wa, ca cI 6 wt), (wA, .inr (6, [.ref aL, .ref aN, .int (J ca1)])), (aL, ca cI 30 ga), (aN, ca cI 3 la), (wB, .inr (6, [.ref bL, .ref bN, .int (J cb1)])), (bL, ca cI 1200 gb), (bN, ca cI 120 lt), (pa, .inr (4, [.ref wo, .ref ac, .int (J (cwn la (shf lt (en * 3)) (w + 1))), .int (J bw)])), (ac, ca cI 9 (iu ck (w * 3 + d) (if 0 < la w ∧ 0 < lt (en * 3 + d) then lb wt (fun t => ga (w * 10 + t)) (la w).toNat (fun t => gb ((en * 3 + d) * 10 + t)) (lt (en * 3 + d)).toNat else -1)))] := hD
              refine w_iinc (k := 4) (lv' := [(4, .int (J ((d + 1 : Nat) : Int))), (0, .ref o), (1, .int (J ((en : Nat) : Int))), (2, .ref m2), (3, .int (J ((w : Nat) : Int)))]) hx hb d_Nf_leastOfWays_98 hl rfl ((d + 1 : Nat) : Int) (by omega) (by decide) rfl (fun ls hl => ?_)
              refine lv_goto (tgt := 70) hx hb d_Nf_leastOfWays_101 (by decide) ?_
              exact ih_70 (d + 1) (iu ck (w * 3 + d) (if 0 < la w ∧ 0 < lt (en * 3 + d) then lb wt (fun t => ga (w * 10 + t)) (la w).toNat (fun t => gb ((en * 3 + d) * 10 + t)) (lt (en * 3 + d)).toNat else -1)) (by omega) (ckq_s hq3 (by omega) (by rw [csn_at _ _ _ _ _ _ _ (by omega)]; rfl)) (fun j => by unfold iu; split <;> first | exact hcb j | omega) (by omega) _ _ (P_map hP [0, 1, 2, 3, 4, 5, 6, 7, 8, 9, 10, 11, 13, 12] rfl) (hD.sub [0, 1, 2, 3, 4, 5, 6, 7, 8, 9, 10, 11, 13, 12] (by decide) rfl) hS ls (lv_sub hl [1, 2, 3, 4, 0] rfl)
        exact lp_70 ((3 - 0) + 1) 0 ck (by omega) (hq) (hcb) (Nat.lt_succ_self _) _ _ (P_map hP [0, 1, 2, 3, 4, 5, 6, 7, 8, 9, 10, 11, 12, 13] rfl) (hD.sub [0, 1, 2, 3, 4, 5, 6, 7, 8, 9, 10, 11, 12, 13] (by decide) rfl) hS ls (lv_sub hl [1, 2, 3, 4, 0] rfl)
  exact lp_9 ((3 - 0) + 1) 0 ck0 (by omega) (fun a b hb hab => absurd hab (by omega)) (hck0) (Nat.lt_succ_self _) _ _ (P_map hP [0, 1, 2, 3, 4, 5, 6, 7, 8, 9, 10, 11, 12, 13] rfl) (hD.sub [0, 1, 2, 3, 4, 5, 6, 7, 8, 9, 10, 11, 12, 13] (by decide) rfl) hS ls (lv_sub hl [1, 2, 3, 0] rfl)
end
