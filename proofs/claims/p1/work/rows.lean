section
-- ===== PART A: goes FIRST, ahead of the names: the tables' words, and 'selects' of the private methods out of them =====
/-- a private method of a class that the tables say can be made, by its rows of tables_1 -/
def lw_okq (q : MethodName × Nat) : Prop := (q.1.cls ≠ "java/lang/invoke/MethodHandle" ∧ q.1.cls ≠ "java/lang/invoke/VarHandle") ∧ Cond.instantiable q.1.cls q.2 ∈ tables_1 ∧ Cond.privateMethod q.1 ∈ tables_1 ∧ Cond.instanceMethod q.1 ∈ tables_1
theorem lw_p0 : lw_okq (⟨"LayoutTokens$Source", "columnBehind", "(II)I"⟩, 5) := ⟨⟨by decide +kernel, by decide +kernel⟩, List.mem_of_getElem? (i := 26) (by decide +kernel), List.mem_of_getElem? (i := 303) (by decide +kernel), List.mem_of_getElem? (i := 304) (by decide +kernel)⟩
theorem lw_p1 : lw_okq (⟨"LayoutTokens", "forget", "()V"⟩, 9) := ⟨⟨by decide +kernel, by decide +kernel⟩, List.mem_of_getElem? (i := 18) (by decide +kernel), List.mem_of_getElem? (i := 311) (by decide +kernel), List.mem_of_getElem? (i := 312) (by decide +kernel)⟩
theorem lw_p2 : lw_okq (⟨"LayoutTokens$LiterateLines", "lineEnd", "(I)I"⟩, 1) := ⟨⟨by decide +kernel, by decide +kernel⟩, List.mem_of_getElem? (i := 49) (by decide +kernel), List.mem_of_getElem? (i := 332) (by decide +kernel), List.mem_of_getElem? (i := 333) (by decide +kernel)⟩
theorem lw_p3 : lw_okq (⟨"LayoutTokens$LiterateLines", "sortOf", "(II)I"⟩, 1) := ⟨⟨by decide +kernel, by decide +kernel⟩, List.mem_of_getElem? (i := 49) (by decide +kernel), List.mem_of_getElem? (i := 344) (by decide +kernel), List.mem_of_getElem? (i := 345) (by decide +kernel)⟩
theorem lw_p4 : lw_okq (⟨"LayoutTokens$LiterateLines", "countLine", "(IIZ)V"⟩, 1) := ⟨⟨by decide +kernel, by decide +kernel⟩, List.mem_of_getElem? (i := 49) (by decide +kernel), List.mem_of_getElem? (i := 358) (by decide +kernel), List.mem_of_getElem? (i := 359) (by decide +kernel)⟩
theorem lw_p5 : lw_okq (⟨"LayoutTokens$Reader", "readOne", "(I)I"⟩, 4) := ⟨⟨by decide +kernel, by decide +kernel⟩, List.mem_of_getElem? (i := 122) (by decide +kernel), List.mem_of_getElem? (i := 378) (by decide +kernel), List.mem_of_getElem? (i := 379) (by decide +kernel)⟩
theorem lw_p6 : lw_okq (⟨"LayoutTokens$Reader", "readNestedComment", "(I)I"⟩, 4) := ⟨⟨by decide +kernel, by decide +kernel⟩, List.mem_of_getElem? (i := 122) (by decide +kernel), List.mem_of_getElem? (i := 387) (by decide +kernel), List.mem_of_getElem? (i := 388) (by decide +kernel)⟩
theorem lw_p7 : lw_okq (⟨"LayoutTokens$Reader", "readLargeName", "(I)I"⟩, 4) := ⟨⟨by decide +kernel, by decide +kernel⟩, List.mem_of_getElem? (i := 122) (by decide +kernel), List.mem_of_getElem? (i := 403) (by decide +kernel), List.mem_of_getElem? (i := 404) (by decide +kernel)⟩
theorem lw_p8 : lw_okq (⟨"LayoutTokens$Reader", "nameEnd", "(I)I"⟩, 4) := ⟨⟨by decide +kernel, by decide +kernel⟩, List.mem_of_getElem? (i := 122) (by decide +kernel), List.mem_of_getElem? (i := 407) (by decide +kernel), List.mem_of_getElem? (i := 408) (by decide +kernel)⟩
theorem lw_p9 : lw_okq (⟨"LayoutTokens$Reader", "symbolsEnd", "(I)I"⟩, 4) := ⟨⟨by decide +kernel, by decide +kernel⟩, List.mem_of_getElem? (i := 122) (by decide +kernel), List.mem_of_getElem? (i := 417) (by decide +kernel), List.mem_of_getElem? (i := 418) (by decide +kernel)⟩
theorem lw_p10 : lw_okq (⟨"LayoutTokens$Reader", "wordAt", "(II)I"⟩, 4) := ⟨⟨by decide +kernel, by decide +kernel⟩, List.mem_of_getElem? (i := 122) (by decide +kernel), List.mem_of_getElem? (i := 424) (by decide +kernel), List.mem_of_getElem? (i := 425) (by decide +kernel)⟩
theorem lw_p11 : lw_okq (⟨"LayoutTokens$Reader", "isWord", "(III)Z"⟩, 4) := ⟨⟨by decide +kernel, by decide +kernel⟩, List.mem_of_getElem? (i := 122) (by decide +kernel), List.mem_of_getElem? (i := 428) (by decide +kernel), List.mem_of_getElem? (i := 429) (by decide +kernel)⟩
theorem lw_p12 : lw_okq (⟨"LayoutTokens$Reader", "canBeQualified", "(II)Z"⟩, 4) := ⟨⟨by decide +kernel, by decide +kernel⟩, List.mem_of_getElem? (i := 122) (by decide +kernel), List.mem_of_getElem? (i := 481) (by decide +kernel), List.mem_of_getElem? (i := 482) (by decide +kernel)⟩
theorem lw_p13 : lw_okq (⟨"LayoutTokens$Reader", "isDashes", "(II)Z"⟩, 4) := ⟨⟨by decide +kernel, by decide +kernel⟩, List.mem_of_getElem? (i := 122) (by decide +kernel), List.mem_of_getElem? (i := 485) (by decide +kernel), List.mem_of_getElem? (i := 486) (by decide +kernel)⟩
theorem lw_p14 : lw_okq (⟨"LayoutTokens$Reader", "operatorKind", "(II)I"⟩, 4) := ⟨⟨by decide +kernel, by decide +kernel⟩, List.mem_of_getElem? (i := 122) (by decide +kernel), List.mem_of_getElem? (i := 489) (by decide +kernel), List.mem_of_getElem? (i := 490) (by decide +kernel)⟩
theorem lw_p15 : lw_okq (⟨"LayoutTokens$Reader", "readSmallName", "(I)I"⟩, 4) := ⟨⟨by decide +kernel, by decide +kernel⟩, List.mem_of_getElem? (i := 122) (by decide +kernel), List.mem_of_getElem? (i := 506) (by decide +kernel), List.mem_of_getElem? (i := 507) (by decide +kernel)⟩
def lw_privs_1 : List (MethodName × Nat) := [(⟨"LayoutTokens$Source", "columnBehind", "(II)I"⟩, 5), (⟨"LayoutTokens", "forget", "()V"⟩, 9), (⟨"LayoutTokens$LiterateLines", "lineEnd", "(I)I"⟩, 1), (⟨"LayoutTokens$LiterateLines", "sortOf", "(II)I"⟩, 1), (⟨"LayoutTokens$LiterateLines", "countLine", "(IIZ)V"⟩, 1), (⟨"LayoutTokens$Reader", "readOne", "(I)I"⟩, 4), (⟨"LayoutTokens$Reader", "readNestedComment", "(I)I"⟩, 4), (⟨"LayoutTokens$Reader", "readLargeName", "(I)I"⟩, 4), (⟨"LayoutTokens$Reader", "nameEnd", "(I)I"⟩, 4), (⟨"LayoutTokens$Reader", "symbolsEnd", "(I)I"⟩, 4), (⟨"LayoutTokens$Reader", "wordAt", "(II)I"⟩, 4), (⟨"LayoutTokens$Reader", "isWord", "(III)Z"⟩, 4), (⟨"LayoutTokens$Reader", "canBeQualified", "(II)Z"⟩, 4), (⟨"LayoutTokens$Reader", "isDashes", "(II)Z"⟩, 4), (⟨"LayoutTokens$Reader", "operatorKind", "(II)I"⟩, 4), (⟨"LayoutTokens$Reader", "readSmallName", "(I)I"⟩, 4)]
theorem lw_r1 : ∀ q ∈ lw_privs_1, lw_okq q := List.forall_mem_cons.mpr ⟨lw_p0, List.forall_mem_cons.mpr ⟨lw_p1, List.forall_mem_cons.mpr ⟨lw_p2, List.forall_mem_cons.mpr ⟨lw_p3, List.forall_mem_cons.mpr ⟨lw_p4, List.forall_mem_cons.mpr ⟨lw_p5, List.forall_mem_cons.mpr ⟨lw_p6, List.forall_mem_cons.mpr ⟨lw_p7, List.forall_mem_cons.mpr ⟨lw_p8, List.forall_mem_cons.mpr ⟨lw_p9, List.forall_mem_cons.mpr ⟨lw_p10, List.forall_mem_cons.mpr ⟨lw_p11, List.forall_mem_cons.mpr ⟨lw_p12, List.forall_mem_cons.mpr ⟨lw_p13, List.forall_mem_cons.mpr ⟨lw_p14, List.forall_mem_cons.mpr ⟨lw_p15, fun _ h => absurd h List.not_mem_nil⟩⟩⟩⟩⟩⟩⟩⟩⟩⟩⟩⟩⟩⟩⟩⟩
theorem lw_p16 : lw_okq (⟨"LayoutTokens$Reader", "readSymbols", "(I)I"⟩, 4) := ⟨⟨by decide +kernel, by decide +kernel⟩, List.mem_of_getElem? (i := 122) (by decide +kernel), List.mem_of_getElem? (i := 510) (by decide +kernel), List.mem_of_getElem? (i := 511) (by decide +kernel)⟩
theorem lw_p17 : lw_okq (⟨"LayoutTokens$Reader", "lineEnd", "(I)I"⟩, 4) := ⟨⟨by decide +kernel, by decide +kernel⟩, List.mem_of_getElem? (i := 122) (by decide +kernel), List.mem_of_getElem? (i := 514) (by decide +kernel), List.mem_of_getElem? (i := 515) (by decide +kernel)⟩
theorem lw_p18 : lw_okq (⟨"LayoutTokens$Reader", "readNumber", "(I)I"⟩, 4) := ⟨⟨by decide +kernel, by decide +kernel⟩, List.mem_of_getElem? (i := 122) (by decide +kernel), List.mem_of_getElem? (i := 522) (by decide +kernel), List.mem_of_getElem? (i := 523) (by decide +kernel)⟩
theorem lw_p19 : lw_okq (⟨"LayoutTokens$Reader", "radixAt", "(I)I"⟩, 4) := ⟨⟨by decide +kernel, by decide +kernel⟩, List.mem_of_getElem? (i := 122) (by decide +kernel), List.mem_of_getElem? (i := 526) (by decide +kernel), List.mem_of_getElem? (i := 527) (by decide +kernel)⟩
theorem lw_p20 : lw_okq (⟨"LayoutTokens$Reader", "figuresEnd", "(II)I"⟩, 4) := ⟨⟨by decide +kernel, by decide +kernel⟩, List.mem_of_getElem? (i := 122) (by decide +kernel), List.mem_of_getElem? (i := 533) (by decide +kernel), List.mem_of_getElem? (i := 534) (by decide +kernel)⟩
theorem lw_p21 : lw_okq (⟨"LayoutTokens$Reader", "brokenEnd", "(I)I"⟩, 4) := ⟨⟨by decide +kernel, by decide +kernel⟩, List.mem_of_getElem? (i := 122) (by decide +kernel), List.mem_of_getElem? (i := 537) (by decide +kernel), List.mem_of_getElem? (i := 538) (by decide +kernel)⟩
theorem lw_p22 : lw_okq (⟨"LayoutTokens$Quotes", "readEscape", "(IZ)I"⟩, 2) := ⟨⟨by decide +kernel, by decide +kernel⟩, List.mem_of_getElem? (i := 128) (by decide +kernel), List.mem_of_getElem? (i := 553) (by decide +kernel), List.mem_of_getElem? (i := 554) (by decide +kernel)⟩
theorem lw_p23 : lw_okq (⟨"LayoutTokens$Quotes", "readCode", "(III)I"⟩, 2) := ⟨⟨by decide +kernel, by decide +kernel⟩, List.mem_of_getElem? (i := 128) (by decide +kernel), List.mem_of_getElem? (i := 558) (by decide +kernel), List.mem_of_getElem? (i := 559) (by decide +kernel)⟩
theorem lw_p24 : lw_okq (⟨"LayoutTokens$Quotes", "readControl", "(I)I"⟩, 2) := ⟨⟨by decide +kernel, by decide +kernel⟩, List.mem_of_getElem? (i := 128) (by decide +kernel), List.mem_of_getElem? (i := 571) (by decide +kernel), List.mem_of_getElem? (i := 572) (by decide +kernel)⟩
theorem lw_p25 : lw_okq (⟨"LayoutTokens$Quotes", "codeOfLetter", "(I)I"⟩, 2) := ⟨⟨by decide +kernel, by decide +kernel⟩, List.mem_of_getElem? (i := 128) (by decide +kernel), List.mem_of_getElem? (i := 575) (by decide +kernel), List.mem_of_getElem? (i := 576) (by decide +kernel)⟩
theorem lw_p26 : lw_okq (⟨"LayoutTokens$Quotes", "readCodeName", "(I)I"⟩, 2) := ⟨⟨by decide +kernel, by decide +kernel⟩, List.mem_of_getElem? (i := 128) (by decide +kernel), List.mem_of_getElem? (i := 579) (by decide +kernel), List.mem_of_getElem? (i := 580) (by decide +kernel)⟩
theorem lw_p27 : lw_okq (⟨"LayoutTokens$Quotes", "readGap", "(I)I"⟩, 2) := ⟨⟨by decide +kernel, by decide +kernel⟩, List.mem_of_getElem? (i := 128) (by decide +kernel), List.mem_of_getElem? (i := 595) (by decide +kernel), List.mem_of_getElem? (i := 596) (by decide +kernel)⟩
theorem lw_p28 : lw_okq (⟨"LayoutTokens$Layout", "goThrough", "(I)V"⟩, 13) := ⟨⟨by decide +kernel, by decide +kernel⟩, List.mem_of_getElem? (i := 192) (by decide +kernel), List.mem_of_getElem? (i := 607) (by decide +kernel), List.mem_of_getElem? (i := 608) (by decide +kernel)⟩
theorem lw_p29 : lw_okq (⟨"LayoutTokens$Layout", "wantsBlock", "(I)Z"⟩, 13) := ⟨⟨by decide +kernel, by decide +kernel⟩, List.mem_of_getElem? (i := 192) (by decide +kernel), List.mem_of_getElem? (i := 624) (by decide +kernel), List.mem_of_getElem? (i := 625) (by decide +kernel)⟩
theorem lw_p30 : lw_okq (⟨"LayoutTokens$Layout", "isOpener", "(I)Z"⟩, 13) := ⟨⟨by decide +kernel, by decide +kernel⟩, List.mem_of_getElem? (i := 192) (by decide +kernel), List.mem_of_getElem? (i := 632) (by decide +kernel), List.mem_of_getElem? (i := 633) (by decide +kernel)⟩
theorem lw_p31 : lw_okq (⟨"LayoutTokens$Layout", "beginBlock", "(Z)Z"⟩, 13) := ⟨⟨by decide +kernel, by decide +kernel⟩, List.mem_of_getElem? (i := 192) (by decide +kernel), List.mem_of_getElem? (i := 636) (by decide +kernel), List.mem_of_getElem? (i := 637) (by decide +kernel)⟩
def lw_privs_2 : List (MethodName × Nat) := [(⟨"LayoutTokens$Reader", "readSymbols", "(I)I"⟩, 4), (⟨"LayoutTokens$Reader", "lineEnd", "(I)I"⟩, 4), (⟨"LayoutTokens$Reader", "readNumber", "(I)I"⟩, 4), (⟨"LayoutTokens$Reader", "radixAt", "(I)I"⟩, 4), (⟨"LayoutTokens$Reader", "figuresEnd", "(II)I"⟩, 4), (⟨"LayoutTokens$Reader", "brokenEnd", "(I)I"⟩, 4), (⟨"LayoutTokens$Quotes", "readEscape", "(IZ)I"⟩, 2), (⟨"LayoutTokens$Quotes", "readCode", "(III)I"⟩, 2), (⟨"LayoutTokens$Quotes", "readControl", "(I)I"⟩, 2), (⟨"LayoutTokens$Quotes", "codeOfLetter", "(I)I"⟩, 2), (⟨"LayoutTokens$Quotes", "readCodeName", "(I)I"⟩, 2), (⟨"LayoutTokens$Quotes", "readGap", "(I)I"⟩, 2), (⟨"LayoutTokens$Layout", "goThrough", "(I)V"⟩, 13), (⟨"LayoutTokens$Layout", "wantsBlock", "(I)Z"⟩, 13), (⟨"LayoutTokens$Layout", "isOpener", "(I)Z"⟩, 13), (⟨"LayoutTokens$Layout", "beginBlock", "(Z)Z"⟩, 13)]
theorem lw_r2 : ∀ q ∈ lw_privs_2, lw_okq q := List.forall_mem_cons.mpr ⟨lw_p16, List.forall_mem_cons.mpr ⟨lw_p17, List.forall_mem_cons.mpr ⟨lw_p18, List.forall_mem_cons.mpr ⟨lw_p19, List.forall_mem_cons.mpr ⟨lw_p20, List.forall_mem_cons.mpr ⟨lw_p21, List.forall_mem_cons.mpr ⟨lw_p22, List.forall_mem_cons.mpr ⟨lw_p23, List.forall_mem_cons.mpr ⟨lw_p24, List.forall_mem_cons.mpr ⟨lw_p25, List.forall_mem_cons.mpr ⟨lw_p26, List.forall_mem_cons.mpr ⟨lw_p27, List.forall_mem_cons.mpr ⟨lw_p28, List.forall_mem_cons.mpr ⟨lw_p29, List.forall_mem_cons.mpr ⟨lw_p30, List.forall_mem_cons.mpr ⟨lw_p31, fun _ h => absurd h List.not_mem_nil⟩⟩⟩⟩⟩⟩⟩⟩⟩⟩⟩⟩⟩⟩⟩⟩
theorem lw_p32 : lw_okq (⟨"LayoutTokens$Layout", "putIn", "(IZ)V"⟩, 13) := ⟨⟨by decide +kernel, by decide +kernel⟩, List.mem_of_getElem? (i := 192) (by decide +kernel), List.mem_of_getElem? (i := 640) (by decide +kernel), List.mem_of_getElem? (i := 641) (by decide +kernel)⟩
theorem lw_p33 : lw_okq (⟨"LayoutTokens$Layout", "columnAround", "()I"⟩, 13) := ⟨⟨by decide +kernel, by decide +kernel⟩, List.mem_of_getElem? (i := 192) (by decide +kernel), List.mem_of_getElem? (i := 648) (by decide +kernel), List.mem_of_getElem? (i := 649) (by decide +kernel)⟩
theorem lw_p34 : lw_okq (⟨"LayoutTokens$Layout", "putItem", "(IIZ)V"⟩, 13) := ⟨⟨by decide +kernel, by decide +kernel⟩, List.mem_of_getElem? (i := 192) (by decide +kernel), List.mem_of_getElem? (i := 652) (by decide +kernel), List.mem_of_getElem? (i := 653) (by decide +kernel)⟩
theorem lw_p35 : lw_okq (⟨"LayoutTokens$Layout", "closeEmpty", "()V"⟩, 13) := ⟨⟨by decide +kernel, by decide +kernel⟩, List.mem_of_getElem? (i := 192) (by decide +kernel), List.mem_of_getElem? (i := 656) (by decide +kernel), List.mem_of_getElem? (i := 657) (by decide +kernel)⟩
theorem lw_p36 : lw_okq (⟨"LayoutTokens$Layout", "endByColumn", "(Z)V"⟩, 13) := ⟨⟨by decide +kernel, by decide +kernel⟩, List.mem_of_getElem? (i := 192) (by decide +kernel), List.mem_of_getElem? (i := 660) (by decide +kernel), List.mem_of_getElem? (i := 661) (by decide +kernel)⟩
theorem lw_p37 : lw_okq (⟨"LayoutTokens$Layout", "topColumn", "()I"⟩, 13) := ⟨⟨by decide +kernel, by decide +kernel⟩, List.mem_of_getElem? (i := 192) (by decide +kernel), List.mem_of_getElem? (i := 664) (by decide +kernel), List.mem_of_getElem? (i := 665) (by decide +kernel)⟩
theorem lw_p38 : lw_okq (⟨"LayoutTokens$Layout", "isLetAt", "(I)Z"⟩, 13) := ⟨⟨by decide +kernel, by decide +kernel⟩, List.mem_of_getElem? (i := 192) (by decide +kernel), List.mem_of_getElem? (i := 668) (by decide +kernel), List.mem_of_getElem? (i := 669) (by decide +kernel)⟩
theorem lw_p39 : lw_okq (⟨"LayoutTokens$Layout", "endDownTo", "(IZ)V"⟩, 13) := ⟨⟨by decide +kernel, by decide +kernel⟩, List.mem_of_getElem? (i := 192) (by decide +kernel), List.mem_of_getElem? (i := 672) (by decide +kernel), List.mem_of_getElem? (i := 673) (by decide +kernel)⟩
theorem lw_p40 : lw_okq (⟨"LayoutTokens$Layout", "endLet", "()V"⟩, 13) := ⟨⟨by decide +kernel, by decide +kernel⟩, List.mem_of_getElem? (i := 192) (by decide +kernel), List.mem_of_getElem? (i := 678) (by decide +kernel), List.mem_of_getElem? (i := 679) (by decide +kernel)⟩
theorem lw_p41 : lw_okq (⟨"LayoutTokens$Layout", "uppermostOther", "()I"⟩, 13) := ⟨⟨by decide +kernel, by decide +kernel⟩, List.mem_of_getElem? (i := 192) (by decide +kernel), List.mem_of_getElem? (i := 682) (by decide +kernel), List.mem_of_getElem? (i := 683) (by decide +kernel)⟩
theorem lw_p42 : lw_okq (⟨"LayoutTokens$Layout", "sortAt", "(I)I"⟩, 13) := ⟨⟨by decide +kernel, by decide +kernel⟩, List.mem_of_getElem? (i := 192) (by decide +kernel), List.mem_of_getElem? (i := 686) (by decide +kernel), List.mem_of_getElem? (i := 687) (by decide +kernel)⟩
theorem lw_p43 : lw_okq (⟨"LayoutTokens$Layout", "endByNeed", "(II)V"⟩, 13) := ⟨⟨by decide +kernel, by decide +kernel⟩, List.mem_of_getElem? (i := 192) (by decide +kernel), List.mem_of_getElem? (i := 690) (by decide +kernel), List.mem_of_getElem? (i := 691) (by decide +kernel)⟩
theorem lw_p44 : lw_okq (⟨"LayoutTokens$Layout", "needOf", "(I)I"⟩, 13) := ⟨⟨by decide +kernel, by decide +kernel⟩, List.mem_of_getElem? (i := 192) (by decide +kernel), List.mem_of_getElem? (i := 694) (by decide +kernel), List.mem_of_getElem? (i := 695) (by decide +kernel)⟩
theorem lw_p45 : lw_okq (⟨"LayoutTokens$Layout", "itemOf", "(I)I"⟩, 13) := ⟨⟨by decide +kernel, by decide +kernel⟩, List.mem_of_getElem? (i := 192) (by decide +kernel), List.mem_of_getElem? (i := 702) (by decide +kernel), List.mem_of_getElem? (i := 703) (by decide +kernel)⟩
theorem lw_p46 : lw_okq (⟨"LayoutTokens$Layout", "finish", "()V"⟩, 13) := ⟨⟨by decide +kernel, by decide +kernel⟩, List.mem_of_getElem? (i := 192) (by decide +kernel), List.mem_of_getElem? (i := 707) (by decide +kernel), List.mem_of_getElem? (i := 708) (by decide +kernel)⟩
theorem lw_p47 : lw_okq (⟨"LayoutTokens$Printer", "writeTokens", "()V"⟩, 6) := ⟨⟨by decide +kernel, by decide +kernel⟩, List.mem_of_getElem? (i := 238) (by decide +kernel), List.mem_of_getElem? (i := 812) (by decide +kernel), List.mem_of_getElem? (i := 813) (by decide +kernel)⟩
def lw_privs_3 : List (MethodName × Nat) := [(⟨"LayoutTokens$Layout", "putIn", "(IZ)V"⟩, 13), (⟨"LayoutTokens$Layout", "columnAround", "()I"⟩, 13), (⟨"LayoutTokens$Layout", "putItem", "(IIZ)V"⟩, 13), (⟨"LayoutTokens$Layout", "closeEmpty", "()V"⟩, 13), (⟨"LayoutTokens$Layout", "endByColumn", "(Z)V"⟩, 13), (⟨"LayoutTokens$Layout", "topColumn", "()I"⟩, 13), (⟨"LayoutTokens$Layout", "isLetAt", "(I)Z"⟩, 13), (⟨"LayoutTokens$Layout", "endDownTo", "(IZ)V"⟩, 13), (⟨"LayoutTokens$Layout", "endLet", "()V"⟩, 13), (⟨"LayoutTokens$Layout", "uppermostOther", "()I"⟩, 13), (⟨"LayoutTokens$Layout", "sortAt", "(I)I"⟩, 13), (⟨"LayoutTokens$Layout", "endByNeed", "(II)V"⟩, 13), (⟨"LayoutTokens$Layout", "needOf", "(I)I"⟩, 13), (⟨"LayoutTokens$Layout", "itemOf", "(I)I"⟩, 13), (⟨"LayoutTokens$Layout", "finish", "()V"⟩, 13), (⟨"LayoutTokens$Printer", "writeTokens", "()V"⟩, 6)]
theorem lw_r3 : ∀ q ∈ lw_privs_3, lw_okq q := List.forall_mem_cons.mpr ⟨lw_p32, List.forall_mem_cons.mpr ⟨lw_p33, List.forall_mem_cons.mpr ⟨lw_p34, List.forall_mem_cons.mpr ⟨lw_p35, List.forall_mem_cons.mpr ⟨lw_p36, List.forall_mem_cons.mpr ⟨lw_p37, List.forall_mem_cons.mpr ⟨lw_p38, List.forall_mem_cons.mpr ⟨lw_p39, List.forall_mem_cons.mpr ⟨lw_p40, List.forall_mem_cons.mpr ⟨lw_p41, List.forall_mem_cons.mpr ⟨lw_p42, List.forall_mem_cons.mpr ⟨lw_p43, List.forall_mem_cons.mpr ⟨lw_p44, List.forall_mem_cons.mpr ⟨lw_p45, List.forall_mem_cons.mpr ⟨lw_p46, List.forall_mem_cons.mpr ⟨lw_p47, fun _ h => absurd h List.not_mem_nil⟩⟩⟩⟩⟩⟩⟩⟩⟩⟩⟩⟩⟩⟩⟩⟩
theorem lw_p48 : lw_okq (⟨"LayoutTokens$Printer", "put", "(I)V"⟩, 6) := ⟨⟨by decide +kernel, by decide +kernel⟩, List.mem_of_getElem? (i := 238) (by decide +kernel), List.mem_of_getElem? (i := 817) (by decide +kernel), List.mem_of_getElem? (i := 818) (by decide +kernel)⟩
theorem lw_p49 : lw_okq (⟨"LayoutTokens$Printer", "writeToken", "(I)V"⟩, 6) := ⟨⟨by decide +kernel, by decide +kernel⟩, List.mem_of_getElem? (i := 238) (by decide +kernel), List.mem_of_getElem? (i := 821) (by decide +kernel), List.mem_of_getElem? (i := 822) (by decide +kernel)⟩
theorem lw_p50 : lw_okq (⟨"LayoutTokens$Printer", "writeQuoted", "(II)V"⟩, 6) := ⟨⟨by decide +kernel, by decide +kernel⟩, List.mem_of_getElem? (i := 238) (by decide +kernel), List.mem_of_getElem? (i := 827) (by decide +kernel), List.mem_of_getElem? (i := 828) (by decide +kernel)⟩
theorem lw_p51 : lw_okq (⟨"LayoutTokens$Printer", "writeEscape", "(IZ)V"⟩, 6) := ⟨⟨by decide +kernel, by decide +kernel⟩, List.mem_of_getElem? (i := 238) (by decide +kernel), List.mem_of_getElem? (i := 834) (by decide +kernel), List.mem_of_getElem? (i := 835) (by decide +kernel)⟩
theorem lw_p52 : lw_okq (⟨"LayoutTokens$Printer", "writeSigns", "(I)V"⟩, 6) := ⟨⟨by decide +kernel, by decide +kernel⟩, List.mem_of_getElem? (i := 238) (by decide +kernel), List.mem_of_getElem? (i := 838) (by decide +kernel), List.mem_of_getElem? (i := 839) (by decide +kernel)⟩
theorem lw_p53 : lw_okq (⟨"LayoutTokensModel", "unread", "()V"⟩, 48) := ⟨⟨by decide +kernel, by decide +kernel⟩, List.mem_of_getElem? (i := 887) (by decide +kernel), List.mem_of_getElem? (i := 1043) (by decide +kernel), List.mem_of_getElem? (i := 1044) (by decide +kernel)⟩
theorem lw_p54 : lw_okq (⟨"LayoutTokensModel", "layLines", "()V"⟩, 48) := ⟨⟨by decide +kernel, by decide +kernel⟩, List.mem_of_getElem? (i := 887) (by decide +kernel), List.mem_of_getElem? (i := 1051) (by decide +kernel), List.mem_of_getElem? (i := 1052) (by decide +kernel)⟩
theorem lw_p55 : lw_okq (⟨"LayoutTokensModel", "literate", "()V"⟩, 48) := ⟨⟨by decide +kernel, by decide +kernel⟩, List.mem_of_getElem? (i := 887) (by decide +kernel), List.mem_of_getElem? (i := 1055) (by decide +kernel), List.mem_of_getElem? (i := 1056) (by decide +kernel)⟩
theorem lw_p56 : lw_okq (⟨"LayoutTokensModel", "stop", "(I)V"⟩, 48) := ⟨⟨by decide +kernel, by decide +kernel⟩, List.mem_of_getElem? (i := 887) (by decide +kernel), List.mem_of_getElem? (i := 1068) (by decide +kernel), List.mem_of_getElem? (i := 1069) (by decide +kernel)⟩
theorem lw_p57 : lw_okq (⟨"LayoutTokensModel", "readAll", "()V"⟩, 48) := ⟨⟨by decide +kernel, by decide +kernel⟩, List.mem_of_getElem? (i := 887) (by decide +kernel), List.mem_of_getElem? (i := 1072) (by decide +kernel), List.mem_of_getElem? (i := 1073) (by decide +kernel)⟩
theorem lw_p58 : lw_okq (⟨"LayoutTokensModel", "at", "(I)I"⟩, 48) := ⟨⟨by decide +kernel, by decide +kernel⟩, List.mem_of_getElem? (i := 887) (by decide +kernel), List.mem_of_getElem? (i := 1076) (by decide +kernel), List.mem_of_getElem? (i := 1077) (by decide +kernel)⟩
theorem lw_p59 : lw_okq (⟨"LayoutTokensModel", "skip", "(I)I"⟩, 48) := ⟨⟨by decide +kernel, by decide +kernel⟩, List.mem_of_getElem? (i := 887) (by decide +kernel), List.mem_of_getElem? (i := 1080) (by decide +kernel), List.mem_of_getElem? (i := 1081) (by decide +kernel)⟩
theorem lw_p60 : lw_okq (⟨"LayoutTokensModel", "addComment", "(IIZ)V"⟩, 48) := ⟨⟨by decide +kernel, by decide +kernel⟩, List.mem_of_getElem? (i := 887) (by decide +kernel), List.mem_of_getElem? (i := 1087) (by decide +kernel), List.mem_of_getElem? (i := 1088) (by decide +kernel)⟩
theorem lw_p61 : lw_okq (⟨"LayoutTokensModel", "skipBlock", "(I)I"⟩, 48) := ⟨⟨by decide +kernel, by decide +kernel⟩, List.mem_of_getElem? (i := 887) (by decide +kernel), List.mem_of_getElem? (i := 1091) (by decide +kernel), List.mem_of_getElem? (i := 1092) (by decide +kernel)⟩
theorem lw_p62 : lw_okq (⟨"LayoutTokensModel", "readToken", "(I)V"⟩, 48) := ⟨⟨by decide +kernel, by decide +kernel⟩, List.mem_of_getElem? (i := 887) (by decide +kernel), List.mem_of_getElem? (i := 1095) (by decide +kernel), List.mem_of_getElem? (i := 1096) (by decide +kernel)⟩
theorem lw_p63 : lw_okq (⟨"LayoutTokensModel", "large", "(I)V"⟩, 48) := ⟨⟨by decide +kernel, by decide +kernel⟩, List.mem_of_getElem? (i := 887) (by decide +kernel), List.mem_of_getElem? (i := 1102) (by decide +kernel), List.mem_of_getElem? (i := 1103) (by decide +kernel)⟩
def lw_privs_4 : List (MethodName × Nat) := [(⟨"LayoutTokens$Printer", "put", "(I)V"⟩, 6), (⟨"LayoutTokens$Printer", "writeToken", "(I)V"⟩, 6), (⟨"LayoutTokens$Printer", "writeQuoted", "(II)V"⟩, 6), (⟨"LayoutTokens$Printer", "writeEscape", "(IZ)V"⟩, 6), (⟨"LayoutTokens$Printer", "writeSigns", "(I)V"⟩, 6), (⟨"LayoutTokensModel", "unread", "()V"⟩, 48), (⟨"LayoutTokensModel", "layLines", "()V"⟩, 48), (⟨"LayoutTokensModel", "literate", "()V"⟩, 48), (⟨"LayoutTokensModel", "stop", "(I)V"⟩, 48), (⟨"LayoutTokensModel", "readAll", "()V"⟩, 48), (⟨"LayoutTokensModel", "at", "(I)I"⟩, 48), (⟨"LayoutTokensModel", "skip", "(I)I"⟩, 48), (⟨"LayoutTokensModel", "addComment", "(IIZ)V"⟩, 48), (⟨"LayoutTokensModel", "skipBlock", "(I)I"⟩, 48), (⟨"LayoutTokensModel", "readToken", "(I)V"⟩, 48), (⟨"LayoutTokensModel", "large", "(I)V"⟩, 48)]
theorem lw_r4 : ∀ q ∈ lw_privs_4, lw_okq q := List.forall_mem_cons.mpr ⟨lw_p48, List.forall_mem_cons.mpr ⟨lw_p49, List.forall_mem_cons.mpr ⟨lw_p50, List.forall_mem_cons.mpr ⟨lw_p51, List.forall_mem_cons.mpr ⟨lw_p52, List.forall_mem_cons.mpr ⟨lw_p53, List.forall_mem_cons.mpr ⟨lw_p54, List.forall_mem_cons.mpr ⟨lw_p55, List.forall_mem_cons.mpr ⟨lw_p56, List.forall_mem_cons.mpr ⟨lw_p57, List.forall_mem_cons.mpr ⟨lw_p58, List.forall_mem_cons.mpr ⟨lw_p59, List.forall_mem_cons.mpr ⟨lw_p60, List.forall_mem_cons.mpr ⟨lw_p61, List.forall_mem_cons.mpr ⟨lw_p62, List.forall_mem_cons.mpr ⟨lw_p63, fun _ h => absurd h List.not_mem_nil⟩⟩⟩⟩⟩⟩⟩⟩⟩⟩⟩⟩⟩⟩⟩⟩
theorem lw_p64 : lw_okq (⟨"LayoutTokensModel", "nameEnd", "(I)I"⟩, 48) := ⟨⟨by decide +kernel, by decide +kernel⟩, List.mem_of_getElem? (i := 887) (by decide +kernel), List.mem_of_getElem? (i := 1106) (by decide +kernel), List.mem_of_getElem? (i := 1107) (by decide +kernel)⟩
theorem lw_p65 : lw_okq (⟨"LayoutTokensModel", "wordIn", "(II)I"⟩, 48) := ⟨⟨by decide +kernel, by decide +kernel⟩, List.mem_of_getElem? (i := 887) (by decide +kernel), List.mem_of_getElem? (i := 1116) (by decide +kernel), List.mem_of_getElem? (i := 1117) (by decide +kernel)⟩
theorem lw_p66 : lw_okq (⟨"LayoutTokensModel", "symbolEnd", "(I)I"⟩, 48) := ⟨⟨by decide +kernel, by decide +kernel⟩, List.mem_of_getElem? (i := 887) (by decide +kernel), List.mem_of_getElem? (i := 1145) (by decide +kernel), List.mem_of_getElem? (i := 1146) (by decide +kernel)⟩
theorem lw_p67 : lw_okq (⟨"LayoutTokensModel", "operatorKind", "(II)I"⟩, 48) := ⟨⟨by decide +kernel, by decide +kernel⟩, List.mem_of_getElem? (i := 887) (by decide +kernel), List.mem_of_getElem? (i := 1149) (by decide +kernel), List.mem_of_getElem? (i := 1150) (by decide +kernel)⟩
theorem lw_p68 : lw_okq (⟨"LayoutTokensModel", "isDashes", "(II)Z"⟩, 48) := ⟨⟨by decide +kernel, by decide +kernel⟩, List.mem_of_getElem? (i := 887) (by decide +kernel), List.mem_of_getElem? (i := 1153) (by decide +kernel), List.mem_of_getElem? (i := 1154) (by decide +kernel)⟩
theorem lw_p69 : lw_okq (⟨"LayoutTokensModel", "numberAt", "(I)V"⟩, 48) := ⟨⟨by decide +kernel, by decide +kernel⟩, List.mem_of_getElem? (i := 887) (by decide +kernel), List.mem_of_getElem? (i := 1157) (by decide +kernel), List.mem_of_getElem? (i := 1158) (by decide +kernel)⟩
theorem lw_p70 : lw_okq (⟨"LayoutTokensModel", "baseAt", "(I)I"⟩, 48) := ⟨⟨by decide +kernel, by decide +kernel⟩, List.mem_of_getElem? (i := 887) (by decide +kernel), List.mem_of_getElem? (i := 1161) (by decide +kernel), List.mem_of_getElem? (i := 1162) (by decide +kernel)⟩
theorem lw_p71 : lw_okq (⟨"LayoutTokensModel", "figuresEnd", "(I)I"⟩, 48) := ⟨⟨by decide +kernel, by decide +kernel⟩, List.mem_of_getElem? (i := 887) (by decide +kernel), List.mem_of_getElem? (i := 1168) (by decide +kernel), List.mem_of_getElem? (i := 1169) (by decide +kernel)⟩
theorem lw_p72 : lw_okq (⟨"LayoutTokensModel", "character", "(I)V"⟩, 48) := ⟨⟨by decide +kernel, by decide +kernel⟩, List.mem_of_getElem? (i := 887) (by decide +kernel), List.mem_of_getElem? (i := 1172) (by decide +kernel), List.mem_of_getElem? (i := 1173) (by decide +kernel)⟩
theorem lw_p73 : lw_okq (⟨"LayoutTokensModel", "escape", "(IZ)V"⟩, 48) := ⟨⟨by decide +kernel, by decide +kernel⟩, List.mem_of_getElem? (i := 887) (by decide +kernel), List.mem_of_getElem? (i := 1176) (by decide +kernel), List.mem_of_getElem? (i := 1177) (by decide +kernel)⟩
theorem lw_p74 : lw_okq (⟨"LayoutTokensModel", "amount", "(III)V"⟩, 48) := ⟨⟨by decide +kernel, by decide +kernel⟩, List.mem_of_getElem? (i := 887) (by decide +kernel), List.mem_of_getElem? (i := 1183) (by decide +kernel), List.mem_of_getElem? (i := 1184) (by decide +kernel)⟩
theorem lw_p75 : lw_okq (⟨"LayoutTokensModel", "addSign", "(I)V"⟩, 48) := ⟨⟨by decide +kernel, by decide +kernel⟩, List.mem_of_getElem? (i := 887) (by decide +kernel), List.mem_of_getElem? (i := 1200) (by decide +kernel), List.mem_of_getElem? (i := 1201) (by decide +kernel)⟩
theorem lw_p76 : lw_okq (⟨"LayoutTokensModel", "string", "(I)V"⟩, 48) := ⟨⟨by decide +kernel, by decide +kernel⟩, List.mem_of_getElem? (i := 887) (by decide +kernel), List.mem_of_getElem? (i := 1204) (by decide +kernel), List.mem_of_getElem? (i := 1205) (by decide +kernel)⟩
theorem lw_p77 : lw_okq (⟨"LayoutTokensModel", "layout", "()V"⟩, 48) := ⟨⟨by decide +kernel, by decide +kernel⟩, List.mem_of_getElem? (i := 887) (by decide +kernel), List.mem_of_getElem? (i := 1211) (by decide +kernel), List.mem_of_getElem? (i := 1212) (by decide +kernel)⟩
theorem lw_p78 : lw_okq (⟨"LayoutTokensModel", "layOne", "(I)V"⟩, 48) := ⟨⟨by decide +kernel, by decide +kernel⟩, List.mem_of_getElem? (i := 887) (by decide +kernel), List.mem_of_getElem? (i := 1215) (by decide +kernel), List.mem_of_getElem? (i := 1216) (by decide +kernel)⟩
theorem lw_p79 : lw_okq (⟨"LayoutTokensModel", "specialOf", "(I)I"⟩, 48) := ⟨⟨by decide +kernel, by decide +kernel⟩, List.mem_of_getElem? (i := 887) (by decide +kernel), List.mem_of_getElem? (i := 1219) (by decide +kernel), List.mem_of_getElem? (i := 1220) (by decide +kernel)⟩
def lw_privs_5 : List (MethodName × Nat) := [(⟨"LayoutTokensModel", "nameEnd", "(I)I"⟩, 48), (⟨"LayoutTokensModel", "wordIn", "(II)I"⟩, 48), (⟨"LayoutTokensModel", "symbolEnd", "(I)I"⟩, 48), (⟨"LayoutTokensModel", "operatorKind", "(II)I"⟩, 48), (⟨"LayoutTokensModel", "isDashes", "(II)Z"⟩, 48), (⟨"LayoutTokensModel", "numberAt", "(I)V"⟩, 48), (⟨"LayoutTokensModel", "baseAt", "(I)I"⟩, 48), (⟨"LayoutTokensModel", "figuresEnd", "(I)I"⟩, 48), (⟨"LayoutTokensModel", "character", "(I)V"⟩, 48), (⟨"LayoutTokensModel", "escape", "(IZ)V"⟩, 48), (⟨"LayoutTokensModel", "amount", "(III)V"⟩, 48), (⟨"LayoutTokensModel", "addSign", "(I)V"⟩, 48), (⟨"LayoutTokensModel", "string", "(I)V"⟩, 48), (⟨"LayoutTokensModel", "layout", "()V"⟩, 48), (⟨"LayoutTokensModel", "layOne", "(I)V"⟩, 48), (⟨"LayoutTokensModel", "specialOf", "(I)I"⟩, 48)]
theorem lw_r5 : ∀ q ∈ lw_privs_5, lw_okq q := List.forall_mem_cons.mpr ⟨lw_p64, List.forall_mem_cons.mpr ⟨lw_p65, List.forall_mem_cons.mpr ⟨lw_p66, List.forall_mem_cons.mpr ⟨lw_p67, List.forall_mem_cons.mpr ⟨lw_p68, List.forall_mem_cons.mpr ⟨lw_p69, List.forall_mem_cons.mpr ⟨lw_p70, List.forall_mem_cons.mpr ⟨lw_p71, List.forall_mem_cons.mpr ⟨lw_p72, List.forall_mem_cons.mpr ⟨lw_p73, List.forall_mem_cons.mpr ⟨lw_p74, List.forall_mem_cons.mpr ⟨lw_p75, List.forall_mem_cons.mpr ⟨lw_p76, List.forall_mem_cons.mpr ⟨lw_p77, List.forall_mem_cons.mpr ⟨lw_p78, List.forall_mem_cons.mpr ⟨lw_p79, fun _ h => absurd h List.not_mem_nil⟩⟩⟩⟩⟩⟩⟩⟩⟩⟩⟩⟩⟩⟩⟩⟩
theorem lw_p80 : lw_okq (⟨"LayoutTokensModel", "putIn", "(I)V"⟩, 48) := ⟨⟨by decide +kernel, by decide +kernel⟩, List.mem_of_getElem? (i := 887) (by decide +kernel), List.mem_of_getElem? (i := 1226) (by decide +kernel), List.mem_of_getElem? (i := 1227) (by decide +kernel)⟩
theorem lw_p81 : lw_okq (⟨"LayoutTokensModel", "addToken", "(IIZ)V"⟩, 48) := ⟨⟨by decide +kernel, by decide +kernel⟩, List.mem_of_getElem? (i := 887) (by decide +kernel), List.mem_of_getElem? (i := 1230) (by decide +kernel), List.mem_of_getElem? (i := 1231) (by decide +kernel)⟩
theorem lw_p82 : lw_okq (⟨"LayoutTokensModel", "upperColumn", "()I"⟩, 48) := ⟨⟨by decide +kernel, by decide +kernel⟩, List.mem_of_getElem? (i := 887) (by decide +kernel), List.mem_of_getElem? (i := 1234) (by decide +kernel), List.mem_of_getElem? (i := 1235) (by decide +kernel)⟩
theorem lw_p83 : lw_okq (⟨"LayoutTokensModel", "putItem", "(IIZ)V"⟩, 48) := ⟨⟨by decide +kernel, by decide +kernel⟩, List.mem_of_getElem? (i := 887) (by decide +kernel), List.mem_of_getElem? (i := 1238) (by decide +kernel), List.mem_of_getElem? (i := 1239) (by decide +kernel)⟩
theorem lw_p84 : lw_okq (⟨"LayoutTokensModel", "room", "()V"⟩, 48) := ⟨⟨by decide +kernel, by decide +kernel⟩, List.mem_of_getElem? (i := 887) (by decide +kernel), List.mem_of_getElem? (i := 1242) (by decide +kernel), List.mem_of_getElem? (i := 1243) (by decide +kernel)⟩
theorem lw_p85 : lw_okq (⟨"LayoutTokensModel", "newLine", "(I)V"⟩, 48) := ⟨⟨by decide +kernel, by decide +kernel⟩, List.mem_of_getElem? (i := 887) (by decide +kernel), List.mem_of_getElem? (i := 1246) (by decide +kernel), List.mem_of_getElem? (i := 1247) (by decide +kernel)⟩
theorem lw_p86 : lw_okq (⟨"LayoutTokensModel", "isTop", "(II)Z"⟩, 48) := ⟨⟨by decide +kernel, by decide +kernel⟩, List.mem_of_getElem? (i := 887) (by decide +kernel), List.mem_of_getElem? (i := 1251) (by decide +kernel), List.mem_of_getElem? (i := 1252) (by decide +kernel)⟩
theorem lw_p87 : lw_okq (⟨"LayoutTokensModel", "closers", "(IZ)V"⟩, 48) := ⟨⟨by decide +kernel, by decide +kernel⟩, List.mem_of_getElem? (i := 887) (by decide +kernel), List.mem_of_getElem? (i := 1255) (by decide +kernel), List.mem_of_getElem? (i := 1256) (by decide +kernel)⟩
theorem lw_p88 : lw_okq (⟨"LayoutTokensModel", "needs", "(I)I"⟩, 48) := ⟨⟨by decide +kernel, by decide +kernel⟩, List.mem_of_getElem? (i := 887) (by decide +kernel), List.mem_of_getElem? (i := 1259) (by decide +kernel), List.mem_of_getElem? (i := 1260) (by decide +kernel)⟩
theorem lw_p89 : lw_okq (⟨"LayoutTokensModel", "other", "()I"⟩, 48) := ⟨⟨by decide +kernel, by decide +kernel⟩, List.mem_of_getElem? (i := 887) (by decide +kernel), List.mem_of_getElem? (i := 1263) (by decide +kernel), List.mem_of_getElem? (i := 1264) (by decide +kernel)⟩
theorem lw_p90 : lw_okq (⟨"LayoutTokensModel", "askOver", "(I)V"⟩, 48) := ⟨⟨by decide +kernel, by decide +kernel⟩, List.mem_of_getElem? (i := 887) (by decide +kernel), List.mem_of_getElem? (i := 1267) (by decide +kernel), List.mem_of_getElem? (i := 1268) (by decide +kernel)⟩
theorem lw_p91 : lw_okq (⟨"LayoutTokensModel", "openers", "(IZ)V"⟩, 48) := ⟨⟨by decide +kernel, by decide +kernel⟩, List.mem_of_getElem? (i := 887) (by decide +kernel), List.mem_of_getElem? (i := 1271) (by decide +kernel), List.mem_of_getElem? (i := 1272) (by decide +kernel)⟩
theorem lw_p92 : lw_okq (⟨"LayoutTokensModel", "noToken", "(I)Z"⟩, 48) := ⟨⟨by decide +kernel, by decide +kernel⟩, List.mem_of_getElem? (i := 887) (by decide +kernel), List.mem_of_getElem? (i := 1279) (by decide +kernel), List.mem_of_getElem? (i := 1280) (by decide +kernel)⟩
theorem lw_p93 : lw_okq (⟨"LayoutTokensModel", "say", "(I)V"⟩, 48) := ⟨⟨by decide +kernel, by decide +kernel⟩, List.mem_of_getElem? (i := 887) (by decide +kernel), List.mem_of_getElem? (i := 1307) (by decide +kernel), List.mem_of_getElem? (i := 1308) (by decide +kernel)⟩
theorem lw_p94 : lw_okq (⟨"LayoutTokensModel", "printOne", "(I)V"⟩, 48) := ⟨⟨by decide +kernel, by decide +kernel⟩, List.mem_of_getElem? (i := 887) (by decide +kernel), List.mem_of_getElem? (i := 1311) (by decide +kernel), List.mem_of_getElem? (i := 1312) (by decide +kernel)⟩
theorem lw_p95 : lw_okq (⟨"LayoutTokensModel", "figures", "(I)V"⟩, 48) := ⟨⟨by decide +kernel, by decide +kernel⟩, List.mem_of_getElem? (i := 887) (by decide +kernel), List.mem_of_getElem? (i := 1315) (by decide +kernel), List.mem_of_getElem? (i := 1316) (by decide +kernel)⟩
def lw_privs_6 : List (MethodName × Nat) := [(⟨"LayoutTokensModel", "putIn", "(I)V"⟩, 48), (⟨"LayoutTokensModel", "addToken", "(IIZ)V"⟩, 48), (⟨"LayoutTokensModel", "upperColumn", "()I"⟩, 48), (⟨"LayoutTokensModel", "putItem", "(IIZ)V"⟩, 48), (⟨"LayoutTokensModel", "room", "()V"⟩, 48), (⟨"LayoutTokensModel", "newLine", "(I)V"⟩, 48), (⟨"LayoutTokensModel", "isTop", "(II)Z"⟩, 48), (⟨"LayoutTokensModel", "closers", "(IZ)V"⟩, 48), (⟨"LayoutTokensModel", "needs", "(I)I"⟩, 48), (⟨"LayoutTokensModel", "other", "()I"⟩, 48), (⟨"LayoutTokensModel", "askOver", "(I)V"⟩, 48), (⟨"LayoutTokensModel", "openers", "(IZ)V"⟩, 48), (⟨"LayoutTokensModel", "noToken", "(I)Z"⟩, 48), (⟨"LayoutTokensModel", "say", "(I)V"⟩, 48), (⟨"LayoutTokensModel", "printOne", "(I)V"⟩, 48), (⟨"LayoutTokensModel", "figures", "(I)V"⟩, 48)]
theorem lw_r6 : ∀ q ∈ lw_privs_6, lw_okq q := List.forall_mem_cons.mpr ⟨lw_p80, List.forall_mem_cons.mpr ⟨lw_p81, List.forall_mem_cons.mpr ⟨lw_p82, List.forall_mem_cons.mpr ⟨lw_p83, List.forall_mem_cons.mpr ⟨lw_p84, List.forall_mem_cons.mpr ⟨lw_p85, List.forall_mem_cons.mpr ⟨lw_p86, List.forall_mem_cons.mpr ⟨lw_p87, List.forall_mem_cons.mpr ⟨lw_p88, List.forall_mem_cons.mpr ⟨lw_p89, List.forall_mem_cons.mpr ⟨lw_p90, List.forall_mem_cons.mpr ⟨lw_p91, List.forall_mem_cons.mpr ⟨lw_p92, List.forall_mem_cons.mpr ⟨lw_p93, List.forall_mem_cons.mpr ⟨lw_p94, List.forall_mem_cons.mpr ⟨lw_p95, fun _ h => absurd h List.not_mem_nil⟩⟩⟩⟩⟩⟩⟩⟩⟩⟩⟩⟩⟩⟩⟩⟩
def lw_privs : List (MethodName × Nat) := lw_privs_1 ++ (lw_privs_2 ++ (lw_privs_3 ++ (lw_privs_4 ++ (lw_privs_5 ++ (lw_privs_6)))))
def lw_tbl : List Cond := k2_sels lw_privs ++ tables_1
theorem lw_privs_ok : ∀ q ∈ lw_privs, lw_okq q := by
  show ∀ q ∈ lw_privs_1 ++ (lw_privs_2 ++ (lw_privs_3 ++ (lw_privs_4 ++ (lw_privs_5 ++ (lw_privs_6))))), lw_okq q
  exact List.forall_mem_append.mpr ⟨lw_r1, List.forall_mem_append.mpr ⟨lw_r2, List.forall_mem_append.mpr ⟨lw_r3, List.forall_mem_append.mpr ⟨lw_r4, List.forall_mem_append.mpr ⟨lw_r5, lw_r6⟩⟩⟩⟩⟩
-- ===== end of PART A; then your names; then what follows =====
end
section
/-! ===== words: the good ones of lw_tbl; every contract has its own code and all of these ===== -/
def kw : List Cond := lw_tbl.filter goodWord
theorem kw_of {w : Cond} {i : Nat} (h : lw_tbl[i]? = some w) (g : goodWord w = true) : w ∈ kw := List.mem_filter.mpr ⟨List.mem_of_getElem? h, g⟩
theorem kw_sub {ws : List Cond} (ps : List Nat) (hp : ws = ps.filterMap (fun i => lw_tbl[i]?)) (h : ws.all goodWord = true) : ∀ w ∈ ws, w ∈ kw := by
  intro w hw
  have h1 := List.all_eq_true.mp h w hw
  rw [hp] at hw
  obtain ⟨i, -, hi⟩ := List.mem_filterMap.mp hw
  exact kw_of hi h1
def kq (y : MethodName) (b : ByteArray) (n : Nat) (r : Option FieldType) : List Cond := Cond.code y b n r :: kw
theorem kw_good : GoodIn kw kw := fun w h => ⟨h, good_of_word (List.mem_filter.mp h).2⟩
theorem kq_good {y : MethodName} {b : ByteArray} {n : Nat} {r : Option FieldType} (h : Cond.code y b n r ∈ kw) : GoodIn kw (kq y b n r) := fun w hw => (List.mem_cons.mp hw).elim (fun e => e ▸ kw_good _ h) (kw_good w)
theorem kV_good {own C : String} {idx : Nat} {y : MethodName} {b : ByteArray} {n : Nat} {r : Option FieldType} (h : Cond.code y b n r ∈ kw) (h1 : Cond.methodLink own idx y ∈ kw) (h2 : Cond.instanceMethod y ∈ kw) (h3 : Cond.selects C y y ∈ kw) (h4 : Cond.initialized C ∈ kw) : GoodIn kw (wsV own idx C y (kq y b n r)) := by
  intro w hw
  unfold wsV at hw
  rcases List.mem_append.mp hw with q | q
  · refine kw_good w ?_
    rcases List.mem_cons.mp q with rfl | q
    · exact h1
    rcases List.mem_cons.mp q with rfl | q
    · exact h2
    rcases List.mem_cons.mp q with rfl | q
    · exact h3
    rcases List.mem_cons.mp q with rfl | q
    · exact h4
    · exact absurd q List.not_mem_nil
  · exact kq_good h w q
theorem kS_good {own : String} {idx : Nat} {y : MethodName} {b : ByteArray} {n : Nat} {r : Option FieldType} (h : Cond.code y b n r ∈ kw) (h1 : Cond.methodLink own idx y ∈ kw) (h2 : Cond.static y ∈ kw) (h3 : Cond.initialized own ∈ kw) : GoodIn kw (wsS own idx y (kq y b n r)) := by
  intro w hw
  unfold wsS at hw
  rcases List.mem_append.mp hw with q | q
  · refine kw_good w ?_
    rcases List.mem_cons.mp q with rfl | q
    · exact h1
    rcases List.mem_cons.mp q with rfl | q
    · exact h2
    rcases List.mem_cons.mp q with rfl | q
    · exact h3
    · exact absurd q List.not_mem_nil
  · exact kq_good h w q
/-! ===== names: fields, methods ===== -/
def tt_So : u_T := fun k => match k with
  | 0 => ("LayoutTokens$Source", "octets", "[I", true)
  | 1 => ("LayoutTokens$Source", "lines", "[I", true)
  | 2 => ("LayoutTokens$Source", "columns", "[I", true)
  | 3 => ("LayoutTokens$Source", "counted", "[I", true)
  | _ => ("LayoutTokens$Source", "size", "I", false)
def ty_So : Nat → FieldType := fun k => match k with
  | 0 => .array .int
  | 1 => .array .int
  | 2 => .array .int
  | 3 => .array .int
  | _ => .int
theorem nm_So : ∀ a, a < 5 → ∀ b, b < 5 → a ≠ b → (tt_So a).2.1 ≠ (tt_So b).2.1 := by decide +kernel
theorem ty_So_ok : ∀ k, k < 5 → parseFieldDescriptor (tt_So k).2.2.1 = some (ty_So k) := by decide +kernel
theorem i_So : ∀ w ∈ u_ws "LayoutTokens$Source" tt_So 5, w ∈ kw := kw_sub [132, 134, 136, 138, 140] (by decide +kernel) (by decide +kernel)
def tt_Li : u_T := fun k => match k with
  | _ => ("LayoutTokens$LiterateLines", "source", "LLayoutTokens$Source;", true)
def ty_Li : Nat → FieldType := fun k => match k with
  | _ => .object "LayoutTokens$Source"
theorem nm_Li : ∀ a, a < 1 → ∀ b, b < 1 → a ≠ b → (tt_Li a).2.1 ≠ (tt_Li b).2.1 := by decide +kernel
theorem ty_Li_ok : ∀ k, k < 1 → parseFieldDescriptor (tt_Li k).2.2.1 = some (ty_Li k) := by decide +kernel
theorem i_Li : ∀ w ∈ u_ws "LayoutTokens$LiterateLines" tt_Li 1, w ∈ kw := kw_sub [151] (by decide +kernel) (by decide +kernel)
def tt_Le : u_T := fun k => match k with
  | 0 => ("LayoutTokens$Lexemes", "source", "LLayoutTokens$Source;", true)
  | 1 => ("LayoutTokens$Lexemes", "kinds", "[I", true)
  | 2 => ("LayoutTokens$Lexemes", "places", "[I", true)
  | 3 => ("LayoutTokens$Lexemes", "sizes", "[I", true)
  | 4 => ("LayoutTokens$Lexemes", "marks", "[I", true)
  | 5 => ("LayoutTokens$Lexemes", "values", "[J", true)
  | 6 => ("LayoutTokens$Lexemes", "firstSigns", "[I", true)
  | 7 => ("LayoutTokens$Lexemes", "signCounts", "[I", true)
  | 8 => ("LayoutTokens$Lexemes", "signs", "[I", true)
  | 9 => ("LayoutTokens$Lexemes", "count", "I", false)
  | _ => ("LayoutTokens$Lexemes", "signsKept", "I", false)
def ty_Le : Nat → FieldType := fun k => match k with
  | 0 => .object "LayoutTokens$Source"
  | 1 => .array .int
  | 2 => .array .int
  | 3 => .array .int
  | 4 => .array .int
  | 5 => .array .long
  | 6 => .array .int
  | 7 => .array .int
  | 8 => .array .int
  | 9 => .int
  | _ => .int
theorem nm_Le : ∀ a, a < 11 → ∀ b, b < 11 → a ≠ b → (tt_Le a).2.1 ≠ (tt_Le b).2.1 := by decide +kernel
theorem ty_Le_ok : ∀ k, k < 11 → parseFieldDescriptor (tt_Le k).2.2.1 = some (ty_Le k) := by decide +kernel
theorem i_Le : ∀ w ∈ u_ws "LayoutTokens$Lexemes" tt_Le 11, w ∈ kw := kw_sub [171, 173, 175, 177, 179, 181, 183, 185, 187, 189, 191] (by decide +kernel) (by decide +kernel)
def tt_Co : u_T := fun k => match k with
  | 0 => ("LayoutTokens$Comments", "places", "[I", true)
  | 1 => ("LayoutTokens$Comments", "sizes", "[I", true)
  | 2 => ("LayoutTokens$Comments", "nested", "[I", true)
  | 3 => ("LayoutTokens$Comments", "count", "I", false)
  | _ => ("LayoutTokens$Comments", "deepest", "I", false)
def ty_Co : Nat → FieldType := fun k => match k with
  | 0 => .array .int
  | 1 => .array .int
  | 2 => .array .int
  | 3 => .int
  | _ => .int
theorem nm_Co : ∀ a, a < 5 → ∀ b, b < 5 → a ≠ b → (tt_Co a).2.1 ≠ (tt_Co b).2.1 := by decide +kernel
theorem ty_Co_ok : ∀ k, k < 5 → parseFieldDescriptor (tt_Co k).2.2.1 = some (ty_Co k) := by decide +kernel
theorem i_Co : ∀ w ∈ u_ws "LayoutTokens$Comments" tt_Co 5, w ∈ kw := kw_sub [206, 208, 210, 212, 214] (by decide +kernel) (by decide +kernel)
def tt_Qu : u_T := fun k => match k with
  | 0 => ("LayoutTokens$Quotes", "source", "LLayoutTokens$Source;", true)
  | _ => ("LayoutTokens$Quotes", "lexemes", "LLayoutTokens$Lexemes;", true)
def ty_Qu : Nat → FieldType := fun k => match k with
  | 0 => .object "LayoutTokens$Source"
  | _ => .object "LayoutTokens$Lexemes"
theorem nm_Qu : ∀ a, a < 2 → ∀ b, b < 2 → a ≠ b → (tt_Qu a).2.1 ≠ (tt_Qu b).2.1 := by decide +kernel
theorem ty_Qu_ok : ∀ k, k < 2 → parseFieldDescriptor (tt_Qu k).2.2.1 = some (ty_Qu k) := by decide +kernel
theorem i_Qu : ∀ w ∈ u_ws "LayoutTokens$Quotes" tt_Qu 2, w ∈ kw := kw_sub [231, 233] (by decide +kernel) (by decide +kernel)
def tt_Re : u_T := fun k => match k with
  | 0 => ("LayoutTokens$Reader", "source", "LLayoutTokens$Source;", true)
  | 1 => ("LayoutTokens$Reader", "lexemes", "LLayoutTokens$Lexemes;", true)
  | 2 => ("LayoutTokens$Reader", "comments", "LLayoutTokens$Comments;", true)
  | _ => ("LayoutTokens$Reader", "quotes", "LLayoutTokens$Quotes;", true)
def ty_Re : Nat → FieldType := fun k => match k with
  | 0 => .object "LayoutTokens$Source"
  | 1 => .object "LayoutTokens$Lexemes"
  | 2 => .object "LayoutTokens$Comments"
  | _ => .object "LayoutTokens$Quotes"
theorem nm_Re : ∀ a, a < 4 → ∀ b, b < 4 → a ≠ b → (tt_Re a).2.1 ≠ (tt_Re b).2.1 := by decide +kernel
theorem ty_Re_ok : ∀ k, k < 4 → parseFieldDescriptor (tt_Re k).2.2.1 = some (ty_Re k) := by decide +kernel
theorem i_Re : ∀ w ∈ u_ws "LayoutTokens$Reader" tt_Re 4, w ∈ kw := kw_sub [240, 242, 244, 246] (by decide +kernel) (by decide +kernel)
def tt_La : u_T := fun k => match k with
  | 0 => ("LayoutTokens$Laid", "source", "LLayoutTokens$Source;", true)
  | 1 => ("LayoutTokens$Laid", "lexemes", "[I", true)
  | 2 => ("LayoutTokens$Laid", "kinds", "[I", true)
  | 3 => ("LayoutTokens$Laid", "places", "[I", true)
  | 4 => ("LayoutTokens$Laid", "askedOnes", "[Z", true)
  | 5 => ("LayoutTokens$Laid", "count", "I", false)
  | 6 => ("LayoutTokens$Laid", "putInCount", "I", false)
  | 7 => ("LayoutTokens$Laid", "askedCount", "I", false)
  | 8 => ("LayoutTokens$Laid", "end", "I", false)
  | _ => ("LayoutTokens$Laid", "endLine", "I", false)
def ty_La : Nat → FieldType := fun k => match k with
  | 0 => .object "LayoutTokens$Source"
  | 1 => .array .int
  | 2 => .array .int
  | 3 => .array .int
  | 4 => .array .boolean
  | 5 => .int
  | 6 => .int
  | 7 => .int
  | 8 => .int
  | _ => .int
theorem nm_La : ∀ a, a < 10 → ∀ b, b < 10 → a ≠ b → (tt_La a).2.1 ≠ (tt_La b).2.1 := by decide +kernel
theorem ty_La_ok : ∀ k, k < 10 → parseFieldDescriptor (tt_La k).2.2.1 = some (ty_La k) := by decide +kernel
theorem i_La : ∀ w ∈ u_ws "LayoutTokens$Laid" tt_La 10, w ∈ kw := kw_sub [265, 267, 269, 271, 273, 275, 277, 279, 281, 283] (by decide +kernel) (by decide +kernel)
def tt_Ly : u_T := fun k => match k with
  | 0 => ("LayoutTokens$Layout", "source", "LLayoutTokens$Source;", true)
  | 1 => ("LayoutTokens$Layout", "lexemes", "LLayoutTokens$Lexemes;", true)
  | 2 => ("LayoutTokens$Layout", "laid", "LLayoutTokens$Laid;", true)
  | 3 => ("LayoutTokens$Layout", "itemSorts", "[I", true)
  | 4 => ("LayoutTokens$Layout", "itemColumns", "[I", true)
  | 5 => ("LayoutTokens$Layout", "itemLets", "[Z", true)
  | 6 => ("LayoutTokens$Layout", "depth", "I", false)
  | 7 => ("LayoutTokens$Layout", "place", "I", false)
  | 8 => ("LayoutTokens$Layout", "line", "I", false)
  | 9 => ("LayoutTokens$Layout", "column", "I", false)
  | 10 => ("LayoutTokens$Layout", "letBraceEnd", "I", false)
  | 11 => ("LayoutTokens$Layout", "letIsOver", "Z", false)
  | _ => ("LayoutTokens$Layout", "isFaulty", "Z", false)
def ty_Ly : Nat → FieldType := fun k => match k with
  | 0 => .object "LayoutTokens$Source"
  | 1 => .object "LayoutTokens$Lexemes"
  | 2 => .object "LayoutTokens$Laid"
  | 3 => .array .int
  | 4 => .array .int
  | 5 => .array .boolean
  | 6 => .int
  | 7 => .int
  | 8 => .int
  | 9 => .int
  | 10 => .int
  | 11 => .boolean
  | _ => .boolean
theorem nm_Ly : ∀ a, a < 13 → ∀ b, b < 13 → a ≠ b → (tt_Ly a).2.1 ≠ (tt_Ly b).2.1 := by decide +kernel
theorem ty_Ly_ok : ∀ k, k < 13 → parseFieldDescriptor (tt_Ly k).2.2.1 = some (ty_Ly k) := by decide +kernel
theorem i_Ly : ∀ w ∈ u_ws "LayoutTokens$Layout" tt_Ly 13, w ∈ kw := kw_sub [306, 308, 310, 312, 314, 316, 318, 320, 322, 324, 326, 328, 330] (by decide +kernel) (by decide +kernel)
def tt_Pr : u_T := fun k => match k with
  | 0 => ("LayoutTokens$Printer", "lexemes", "LLayoutTokens$Lexemes;", true)
  | 1 => ("LayoutTokens$Printer", "laid", "LLayoutTokens$Laid;", true)
  | 2 => ("LayoutTokens$Printer", "letters", "[I", true)
  | 3 => ("LayoutTokens$Printer", "count", "I", false)
  | 4 => ("LayoutTokens$Printer", "at", "I", false)
  | _ => ("LayoutTokens$Printer", "isMeasuring", "Z", false)
def ty_Pr : Nat → FieldType := fun k => match k with
  | 0 => .object "LayoutTokens$Lexemes"
  | 1 => .object "LayoutTokens$Laid"
  | 2 => .array .int
  | 3 => .int
  | 4 => .int
  | _ => .boolean
theorem nm_Pr : ∀ a, a < 6 → ∀ b, b < 6 → a ≠ b → (tt_Pr a).2.1 ≠ (tt_Pr b).2.1 := by decide +kernel
theorem ty_Pr_ok : ∀ k, k < 6 → parseFieldDescriptor (tt_Pr k).2.2.1 = some (ty_Pr k) := by decide +kernel
theorem i_Pr : ∀ w ∈ u_ws "LayoutTokens$Printer" tt_Pr 6, w ∈ kw := kw_sub [345, 347, 349, 351, 353, 355] (by decide +kernel) (by decide +kernel)
def tt_Lt : u_T := fun k => match k with
  | 0 => ("LayoutTokens", "source", "LLayoutTokens$Source;", true)
  | 1 => ("LayoutTokens", "literateLines", "LLayoutTokens$LiterateLines;", true)
  | 2 => ("LayoutTokens", "lexemes", "LLayoutTokens$Lexemes;", true)
  | 3 => ("LayoutTokens", "comments", "LLayoutTokens$Comments;", true)
  | 4 => ("LayoutTokens", "reader", "LLayoutTokens$Reader;", true)
  | 5 => ("LayoutTokens", "laid", "LLayoutTokens$Laid;", true)
  | 6 => ("LayoutTokens", "layout", "LLayoutTokens$Layout;", true)
  | 7 => ("LayoutTokens", "printer", "LLayoutTokens$Printer;", true)
  | _ => ("LayoutTokens", "isRead", "Z", false)
def ty_Lt : Nat → FieldType := fun k => match k with
  | 0 => .object "LayoutTokens$Source"
  | 1 => .object "LayoutTokens$LiterateLines"
  | 2 => .object "LayoutTokens$Lexemes"
  | 3 => .object "LayoutTokens$Comments"
  | 4 => .object "LayoutTokens$Reader"
  | 5 => .object "LayoutTokens$Laid"
  | 6 => .object "LayoutTokens$Layout"
  | 7 => .object "LayoutTokens$Printer"
  | _ => .boolean
theorem nm_Lt : ∀ a, a < 9 → ∀ b, b < 9 → a ≠ b → (tt_Lt a).2.1 ≠ (tt_Lt b).2.1 := by decide +kernel
theorem ty_Lt_ok : ∀ k, k < 9 → parseFieldDescriptor (tt_Lt k).2.2.1 = some (ty_Lt k) := by decide +kernel
theorem i_Lt : ∀ w ∈ u_ws "LayoutTokens" tt_Lt 9, w ∈ kw := kw_sub [367, 369, 371, 373, 375, 377, 379, 381, 383] (by decide +kernel) (by decide +kernel)
def tt_Mo : u_T := fun k => match k with
  | 0 => ("LayoutTokensModel", "thrown", "I", false)
  | 1 => ("LayoutTokensModel", "text", "[I", true)
  | 2 => ("LayoutTokensModel", "n", "I", false)
  | 3 => ("LayoutTokensModel", "eff", "[I", true)
  | 4 => ("LayoutTokensModel", "columnOf", "[I", true)
  | 5 => ("LayoutTokensModel", "lineOf", "[I", true)
  | 6 => ("LayoutTokensModel", "isRead", "Z", false)
  | 7 => ("LayoutTokensModel", "fault", "I", false)
  | 8 => ("LayoutTokensModel", "raws", "I", false)
  | 9 => ("LayoutTokensModel", "rawKind", "[I", true)
  | 10 => ("LayoutTokensModel", "rawPlace", "[I", true)
  | 11 => ("LayoutTokensModel", "rawSize", "[I", true)
  | 12 => ("LayoutTokensModel", "rawFrom", "[I", true)
  | 13 => ("LayoutTokensModel", "rawSigns", "[I", true)
  | 14 => ("LayoutTokensModel", "rawWord", "[I", true)
  | 15 => ("LayoutTokensModel", "signs", "[I", true)
  | 16 => ("LayoutTokensModel", "signCount", "I", false)
  | 17 => ("LayoutTokensModel", "comments", "I", false)
  | 18 => ("LayoutTokensModel", "commentAt", "[I", true)
  | 19 => ("LayoutTokensModel", "commentSize", "[I", true)
  | 20 => ("LayoutTokensModel", "isBlock", "[Z", true)
  | 21 => ("LayoutTokensModel", "deepest", "I", false)
  | 22 => ("LayoutTokensModel", "tokens", "I", false)
  | 23 => ("LayoutTokensModel", "tokenRaw", "[I", true)
  | 24 => ("LayoutTokensModel", "tokenKind", "[I", true)
  | 25 => ("LayoutTokensModel", "tokenPlace", "[I", true)
  | 26 => ("LayoutTokensModel", "tokenLine", "[I", true)
  | 27 => ("LayoutTokensModel", "tokenColumn", "[I", true)
  | 28 => ("LayoutTokensModel", "isAsked", "[Z", true)
  | 29 => ("LayoutTokensModel", "printed", "I", false)
  | 30 => ("LayoutTokensModel", "letters", "[I", true)
  | 31 => ("LayoutTokensModel", "made", "[I", true)
  | 32 => ("LayoutTokensModel", "making", "I", false)
  | 33 => ("LayoutTokensModel", "lineFirst", "[I", true)
  | 34 => ("LayoutTokensModel", "lineCode", "[Z", true)
  | 35 => ("LayoutTokensModel", "lineFull", "[Z", true)
  | 36 => ("LayoutTokensModel", "end", "I", false)
  | 37 => ("LayoutTokensModel", "kind", "I", false)
  | 38 => ("LayoutTokensModel", "code", "I", false)
  | 39 => ("LayoutTokensModel", "itemKind", "[I", true)
  | 40 => ("LayoutTokensModel", "itemColumn", "[I", true)
  | 41 => ("LayoutTokensModel", "itemLet", "[Z", true)
  | 42 => ("LayoutTokensModel", "items", "I", false)
  | 43 => ("LayoutTokensModel", "herePlace", "I", false)
  | 44 => ("LayoutTokensModel", "hereLine", "I", false)
  | 45 => ("LayoutTokensModel", "hereColumn", "I", false)
  | 46 => ("LayoutTokensModel", "letOver", "Z", false)
  | _ => ("LayoutTokensModel", "braceLet", "Z", false)
def ty_Mo : Nat → FieldType := fun k => match k with
  | 0 => .int
  | 1 => .array .int
  | 2 => .int
  | 3 => .array .int
  | 4 => .array .int
  | 5 => .array .int
  | 6 => .boolean
  | 7 => .int
  | 8 => .int
  | 9 => .array .int
  | 10 => .array .int
  | 11 => .array .int
  | 12 => .array .int
  | 13 => .array .int
  | 14 => .array .int
  | 15 => .array .int
  | 16 => .int
  | 17 => .int
  | 18 => .array .int
  | 19 => .array .int
  | 20 => .array .boolean
  | 21 => .int
  | 22 => .int
  | 23 => .array .int
  | 24 => .array .int
  | 25 => .array .int
  | 26 => .array .int
  | 27 => .array .int
  | 28 => .array .boolean
  | 29 => .int
  | 30 => .array .int
  | 31 => .array .int
  | 32 => .int
  | 33 => .array .int
  | 34 => .array .boolean
  | 35 => .array .boolean
  | 36 => .int
  | 37 => .int
  | 38 => .int
  | 39 => .array .int
  | 40 => .array .int
  | 41 => .array .boolean
  | 42 => .int
  | 43 => .int
  | 44 => .int
  | 45 => .int
  | 46 => .boolean
  | _ => .boolean
theorem nm_Mo : ∀ a, a < 48 → ∀ b, b < 48 → a ≠ b → (tt_Mo a).2.1 ≠ (tt_Mo b).2.1 := by decide +kernel
theorem ty_Mo_ok : ∀ k, k < 48 → parseFieldDescriptor (tt_Mo k).2.2.1 = some (ty_Mo k) := by decide +kernel
theorem i_Mo : ∀ w ∈ u_ws "LayoutTokensModel" tt_Mo 48, w ∈ kw := kw_sub [1036, 1038, 1040, 1042, 1044, 1046, 1048, 1050, 1052, 1054, 1056, 1058, 1060, 1062, 1064, 1066, 1068, 1070, 1072, 1074, 1076, 1078, 1080, 1082, 1084, 1086, 1088, 1090, 1092, 1094, 1096, 1098, 1100, 1102, 1104, 1106, 1108, 1110, 1112, 1114, 1116, 1118, 1120, 1122, 1124, 1126, 1128, 1130] (by decide +kernel) (by decide +kernel)
abbrev classes : List vw_C := [("LayoutTokens$Source", tt_So, 5), ("LayoutTokens$LiterateLines", tt_Li, 1), ("LayoutTokens$Lexemes", tt_Le, 11), ("LayoutTokens$Comments", tt_Co, 5), ("LayoutTokens$Quotes", tt_Qu, 2), ("LayoutTokens$Reader", tt_Re, 4), ("LayoutTokens$Laid", tt_La, 10), ("LayoutTokens$Layout", tt_Ly, 13), ("LayoutTokens$Printer", tt_Pr, 6), ("LayoutTokens", tt_Lt, 9), ("LayoutTokensModel", tt_Mo, 48)]
abbrev kT (aI aJ aZ : ClassId) : List (ClassId × FieldType) := [(aI, .int), (aJ, .long), (aZ, .boolean)]
abbrev kN : Cond := .methodLinkNest "LayoutTokens$LiterateLines" 29 ⟨"LayoutTokens", "faultAt", "(I)I"⟩ "LayoutTokens"
abbrev y_Lt_init : MethodName := ⟨"LayoutTokens", "<init>", "()V"⟩
abbrev y_Lt_asked : MethodName := ⟨"LayoutTokens", "asked", "(I)Z"⟩
abbrev y_Lt_back : MethodName := ⟨"LayoutTokens", "back", "()I"⟩
abbrev y_Lt_clear : MethodName := ⟨"LayoutTokens", "clear", "()I"⟩
abbrev y_Lt_column : MethodName := ⟨"LayoutTokens", "column", "(I)I"⟩
abbrev y_Lt_comment : MethodName := ⟨"LayoutTokens", "comment", "(II)I"⟩
abbrev y_Lt_faultAt : MethodName := ⟨"LayoutTokens", "faultAt", "(I)I"⟩
abbrev y_Lt_forget : MethodName := ⟨"LayoutTokens", "forget", "()V"⟩
abbrev y_Lt_letter : MethodName := ⟨"LayoutTokens", "letter", "(I)I"⟩
abbrev y_Lt_number : MethodName := ⟨"LayoutTokens", "number", "(I)J"⟩
abbrev y_Lt_octets : MethodName := ⟨"LayoutTokens", "octets", "(IJ)I"⟩
abbrev y_Lt_print : MethodName := ⟨"LayoutTokens", "print", "()I"⟩
abbrev y_Lt_read : MethodName := ⟨"LayoutTokens", "read", "(Z)I"⟩
abbrev y_Lt_sign : MethodName := ⟨"LayoutTokens", "sign", "(II)I"⟩
abbrev y_Lt_token : MethodName := ⟨"LayoutTokens", "token", "(II)I"⟩
abbrev y_Lt_told : MethodName := ⟨"LayoutTokens", "told", "(I)I"⟩
abbrev y_Co_init : MethodName := ⟨"LayoutTokens$Comments", "<init>", "()V"⟩
abbrev y_Co_count : MethodName := ⟨"LayoutTokens$Comments", "count", "()I"⟩
abbrev y_Co_deepest : MethodName := ⟨"LayoutTokens$Comments", "deepest", "()I"⟩
abbrev y_Co_empty : MethodName := ⟨"LayoutTokens$Comments", "empty", "()V"⟩
abbrev y_Co_tell : MethodName := ⟨"LayoutTokens$Comments", "tell", "(II)I"⟩
abbrev y_La_init : MethodName := ⟨"LayoutTokens$Laid", "<init>", "(LLayoutTokens$Source;)V"⟩
abbrev y_La_add : MethodName := ⟨"LayoutTokens$Laid", "add", "(IIIZ)Z"⟩
abbrev y_La_count : MethodName := ⟨"LayoutTokens$Laid", "count", "()I"⟩
abbrev y_La_countAsked : MethodName := ⟨"LayoutTokens$Laid", "countAsked", "()I"⟩
abbrev y_La_countPutIn : MethodName := ⟨"LayoutTokens$Laid", "countPutIn", "()I"⟩
abbrev y_La_empty : MethodName := ⟨"LayoutTokens$Laid", "empty", "()V"⟩
abbrev y_La_has : MethodName := ⟨"LayoutTokens$Laid", "has", "(I)Z"⟩
abbrev y_La_isAsked : MethodName := ⟨"LayoutTokens$Laid", "isAsked", "(I)Z"⟩
abbrev y_La_keepEnd : MethodName := ⟨"LayoutTokens$Laid", "keepEnd", "()V"⟩
abbrev y_La_lexemeOf : MethodName := ⟨"LayoutTokens$Laid", "lexemeOf", "(I)I"⟩
abbrev y_Ly_init : MethodName := ⟨"LayoutTokens$Layout", "<init>", "(LLayoutTokens$Source;LLayoutTokens$Lexemes;LLayoutTokens$Laid;)V"⟩
abbrev y_Ly_closeEmpty : MethodName := ⟨"LayoutTokens$Layout", "closeEmpty", "()V"⟩
abbrev y_Ly_finish : MethodName := ⟨"LayoutTokens$Layout", "finish", "()V"⟩
abbrev y_Ly_layAll : MethodName := ⟨"LayoutTokens$Layout", "layAll", "()I"⟩
abbrev y_Ly_putIn : MethodName := ⟨"LayoutTokens$Layout", "putIn", "(IZ)V"⟩
abbrev y_Ly_topColumn : MethodName := ⟨"LayoutTokens$Layout", "topColumn", "()I"⟩
abbrev y_Le_init : MethodName := ⟨"LayoutTokens$Lexemes", "<init>", "(LLayoutTokens$Source;)V"⟩
abbrev y_Le_count : MethodName := ⟨"LayoutTokens$Lexemes", "count", "()I"⟩
abbrev y_Le_empty : MethodName := ⟨"LayoutTokens$Lexemes", "empty", "()V"⟩
abbrev y_Le_has : MethodName := ⟨"LayoutTokens$Lexemes", "has", "(I)Z"⟩
abbrev y_Le_signOf : MethodName := ⟨"LayoutTokens$Lexemes", "signOf", "(II)I"⟩
abbrev y_Le_valueOf : MethodName := ⟨"LayoutTokens$Lexemes", "valueOf", "(I)J"⟩
abbrev y_Li_init : MethodName := ⟨"LayoutTokens$LiterateLines", "<init>", "(LLayoutTokens$Source;)V"⟩
abbrev y_Li_count : MethodName := ⟨"LayoutTokens$LiterateLines", "count", "()I"⟩
abbrev y_Pr_init : MethodName := ⟨"LayoutTokens$Printer", "<init>", "(LLayoutTokens$Lexemes;LLayoutTokens$Laid;)V"⟩
abbrev y_Pr_count : MethodName := ⟨"LayoutTokens$Printer", "count", "()I"⟩
abbrev y_Pr_letterAt : MethodName := ⟨"LayoutTokens$Printer", "letterAt", "(I)I"⟩
abbrev y_Qu_init : MethodName := ⟨"LayoutTokens$Quotes", "<init>", "(LLayoutTokens$Source;LLayoutTokens$Lexemes;)V"⟩
abbrev y_Re_init : MethodName := ⟨"LayoutTokens$Reader", "<init>", "(LLayoutTokens$Source;LLayoutTokens$Lexemes;LLayoutTokens$Comments;)V"⟩
abbrev y_Re_readAll : MethodName := ⟨"LayoutTokens$Reader", "readAll", "()I"⟩
abbrev y_So_init : MethodName := ⟨"LayoutTokens$Source", "<init>", "()V"⟩
abbrev y_So_append : MethodName := ⟨"LayoutTokens$Source", "append", "(I)V"⟩
abbrev y_So_columnAt : MethodName := ⟨"LayoutTokens$Source", "columnAt", "(I)I"⟩
abbrev y_So_columnBehind : MethodName := ⟨"LayoutTokens$Source", "columnBehind", "(II)I"⟩
abbrev y_So_countAll : MethodName := ⟨"LayoutTokens$Source", "countAll", "()I"⟩
abbrev y_So_empty : MethodName := ⟨"LayoutTokens$Source", "empty", "()V"⟩
abbrev y_So_has : MethodName := ⟨"LayoutTokens$Source", "has", "(I)Z"⟩
abbrev y_So_lastLine : MethodName := ⟨"LayoutTokens$Source", "lastLine", "()I"⟩
abbrev y_So_size : MethodName := ⟨"LayoutTokens$Source", "size", "()I"⟩
abbrev y_Mo_init : MethodName := ⟨"LayoutTokensModel", "<init>", "()V"⟩
abbrev y_Mo_addToken : MethodName := ⟨"LayoutTokensModel", "addToken", "(IIZ)V"⟩
abbrev y_Mo_asked : MethodName := ⟨"LayoutTokensModel", "asked", "(I)Z"⟩
abbrev y_Mo_back : MethodName := ⟨"LayoutTokensModel", "back", "()I"⟩
abbrev y_Mo_clear : MethodName := ⟨"LayoutTokensModel", "clear", "()I"⟩
abbrev y_Mo_column : MethodName := ⟨"LayoutTokensModel", "column", "(I)I"⟩
abbrev y_Mo_comment : MethodName := ⟨"LayoutTokensModel", "comment", "(II)I"⟩
abbrev y_Mo_isTop : MethodName := ⟨"LayoutTokensModel", "isTop", "(II)Z"⟩
abbrev y_Mo_layLines : MethodName := ⟨"LayoutTokensModel", "layLines", "()V"⟩
abbrev y_Mo_layout : MethodName := ⟨"LayoutTokensModel", "layout", "()V"⟩
abbrev y_Mo_letter : MethodName := ⟨"LayoutTokensModel", "letter", "(I)I"⟩
abbrev y_Mo_literate : MethodName := ⟨"LayoutTokensModel", "literate", "()V"⟩
abbrev y_Mo_noToken : MethodName := ⟨"LayoutTokensModel", "noToken", "(I)Z"⟩
abbrev y_Mo_number : MethodName := ⟨"LayoutTokensModel", "number", "(I)J"⟩
abbrev y_Mo_octets : MethodName := ⟨"LayoutTokensModel", "octets", "(IJ)I"⟩
abbrev y_Mo_print : MethodName := ⟨"LayoutTokensModel", "print", "()I"⟩
abbrev y_Mo_putIn : MethodName := ⟨"LayoutTokensModel", "putIn", "(I)V"⟩
abbrev y_Mo_read : MethodName := ⟨"LayoutTokensModel", "read", "(Z)I"⟩
abbrev y_Mo_readAll : MethodName := ⟨"LayoutTokensModel", "readAll", "()V"⟩
abbrev y_Mo_room : MethodName := ⟨"LayoutTokensModel", "room", "()V"⟩
abbrev y_Mo_sign : MethodName := ⟨"LayoutTokensModel", "sign", "(II)I"⟩
abbrev y_Mo_stop : MethodName := ⟨"LayoutTokensModel", "stop", "(I)V"⟩
abbrev y_Mo_token : MethodName := ⟨"LayoutTokensModel", "token", "(II)I"⟩
abbrev y_Mo_told : MethodName := ⟨"LayoutTokensModel", "told", "(I)I"⟩
abbrev y_Mo_unread : MethodName := ⟨"LayoutTokensModel", "unread", "()V"⟩
theorem kz_0 : (0 : Int32).toInt = 0 := by decide
theorem kz_1 : (1 : Int32).toInt = 1 := by decide
theorem kz_2 : (2 : Int32).toInt = 2 := by decide
theorem kz_3 : (3 : Int32).toInt = 3 := by decide
theorem kz_4 : (4 : Int32).toInt = 4 := by decide
theorem kz_5 : (5 : Int32).toInt = 5 := by decide
theorem kz_6 : (6 : Int32).toInt = 6 := by decide
theorem kz_7 : (7 : Int32).toInt = 7 := by decide
theorem kz_8 : (8 : Int32).toInt = 8 := by decide
theorem kz_600 : (600 : Int32).toInt = 600 := by decide
/-! ===== what octets and told answer on a new object ===== -/
def koct (n : Int32) : Int32 := if n < 1 ∨ 8 < n then -1 else n
theorem koct_lo {n : Int32} (h : n < 1) : (-1) = koct n := by unfold koct; rw [if_pos (Or.inl h)]
theorem koct_hi {n : Int32} (h : 8 < n) : (-1) = koct n := by unfold koct; rw [if_pos (Or.inr h)]
theorem koct_in {n k : Int32} (h1 : ¬ n < 1) (h2 : ¬ 8 < n) (h : k = n) : k = koct n := by unfold koct; rw [if_neg (fun q => q.elim h1 h2)]; exact h
def ktold (n : Int32) : Int32 := if n.toInt < 0 ∨ 6 < n.toInt then -1 else 0
theorem ktold_out {n : Int32} (h : n.toInt < 0 ∨ 6 < n.toInt) : (-1) = ktold n := by unfold ktold; rw [if_pos h]
theorem ktold_in {n r : Int32} (h : ¬ (n.toInt < 0 ∨ 6 < n.toInt)) (hr : r = 0) : r = ktold n := by unfold ktold; rw [if_neg h]; exact hr
theorem ksw_7 {x : Int32} (h : ¬ (x.toInt < 0 ∨ 6 < x.toInt)) : x = 0 ∨ x = 1 ∨ x = 2 ∨ x = 3 ∨ x = 4 ∨ x = 5 ∨ x = 6 := by
  have h1 : x.toInt = 0 ∨ x.toInt = 1 ∨ x.toInt = 2 ∨ x.toInt = 3 ∨ x.toInt = 4 ∨ x.toInt = 5 ∨ x.toInt = 6 := by omega
  rcases h1 with h1 | h1 | h1 | h1 | h1 | h1 | h1
  · exact Or.inl (Int32.toInt_inj.mp h1)
  · exact Or.inr (Or.inl (Int32.toInt_inj.mp h1))
  · exact Or.inr (Or.inr (Or.inl (Int32.toInt_inj.mp h1)))
  · exact Or.inr (Or.inr (Or.inr (Or.inl (Int32.toInt_inj.mp h1))))
  · exact Or.inr (Or.inr (Or.inr (Or.inr (Or.inl (Int32.toInt_inj.mp h1)))))
  · exact Or.inr (Or.inr (Or.inr (Or.inr (Or.inr (Or.inl (Int32.toInt_inj.mp h1))))))
  · exact Or.inr (Or.inr (Or.inr (Or.inr (Or.inr (Or.inr ((Int32.toInt_inj.mp h1)))))))
theorem ksw_13 {x : Int32} (h : ¬ (x.toInt < 0 ∨ 12 < x.toInt)) : x = 0 ∨ x = 1 ∨ x = 2 ∨ x = 3 ∨ x = 4 ∨ x = 5 ∨ x = 6 ∨ x = 7 ∨ x = 8 ∨ x = 9 ∨ x = 10 ∨ x = 11 ∨ x = 12 := by
  have h1 : x.toInt = 0 ∨ x.toInt = 1 ∨ x.toInt = 2 ∨ x.toInt = 3 ∨ x.toInt = 4 ∨ x.toInt = 5 ∨ x.toInt = 6 ∨ x.toInt = 7 ∨ x.toInt = 8 ∨ x.toInt = 9 ∨ x.toInt = 10 ∨ x.toInt = 11 ∨ x.toInt = 12 := by omega
  rcases h1 with h1 | h1 | h1 | h1 | h1 | h1 | h1 | h1 | h1 | h1 | h1 | h1 | h1
  · exact Or.inl (Int32.toInt_inj.mp h1)
  · exact Or.inr (Or.inl (Int32.toInt_inj.mp h1))
  · exact Or.inr (Or.inr (Or.inl (Int32.toInt_inj.mp h1)))
  · exact Or.inr (Or.inr (Or.inr (Or.inl (Int32.toInt_inj.mp h1))))
  · exact Or.inr (Or.inr (Or.inr (Or.inr (Or.inl (Int32.toInt_inj.mp h1)))))
  · exact Or.inr (Or.inr (Or.inr (Or.inr (Or.inr (Or.inl (Int32.toInt_inj.mp h1))))))
  · exact Or.inr (Or.inr (Or.inr (Or.inr (Or.inr (Or.inr (Or.inl (Int32.toInt_inj.mp h1)))))))
  · exact Or.inr (Or.inr (Or.inr (Or.inr (Or.inr (Or.inr (Or.inr (Or.inl (Int32.toInt_inj.mp h1))))))))
  · exact Or.inr (Or.inr (Or.inr (Or.inr (Or.inr (Or.inr (Or.inr (Or.inr (Or.inl (Int32.toInt_inj.mp h1)))))))))
  · exact Or.inr (Or.inr (Or.inr (Or.inr (Or.inr (Or.inr (Or.inr (Or.inr (Or.inr (Or.inl (Int32.toInt_inj.mp h1))))))))))
  · exact Or.inr (Or.inr (Or.inr (Or.inr (Or.inr (Or.inr (Or.inr (Or.inr (Or.inr (Or.inr (Or.inl (Int32.toInt_inj.mp h1)))))))))))
  · exact Or.inr (Or.inr (Or.inr (Or.inr (Or.inr (Or.inr (Or.inr (Or.inr (Or.inr (Or.inr (Or.inr (Or.inl (Int32.toInt_inj.mp h1))))))))))))
  · exact Or.inr (Or.inr (Or.inr (Or.inr (Or.inr (Or.inr (Or.inr (Or.inr (Or.inr (Or.inr (Or.inr (Or.inr ((Int32.toInt_inj.mp h1)))))))))))))
end
section
/-! ===== a method's world, before and behind; a walk's context ===== -/
def kPre (D : va_G) (T : List (ClassId × FieldType)) (ws : va_W) (sz : Nat) (U : State) : Prop := U.heap.size = sz ∧ va_P D classes ws U.heap ∧ va_K D classes T U ∧ va_D (fun _ => True) ws ∧ va_Nw kN U
def kB (D : va_G) (A : Nat → Prop) (ws : va_W) (t : State) : Prop := va_P D classes ws t.heap ∧ va_D A ws
theorem kBlind {D : va_G} {T : List (ClassId × FieldType)} {ws : va_W} {sz : Nat} {av : List Value} : FrameBlind (va_Pc av (kPre D T ws sz)) := fun a U g mk q => by
  obtain ⟨q0, q1, qP, qK, qD, qN⟩ := q
  exact ⟨q0, q1, qP, va_K.moved (u := U) (U := U.calling g mk a) (Vm.Alike.refl U.vm) qK, qD, va_Nw.same (u := U) (U := U.calling g mk a) rfl rfl qN⟩
abbrev kX (p : Program) (s : State) (m : MethodId) (args : Array Value) (c : Code) (cc : ByteArray) (nL : Nat) (own : String) (D : va_G) (T : List (ClassId × FieldType)) : Prop := CallFix p m c cc nL s args kw own ∧ va_K D classes T s ∧ va_Nw kN s
section KB
variable {p : Program} {l : Launch} {e : Env} {R : Room} {s : State} {m : MethodId} {args : Array Value} {below : List Frame} {meth : Method} {c : Code} {H : Heap} {locs : List Loc} {cells slots : Nat} {Q : State → Prop}
variable {cc : ByteArray} {pc : Nat} {ls : Array Slot} {rest st0 : List Value} {D : va_G} {A : Nat → Prop} {a : Nat} {T : List (ClassId × FieldType)} {ws : va_W} {H0 : Heap} {own : String} {nL : Nat}
theorem kget (X : kX p s m args c cc nL own D T) (hP : va_P D classes ws H) (q0 : Nat) {ci : Nat} {fs : List Value} (he : ws[q0]? = some (a, .inr (ci, fs))) {C : String} {TT : u_T} {N : Nat} (hc : classes[ci]? = some (C, TT, N)) (hin : ∀ w ∈ u_ws C TT N, w ∈ kw) (k : Nat) (hk : k < N) {index : Nat} {nm ds : String} (hlink : Cond.fieldLink own index C nm ds ∈ kw) (hcc : TT k = (C, nm, ds, (TT k).2.2.2)) {v : Value} (hv : fs[k]? = some v) (hdg : decode cc pc = .ok (.getfield index, 3))
    (kk : W p l e R s m args below meth c H locs cells slots Q (F0 m (pc + 3) ls (v :: rest))) : W p l e R s m args below meth c H locs cells slots Q (F0 m pc ls (.ref a :: rest)) := by
  obtain ⟨⟨hx, hb, -, hown, hts⟩, hK, -⟩ := X
  have e1 : (TT k).1 = C := congrArg (fun q => q.1) hcc
  have e2 : (TT k).2.1 = nm := congrArg (fun q => q.2.1) hcc
  have e3 : (TT k).2.2.1 = ds := congrArg (fun q => q.2.2.1) hcc
  refine va_get (ref := C) hx hb hts hin hown hK hP q0 he hc k hk (hts _ (by rw [e2, e3]; exact hlink)) (fun x h => by rw [e1] at h; exact h) hv hdg kk
theorem kput (X : kX p s m args c cc nL own D T) (hP : va_P D classes ws H) (hD : va_D A ws) (hS : va_S A H0 H locs) (q0 : Nat) {ci : Nat} {fs : List Value} (he : ws[q0]? = some (a, .inr (ci, fs))) {C : String} {TT : u_T} {N : Nat} (hc : classes[ci]? = some (C, TT, N)) (hin : ∀ w ∈ u_ws C TT N, w ∈ kw) (ty0 : Nat → FieldType) (hty : ∀ k, k < N → parseFieldDescriptor (TT k).2.2.1 = some (ty0 k)) (hnm : ∀ a, a < N → ∀ b, b < N → a ≠ b → (TT a).2.1 ≠ (TT b).2.1) (k : Nat) (hk : k < N) {index : Nat} {nm ds : String} (hlink : Cond.fieldLink own index C nm ds ∈ kw) (hcc : TT k = (C, nm, ds, false)) {v : Value} (hn : narrow (ty0 k) v = v) (hfit : fits (ty0 k) v = true) (hl : k < fs.length) (hdg : decode cc pc = .ok (.putfield index, 3))
    (kk : ∀ (H1 : Heap) (locs1 : List Loc), va_P D classes (ws.set q0 (a, .inr (ci, fs.set k v))) H1 → va_D A (ws.set q0 (a, .inr (ci, fs.set k v))) → va_S A H0 H1 locs1 → W p l e R s m args below meth c H1 locs1 cells slots Q (F0 m (pc + 3) ls rest)) : W p l e R s m args below meth c H locs cells slots Q (F0 m pc ls (v :: .ref a :: rest)) := by
  obtain ⟨⟨hx, hb, -, hown, hts⟩, hK, -⟩ := X
  have e1 : (TT k).1 = C := congrArg (fun q => q.1) hcc
  have e2 : (TT k).2.1 = nm := congrArg (fun q => q.2.1) hcc
  have e3 : (TT k).2.2.1 = ds := congrArg (fun q => q.2.2.1) hcc
  have e4 : (TT k).2.2.2 = false := congrArg (fun q => q.2.2.2) hcc
  exact va_put (ref := C) hx hb hts hin ty0 hty hnm hown hK hP hD hS q0 he hc k hk (hts _ (by rw [e2, e3]; exact hlink)) (fun x h => by rw [e1] at h; exact h) e4 (hty k hk) hn hfit hl hdg kk
theorem kputF (X : kX p s m args c cc nL own D T) (hP : va_P D classes ws H) (hD : va_D A ws) (hS : va_S A H0 H locs) (q0 : Nat) {ci : Nat} {fs : List Value} (he : ws[q0]? = some (a, .inr (ci, fs))) {TT : u_T} {N : Nat} (hc : classes[ci]? = some (own, TT, N)) (hin : ∀ w ∈ u_ws own TT N, w ∈ kw) (ty0 : Nat → FieldType) (hty : ∀ k, k < N → parseFieldDescriptor (TT k).2.2.1 = some (ty0 k)) (hnm : ∀ a, a < N → ∀ b, b < N → a ≠ b → (TT a).2.1 ≠ (TT b).2.1) (hini : meth.name = "<init>") (k : Nat) (hk : k < N) {index : Nat} {nm ds : String} (hlink : Cond.fieldLink own index own nm ds ∈ kw) (hcc : TT k = (own, nm, ds, true)) {v : Value} (hn : narrow (ty0 k) v = v) (hfit : fits (ty0 k) v = true) (hl : k < fs.length) (hdg : decode cc pc = .ok (.putfield index, 3))
    (kk : ∀ (H1 : Heap) (locs1 : List Loc), va_P D classes (ws.set q0 (a, .inr (ci, fs.set k v))) H1 → va_D A (ws.set q0 (a, .inr (ci, fs.set k v))) → va_S A H0 H1 locs1 → W p l e R s m args below meth c H1 locs1 cells slots Q (F0 m (pc + 3) ls rest)) : W p l e R s m args below meth c H locs cells slots Q (F0 m pc ls (v :: .ref a :: rest)) := by
  obtain ⟨⟨hx, hb, -, hown, hts⟩, hK, -⟩ := X
  have e1 : (TT k).1 = own := congrArg (fun q => q.1) hcc
  have e2 : (TT k).2.1 = nm := congrArg (fun q => q.2.1) hcc
  have e3 : (TT k).2.2.1 = ds := congrArg (fun q => q.2.2.1) hcc
  have e4 : (TT k).2.2.2 = true := congrArg (fun q => q.2.2.2) hcc
  exact va_putF (ref := own) hx hb hts hin ty0 hty hnm hown hK hP hD hS q0 he hc k hk (hts _ (by rw [e2, e3]; exact hlink)) (fun x h => by rw [e1] at h; exact h) e4 hini e1 (hty k hk) hn hfit hl hdg kk
theorem knew (X : kX p s m args c cc nL own D T) (hP : va_P D classes ws H) (hD : va_D A ws) (hS : va_S A H0 H locs) (hA : ∀ q, H0.size ≤ q → A q) {ci : Nat} {C : String} {TT : u_T} {N : Nat} (hc : classes[ci]? = some (C, TT, N)) (hin : ∀ w ∈ u_ws C TT N, w ∈ kw) (ty0 : Nat → FieldType) (hty : ∀ k, k < N → parseFieldDescriptor (TT k).2.2.1 = some (ty0 k)) {index : Nat} (h1 : Cond.classLink own index C ∈ kw) (h2 : Cond.instantiable C N ∈ kw) (h3 : Cond.initialized C ∈ kw) {fs : List Value} (hfs : (List.range N).map (fun j => defaultValue (ty0 j)) = fs) (hcells : cells + 1 ≤ R.cells) (hslots : slots + N ≤ R.slots) (hdg : decode cc pc = .ok (.new index, 3))
    (kk : ∀ (q : Nat) (H1 : Heap), va_P D classes (ws ++ [(q, .inr (ci, fs))]) H1 → va_D A (ws ++ [(q, .inr (ci, fs))]) → va_S A H0 H1 locs → W p l e R s m args below meth c H1 locs (cells + 1) (slots + N) Q (F0 m (pc + 3) ls (.ref q :: rest))) : W p l e R s m args below meth c H locs cells slots Q (F0 m pc ls rest) := by
  obtain ⟨⟨hx, hb, -, hown, hts⟩, hK, -⟩ := X
  refine va_new hx hb hts hin ty0 hty hown (hts _ h1) (hts _ h2) (hts _ h3) hK hP hD hS hA hc (fun j hj => ?_) hcells hslots hdg kk
  rw [← hfs]
  simp [vp_V, List.getD, hj]
/-- a new array of a class that the world knows -/
theorem knewa (X : kX p s m args c cc nL own D T) (hP : va_P D classes ws H) (hD : va_D A ws) (hS : va_S A H0 H locs) (hA : ∀ q, H0.size ≤ q → A q) {atype : ArrayType} {ty : FieldType} (hw : Cond.arrayClass ty ∈ kw) (hty : newarray.typeOf atype = ty) (t0 : Nat) {cA : ClassId} (ht : T[t0]? = some (cA, ty)) {n : Int32} {N' : Nat} {a0 : vp_A} (ha : ∀ cA : ClassId, vp_cell cA a0 = arrV cA N' (fun _ => defaultValue ty)) (hn : ¬ n < 0) (hN : n.toNatClampNeg = N') (hbytes : N' * componentBytes ty ≤ 536870912) (hcells : cells + 1 ≤ R.cells) (hslots : slots + N' ≤ R.slots) (hdg : decode cc pc = .ok (.newarray atype, 2))
    (kk : ∀ (q : Nat) (H1 : Heap), va_P D classes (ws ++ [(q, .inl (cA, a0))]) H1 → va_D A (ws ++ [(q, .inl (cA, a0))]) → va_S A H0 H1 locs → W p l e R s m args below meth c H1 locs (cells + 1) (slots + N') Q (F0 m (pc + 2) ls (.ref q :: rest))) : W p l e R s m args below meth c H locs cells slots Q (F0 m pc ls (.int n :: rest)) := by
  obtain ⟨⟨hx, hb, -, hown, hts⟩, hK, -⟩ := X
  have hRA := (hK.2 t0 _ ht).2
  subst hty
  refine va_newaK hx hb (hts _ hw) rfl hdg rfl hn hN hbytes hcells hslots rfl fun H1 cB e1 z1 o1 hAr hNm => ?_
  have hcc : cB = cA := by
    have hRA' : s.vm.findClass ("[" ++ (newarray.typeOf atype).toString) = some cA := by cases atype <;> exact hRA
    exact Option.some.inj (hNm.symm.trans hRA')
  subst hcc
  have hk : ∀ (k : Nat) (x : Nat × va_E), ws[k]? = some x → H1[x.1]? = H[x.1]? := fun k x hx => o1 x.1 ((hP k x hx).lt)
  refine kk H.size H1 ((hP.kept hk).app (fun k x hx => ?_)) (hD.push hP rfl (hA _ hS.1)) ⟨Nat.le_trans hS.1 (by omega), fun x h1 h2 => (o1 x (Nat.lt_of_lt_of_le h1 hS.1)).trans (hS.2.1 x h1 h2), hS.2.2⟩
  have hz : k < 1 := (List.getElem?_eq_some_iff.mp hx).1
  rw [show k = 0 by omega] at hx
  cases hx
  show H1[H.size]? = some (vp_cell _ _)
  rw [ha]
  exact e1
theorem kiald (X : kX p s m args c cc nL own D T) (hP : va_P D classes ws H) (q0 t0 : Nat) {cA : ClassId} {n : Nat} {f : Nat → Int32} (ha : ws[q0]? = some (a, .inl (cA, n, .inl f))) (ht : T[t0]? = some (cA, .int)) {i : Int32} (hin : vp_in i n) (hdg : decode cc pc = .ok (.iaload, 1))
    (kk : ∀ x : Int32, W p l e R s m args below meth c H locs cells slots Q (F0 m (pc + 1) ls (.int x :: rest))) : W p l e R s m args below meth c H locs cells slots Q (F0 m pc ls (.int i :: .ref a :: rest)) :=
  va_iald X.1.1 X.1.2.1 X.2.1 hP q0 t0 ha ht hin hdg (kk _)
theorem kiast (X : kX p s m args c cc nL own D T) (hP : va_P D classes ws H) (hD : va_D A ws) (hS : va_S A H0 H locs) (q0 t0 : Nat) {cA : ClassId} {n : Nat} {f : Nat → Int32} (ha : ws[q0]? = some (a, .inl (cA, n, .inl f))) (ht : T[t0]? = some (cA, .int)) {i : Int32} {x : Int32} (hin : vp_in i n) (hdg : decode cc pc = .ok (.iastore, 1))
    (kk : ∀ (f' : Nat → Int32) (H1 : Heap) (locs1 : List Loc), va_P D classes (ws.set q0 (a, .inl (cA, n, .inl f'))) H1 → va_D A (ws.set q0 (a, .inl (cA, n, .inl f'))) → va_S A H0 H1 locs1 → W p l e R s m args below meth c H1 locs1 cells slots Q (F0 m (pc + 1) ls rest)) : W p l e R s m args below meth c H locs cells slots Q (F0 m pc ls (.int x :: .int i :: .ref a :: rest)) :=
  va_iast X.1.1 X.1.2.1 X.2.1 hP hD hS q0 t0 ha ht hin hdg (kk _)
theorem kzast (X : kX p s m args c cc nL own D T) (hP : va_P D classes ws H) (hD : va_D A ws) (hS : va_S A H0 H locs) (q0 t0 : Nat) {cA : ClassId} {n : Nat} {f : Nat → Int32} (ha : ws[q0]? = some (a, .inl (cA, n, .inl f))) (ht : T[t0]? = some (cA, .boolean)) {i : Int32} {x : Int32} (hin : vp_in i n) (hdg : decode cc pc = .ok (.bastore, 1))
    (kk : ∀ (f' : Nat → Int32) (H1 : Heap) (locs1 : List Loc), va_P D classes (ws.set q0 (a, .inl (cA, n, .inl f'))) H1 → va_D A (ws.set q0 (a, .inl (cA, n, .inl f'))) → va_S A H0 H1 locs1 → W p l e R s m args below meth c H1 locs1 cells slots Q (F0 m (pc + 1) ls rest)) : W p l e R s m args below meth c H locs cells slots Q (F0 m pc ls (.int x :: .int i :: .ref a :: rest)) :=
  va_zast X.1.1 X.1.2.1 X.2.1 hP hD hS q0 t0 ha ht hin hdg (kk _)
/-- Object's constructor -/
theorem kobj (X : kX p s m args c cc nL own D T) {idx : Nat} (h1 : Cond.methodLink own idx objectInit ∈ kw) (h2 : Cond.instanceMethod objectInit ∈ kw) (h3 : Cond.code objectInit ⟨#[0xb1]⟩ 1 none ∈ kw) (hl : ls.size = nL) (hdg : decode cc pc = .ok (.invokespecial idx, 3)) (hfr : 1 ≤ R.frames) (hlo : (rest.map fun v => v.category).sum + 12 ≤ R.locals)
    (kk : W p l e R s m args below meth c H locs cells slots Q (F0 m (pc + 3) ls rest)) : W p l e R s m args below meth c H locs cells slots Q (F0 m pc ls (.ref a :: rest)) := by
  obtain ⟨⟨hx, hb, hml, hown, hts⟩, hK, -⟩ := X
  exact W.objInit (g := F0 m pc ls (.ref a :: rest)) hx hb hown (hts _ h1) (hts _ h2) (hts _ h3) rfl (by rw [hml]; exact hl) rfl hdg hfr (by simpa [Jvm.JFrame.monitorRoom] using hlo) kk
/-! ===== calls: the callee's cells are cut out, its contract is used, what comes back stands behind the rest ===== -/
variable {y : MethodName} {bytes : ByteArray} {maxL mc ms n index : Nat} {ret : Option FieldType} {rm : Room} {C : String} {b : Nat} {As : List Value} {wc wr : va_W} {S : Type} {w1 : S → va_W}
theorem kVi {post : Int32 → S → Prop} (X : kX p s m args c cc nL own D T) (hP : va_P D classes ws H) (hD : va_D A ws) (hS : va_S A H0 H locs) (hA : ∀ q, H0.size ≤ q → A q)
    (hM : Met l y (kq y bytes maxL ret) rm (va_Pc (.ref b :: As) (kPre D T wc H.size)) (va_Qi post (fun u => kB D (va_A wc H.size) (w1 u)) (va_A wc H.size)) mc ms (va_A wc H.size))
    (gW : GoodIn kw (wsV own index C y (kq y bytes maxL ret))) (hrc : rm.cells = mc) (hrs : rm.slots = ms) (hd : y.cls = C ∧ y.cls ≠ "java/lang/invoke/MethodHandle" ∧ y.cls ≠ "java/lang/invoke/VarHandle" ∧ (parseMethodDescriptor y.desc).map (fun d => d.parameters.length) = some n)
    (hR : rm.frames + 1 ≤ R.frames ∧ 8 + (maxL + 11) + rm.locals ≤ R.locals) (hl : ls.size = nL) (hn : As.length = n) (hst : st0 = As.reverse ++ .ref b :: rest) (hW : (rest.map fun v => v.category).sum ≤ 8) (hdg : decode cc pc = .ok (.invokevirtual index, 3)) (hf : cells + mc ≤ R.cells ∧ slots + ms ≤ R.slots)
    (isC isR : List Nat) (hC : isC.map (fun i => ws[i]?) = wc.map some) (hRr : isR.map (fun i => ws[i]?) = wr.map some) (hnC : va_nd isC = true) (hnR : va_nd isR = true) (hdis : ∀ i ∈ isR, i ∉ isC) (q0 : Nat) {ci : Nat} {fs : List Value} (he : wc[q0]? = some (b, .inr (ci, fs))) {TT : u_T} {N : Nat} (hci : classes[ci]? = some (C, TT, N))
    (kk : ∀ (r : Int32) (u : S) (H1 : Heap) (locs1 : List Loc), post r u → va_P D classes (wr ++ w1 u) H1 → va_D A (wr ++ w1 u) → va_S A H0 H1 locs1 → W p l e R s m args below meth c H1 locs1 (cells + mc) (slots + ms) Q (F0 m (pc + 3) ls (.int r :: rest))) : W p l e R s m args below meth c H locs cells slots Q (F0 m pc ls st0) := by
  obtain ⟨F, hK, hN⟩ := X
  have hPc : va_P D classes wc H := fun k q hk => by
    have h1 : (isC.map (fun i => ws[i]?))[k]? = some (some q) := by rw [hC, List.getElem?_map, hk]; rfl
    rw [List.getElem?_map] at h1
    cases hi : isC[k]? with
    | none => rw [hi] at h1; cases h1
    | some i => rw [hi] at h1; exact hP i q (Option.some.inj h1)
  have hDc : va_D A wc := hD.sub isC hnC hC
  have hFc := va_free (wc := wc) hD hS hA isC hC
  refine va_calli (va_runV (As := As) (rest := rest) F hM (cwV n F.2.2.2.2 gW rfl hrc hrs hd hR) ⟨kBlind, va_recv hK hPc hci he, fun U hU hW => ⟨rfl, by rw [hU], by rw [hU]; exact hPc, va_K.moved hW.alike hK, hDc.weaken (fun _ _ _ _ => trivial), va_Nw.warmM hW hN⟩⟩ rfl hn hl hst (lv_room hW) hdg hf) hS (fun q _ h => hFc q h) hFc (fun r u t H1 locs1 ht hvm hw hB hz1 hk1 hS1 => ?_)
  obtain ⟨hP1, hD1⟩ := hB
  rw [ht] at hP1
  obtain ⟨hP2, hD2⟩ := va_join (wr := wr) (w1 := w1 u) hP hD isC isR hC hRr hnR hdis hk1 hFc hP1 hD1
  exact kk r u H1 locs1 hw hP2 hD2 hS1
theorem kVl {post : Int64 → S → Prop} (X : kX p s m args c cc nL own D T) (hP : va_P D classes ws H) (hD : va_D A ws) (hS : va_S A H0 H locs) (hA : ∀ q, H0.size ≤ q → A q)
    (hM : Met l y (kq y bytes maxL ret) rm (va_Pc (.ref b :: As) (kPre D T wc H.size)) (va_Ql post (fun u => kB D (va_A wc H.size) (w1 u)) (va_A wc H.size)) mc ms (va_A wc H.size))
    (gW : GoodIn kw (wsV own index C y (kq y bytes maxL ret))) (hrc : rm.cells = mc) (hrs : rm.slots = ms) (hd : y.cls = C ∧ y.cls ≠ "java/lang/invoke/MethodHandle" ∧ y.cls ≠ "java/lang/invoke/VarHandle" ∧ (parseMethodDescriptor y.desc).map (fun d => d.parameters.length) = some n)
    (hR : rm.frames + 1 ≤ R.frames ∧ 8 + (maxL + 11) + rm.locals ≤ R.locals) (hl : ls.size = nL) (hn : As.length = n) (hst : st0 = As.reverse ++ .ref b :: rest) (hW : (rest.map fun v => v.category).sum ≤ 8) (hdg : decode cc pc = .ok (.invokevirtual index, 3)) (hf : cells + mc ≤ R.cells ∧ slots + ms ≤ R.slots)
    (isC isR : List Nat) (hC : isC.map (fun i => ws[i]?) = wc.map some) (hRr : isR.map (fun i => ws[i]?) = wr.map some) (hnC : va_nd isC = true) (hnR : va_nd isR = true) (hdis : ∀ i ∈ isR, i ∉ isC) (q0 : Nat) {ci : Nat} {fs : List Value} (he : wc[q0]? = some (b, .inr (ci, fs))) {TT : u_T} {N : Nat} (hci : classes[ci]? = some (C, TT, N))
    (kk : ∀ (r : Int64) (u : S) (H1 : Heap) (locs1 : List Loc), post r u → va_P D classes (wr ++ w1 u) H1 → va_D A (wr ++ w1 u) → va_S A H0 H1 locs1 → W p l e R s m args below meth c H1 locs1 (cells + mc) (slots + ms) Q (F0 m (pc + 3) ls (.long r :: rest))) : W p l e R s m args below meth c H locs cells slots Q (F0 m pc ls st0) := by
  obtain ⟨F, hK, hN⟩ := X
  have hPc : va_P D classes wc H := fun k q hk => by
    have h1 : (isC.map (fun i => ws[i]?))[k]? = some (some q) := by rw [hC, List.getElem?_map, hk]; rfl
    rw [List.getElem?_map] at h1
    cases hi : isC[k]? with
    | none => rw [hi] at h1; cases h1
    | some i => rw [hi] at h1; exact hP i q (Option.some.inj h1)
  have hDc : va_D A wc := hD.sub isC hnC hC
  have hFc := va_free (wc := wc) hD hS hA isC hC
  refine va_calll (va_runV (As := As) (rest := rest) F hM (cwV n F.2.2.2.2 gW rfl hrc hrs hd hR) ⟨kBlind, va_recv hK hPc hci he, fun U hU hW => ⟨rfl, by rw [hU], by rw [hU]; exact hPc, va_K.moved hW.alike hK, hDc.weaken (fun _ _ _ _ => trivial), va_Nw.warmM hW hN⟩⟩ rfl hn hl hst (lv_room hW) hdg hf) hS (fun q _ h => hFc q h) hFc (fun r u t H1 locs1 ht hvm hw hB hz1 hk1 hS1 => ?_)
  obtain ⟨hP1, hD1⟩ := hB
  rw [ht] at hP1
  obtain ⟨hP2, hD2⟩ := va_join (wr := wr) (w1 := w1 u) hP hD isC isR hC hRr hnR hdis hk1 hFc hP1 hD1
  exact kk r u H1 locs1 hw hP2 hD2 hS1
theorem kVv {post : S → Prop} (X : kX p s m args c cc nL own D T) (hP : va_P D classes ws H) (hD : va_D A ws) (hS : va_S A H0 H locs) (hA : ∀ q, H0.size ≤ q → A q)
    (hM : Met l y (kq y bytes maxL ret) rm (va_Pc (.ref b :: As) (kPre D T wc H.size)) (va_Qv post (fun u => kB D (va_A wc H.size) (w1 u)) (va_A wc H.size)) mc ms (va_A wc H.size))
    (gW : GoodIn kw (wsV own index C y (kq y bytes maxL ret))) (hrc : rm.cells = mc) (hrs : rm.slots = ms) (hd : y.cls = C ∧ y.cls ≠ "java/lang/invoke/MethodHandle" ∧ y.cls ≠ "java/lang/invoke/VarHandle" ∧ (parseMethodDescriptor y.desc).map (fun d => d.parameters.length) = some n)
    (hR : rm.frames + 1 ≤ R.frames ∧ 8 + (maxL + 11) + rm.locals ≤ R.locals) (hl : ls.size = nL) (hn : As.length = n) (hst : st0 = As.reverse ++ .ref b :: rest) (hW : (rest.map fun v => v.category).sum ≤ 8) (hdg : decode cc pc = .ok (.invokevirtual index, 3)) (hf : cells + mc ≤ R.cells ∧ slots + ms ≤ R.slots)
    (isC isR : List Nat) (hC : isC.map (fun i => ws[i]?) = wc.map some) (hRr : isR.map (fun i => ws[i]?) = wr.map some) (hnC : va_nd isC = true) (hnR : va_nd isR = true) (hdis : ∀ i ∈ isR, i ∉ isC) (q0 : Nat) {ci : Nat} {fs : List Value} (he : wc[q0]? = some (b, .inr (ci, fs))) {TT : u_T} {N : Nat} (hci : classes[ci]? = some (C, TT, N))
    (kk : ∀ (u : S) (H1 : Heap) (locs1 : List Loc), post u → va_P D classes (wr ++ w1 u) H1 → va_D A (wr ++ w1 u) → va_S A H0 H1 locs1 → W p l e R s m args below meth c H1 locs1 (cells + mc) (slots + ms) Q (F0 m (pc + 3) ls rest)) : W p l e R s m args below meth c H locs cells slots Q (F0 m pc ls st0) := by
  obtain ⟨F, hK, hN⟩ := X
  have hPc : va_P D classes wc H := fun k q hk => by
    have h1 : (isC.map (fun i => ws[i]?))[k]? = some (some q) := by rw [hC, List.getElem?_map, hk]; rfl
    rw [List.getElem?_map] at h1
    cases hi : isC[k]? with
    | none => rw [hi] at h1; cases h1
    | some i => rw [hi] at h1; exact hP i q (Option.some.inj h1)
  have hDc : va_D A wc := hD.sub isC hnC hC
  have hFc := va_free (wc := wc) hD hS hA isC hC
  refine va_callv (va_runV (As := As) (rest := rest) F hM (cwV n F.2.2.2.2 gW rfl hrc hrs hd hR) ⟨kBlind, va_recv hK hPc hci he, fun U hU hW => ⟨rfl, by rw [hU], by rw [hU]; exact hPc, va_K.moved hW.alike hK, hDc.weaken (fun _ _ _ _ => trivial), va_Nw.warmM hW hN⟩⟩ rfl hn hl hst (lv_room hW) hdg hf) hS (fun q _ h => hFc q h) hFc (fun u t H1 locs1 ht hvm hw hB hz1 hk1 hS1 => ?_)
  obtain ⟨hP1, hD1⟩ := hB
  rw [ht] at hP1
  obtain ⟨hP2, hD2⟩ := va_join (wr := wr) (w1 := w1 u) hP hD isC isR hC hRr hnR hdis hk1 hFc hP1 hD1
  exact kk u H1 locs1 hw hP2 hD2 hS1
theorem kIv {post : S → Prop} (X : kX p s m args c cc nL own D T) (hP : va_P D classes ws H) (hD : va_D A ws) (hS : va_S A H0 H locs) (hA : ∀ q, H0.size ≤ q → A q)
    (hM : Met l y (kq y bytes maxL none) rm (va_Pc (.ref b :: As) (kPre D T wc H.size)) (va_Qv post (fun u => kB D (va_A wc H.size) (w1 u)) (va_A wc H.size)) mc ms (va_A wc H.size))
    (g1 : Cond.code y bytes maxL none ∈ kw) (g2 : Cond.methodLink own index y ∈ kw) (g3 : Cond.instanceMethod y ∈ kw) (g4 : Cond.initialized y.cls ∈ kw) (hy1 : y.name = "<init>") (hrc : rm.cells = mc) (hrs : rm.slots = ms) (hd : y.cls ≠ "java/lang/invoke/MethodHandle" ∧ y.cls ≠ "java/lang/invoke/VarHandle" ∧ (parseMethodDescriptor y.desc).map (fun d => d.parameters.length) = some n)
    (hR : rm.frames + 1 ≤ R.frames ∧ 8 + (maxL + 11) + rm.locals ≤ R.locals) (hl : ls.size = nL) (hn : As.length = n) (hst : st0 = As.reverse ++ .ref b :: rest) (hW : (rest.map fun v => v.category).sum ≤ 8) (hdg : decode cc pc = .ok (.invokespecial index, 3)) (hf : cells + mc ≤ R.cells ∧ slots + ms ≤ R.slots)
    (isC isR : List Nat) (hC : isC.map (fun i => ws[i]?) = wc.map some) (hRr : isR.map (fun i => ws[i]?) = wr.map some) (hnC : va_nd isC = true) (hnR : va_nd isR = true) (hdis : ∀ i ∈ isR, i ∉ isC)
    (kk : ∀ (u : S) (H1 : Heap) (locs1 : List Loc), post u → va_P D classes (wr ++ w1 u) H1 → va_D A (wr ++ w1 u) → va_S A H0 H1 locs1 → W p l e R s m args below meth c H1 locs1 (cells + mc) (slots + ms) Q (F0 m (pc + 3) ls rest)) : W p l e R s m args below meth c H locs cells slots Q (F0 m pc ls st0) := by
  obtain ⟨F, hK, hN⟩ := X
  have hPc : va_P D classes wc H := fun k q hk => by
    have h1 : (isC.map (fun i => ws[i]?))[k]? = some (some q) := by rw [hC, List.getElem?_map, hk]; rfl
    rw [List.getElem?_map] at h1
    cases hi : isC[k]? with
    | none => rw [hi] at h1; cases h1
    | some i => rw [hi] at h1; exact hP i q (Option.some.inj h1)
  have hDc : va_D A wc := hD.sub isC hnC hC
  have hFc := va_free (wc := wc) hD hS hA isC hC
  refine va_callv (va_runI (As := As) (rest := rest) F hM (cwI n F.2.2.2.2 (kq_good g1) rfl hrc hrs (F.2.2.2.2 _ g4) (F.2.2.2.2 _ g2) (F.2.2.2.2 _ g3) hy1 hd hR) ⟨kBlind, fun U hU hW => ⟨rfl, by rw [hU], by rw [hU]; exact hPc, va_K.moved hW.alike hK, hDc.weaken (fun _ _ _ _ => trivial), va_Nw.warmM hW hN⟩⟩ rfl hn hl hst (lv_room hW) hdg hf) hS (fun q _ h => hFc q h) hFc (fun u t H1 locs1 ht hvm hw hB hz1 hk1 hS1 => ?_)
  obtain ⟨hP1, hD1⟩ := hB
  rw [ht] at hP1
  obtain ⟨hP2, hD2⟩ := va_join (wr := wr) (w1 := w1 u) hP hD isC isR hC hRr hnR hdis hk1 hFc hP1 hD1
  exact kk u H1 locs1 hw hP2 hD2 hS1
/-- a static method without cells: a nest mate's, or the own class's -/
theorem kNi {post : Int32 → S → Prop} {host : String} (X : kX p s m args c cc nL own D T) (hP : va_P D classes ws H) (hD : va_D A ws) (hS : va_S A H0 H locs) (hA : ∀ q, H0.size ≤ q → A q)
    (hM : Met l y (kq y bytes maxL ret) rm (va_Pc As (kPre D T wc H.size)) (va_Qi post (fun u => kB D (va_A wc H.size) (w1 u)) (va_A wc H.size)) mc ms (va_A wc H.size))
    (g1 : Cond.code y bytes maxL ret ∈ kw) (g2 : va_Nw (.methodLinkNest own index y host) s) (g3 : Cond.static y ∈ kw) (g4 : Cond.initialized y.cls ∈ kw) (hrc : rm.cells = mc) (hrs : rm.slots = ms) (hd : y.cls ≠ "java/lang/invoke/MethodHandle" ∧ y.cls ≠ "java/lang/invoke/VarHandle" ∧ (parseMethodDescriptor y.desc).map (fun d => d.parameters.length) = some n)
    (hR : rm.frames + 1 ≤ R.frames ∧ 8 + (maxL + 11) + rm.locals ≤ R.locals) (hl : ls.size = nL) (hn : As.length = n) (hst : st0 = As.reverse ++ rest) (hW : (rest.map fun v => v.category).sum ≤ 8) (hdg : decode cc pc = .ok (.invokestatic index, 3)) (hf : cells + mc ≤ R.cells ∧ slots + ms ≤ R.slots)
    (isC isR : List Nat) (hC : isC.map (fun i => ws[i]?) = wc.map some) (hRr : isR.map (fun i => ws[i]?) = wr.map some) (hnC : va_nd isC = true) (hnR : va_nd isR = true) (hdis : ∀ i ∈ isR, i ∉ isC)
    (kk : ∀ (r : Int32) (u : S) (H1 : Heap) (locs1 : List Loc), post r u → va_P D classes (wr ++ w1 u) H1 → va_D A (wr ++ w1 u) → va_S A H0 H1 locs1 → W p l e R s m args below meth c H1 locs1 (cells + mc) (slots + ms) Q (F0 m (pc + 3) ls (.int r :: rest))) : W p l e R s m args below meth c H locs cells slots Q (F0 m pc ls st0) := by
  obtain ⟨F, hK, hN⟩ := X
  have hPc : va_P D classes wc H := fun k q hk => by
    have h1 : (isC.map (fun i => ws[i]?))[k]? = some (some q) := by rw [hC, List.getElem?_map, hk]; rfl
    rw [List.getElem?_map] at h1
    cases hi : isC[k]? with
    | none => rw [hi] at h1; cases h1
    | some i => rw [hi] at h1; exact hP i q (Option.some.inj h1)
  have hDc : va_D A wc := hD.sub isC hnC hC
  have hFc := va_free (wc := wc) hD hS hA isC hC
  refine va_calli (va_runSN (As := As) (rest := rest) F hM ⟨va_cnB n F.2.2.2.2 (kq_good g1) rfl hrc hrs g2 (F.2.2.2.2 _ g4) hd hR, F.2.2.2.2 _ g3, trivial⟩ ⟨kBlind, fun U hU hW => ⟨rfl, by rw [hU], by rw [hU]; exact hPc, va_K.moved hW.alike hK, hDc.weaken (fun _ _ _ _ => trivial), va_Nw.warmM hW hN⟩⟩ rfl hn hl hst (lv_room hW) hdg hf) hS (fun q _ h => hFc q h) hFc (fun r u t H1 locs1 ht hvm hw hB hz1 hk1 hS1 => ?_)
  obtain ⟨hP1, hD1⟩ := hB
  rw [ht] at hP1
  obtain ⟨hP2, hD2⟩ := va_join (wr := wr) (w1 := w1 u) hP hD isC isR hC hRr hnR hdis hk1 hFc hP1 hD1
  exact kk r u H1 locs1 hw hP2 hD2 hS1
/-! ===== a method's ends ===== -/
theorem kri {post : Int32 → S → Prop} {v : Int32} (X : kX p s m args c cc nL own D T) (hr : meth.sig.returnType = some .int) (hlocks : meth.locks = false) (hS : va_S A s.heap H locs) (u : S) (hpost : post v u) (hP : va_P D classes (w1 u) H) (hD : va_D A (w1 u)) (hdg : decode cc pc = .ok (.ireturn, 1)) :
    W p l e R s m args below meth c H locs cells slots (MQ below (va_Qi post (fun u => kB D A (w1 u)) A) args s cells slots A) (F0 m pc ls [.int v]) :=
  W.iret X.1.1 X.1.2.1 hr (fun t ht hW => ⟨⟨v, u, rfl, hpost, by rw [ht]; exact hP, hD⟩, hS.F ht⟩) hS.2.2 hdg hlocks
theorem krz {post : Int32 → S → Prop} {v : Int32} (X : kX p s m args c cc nL own D T) (hr : meth.sig.returnType = some .boolean) (hlocks : meth.locks = false) (hn : narrow .boolean (.int v) = .int v) (hS : va_S A s.heap H locs) (u : S) (hpost : post v u) (hP : va_P D classes (w1 u) H) (hD : va_D A (w1 u)) (hdg : decode cc pc = .ok (.ireturn, 1)) :
    W p l e R s m args below meth c H locs cells slots (MQ below (va_Qi post (fun u => kB D A (w1 u)) A) args s cells slots A) (F0 m pc ls [.int v]) :=
  W.zret X.1.1 X.1.2.1 hr hn (fun t ht hW => ⟨⟨v, u, rfl, hpost, by rw [ht]; exact hP, hD⟩, hS.F ht⟩) hS.2.2 hdg hlocks
theorem krl {post : Int64 → S → Prop} {v : Int64} (X : kX p s m args c cc nL own D T) (hr : meth.sig.returnType = some .long) (hlocks : meth.locks = false) (hS : va_S A s.heap H locs) (u : S) (hpost : post v u) (hP : va_P D classes (w1 u) H) (hD : va_D A (w1 u)) (hdg : decode cc pc = .ok (.lreturn, 1)) :
    W p l e R s m args below meth c H locs cells slots (MQ below (va_Ql post (fun u => kB D A (w1 u)) A) args s cells slots A) (F0 m pc ls [.long v]) :=
  W.lret X.1.1 X.1.2.1 hr (fun t ht hW => ⟨⟨v, u, rfl, hpost, by rw [ht]; exact hP, hD⟩, hS.F ht⟩) hS.2.2 hdg hlocks
theorem krv {post : S → Prop} (X : kX p s m args c cc nL own D T) (hr : meth.sig.returnType = none) (hlocks : meth.locks = false) (hS : va_S A s.heap H locs) (u : S) (hpost : post u) (hP : va_P D classes (w1 u) H) (hD : va_D A (w1 u)) (hdg : decode cc pc = .ok (.return_, 1)) :
    W p l e R s m args below meth c H locs cells slots (MQ below (va_Qv post (fun u => kB D A (w1 u)) A) args s cells slots A) (F0 m pc ls []) :=
  W.vret X.1.1 X.1.2.1 hr (fun t ht hW => ⟨⟨u, rfl, hpost, by rw [ht]; exact hP, hD⟩, hS.F ht⟩) hS.2.2 hdg hlocks
end KB
/-- a contract out of a walk -/
theorem kMet {l : Launch} {D : va_G} {T : List (ClassId × FieldType)} {y : MethodName} {bytes : ByteArray} {maxL : Nat} {ret : Option FieldType} {rm : Room} {mc ms : Nat} {av : List Value} {ws : va_W} {sz : Nat} {Qc : (Nat → Prop) → Array Value → State → Outcome → State → Prop} (own nm : String)
    (hy : plainName y.cls = true) (ho : y.cls = own) (hnm : y.name = nm) (hav : (lg_sl av).length ≤ maxL)
    (body : ∀ (p : Program) (e : Env) (s : State) (m : MethodId) (below : List Frame) (meth : Method) (c : Code) (A : Nat → Prop) (ls : Array Slot), kX p s m av.toArray c bytes maxL own D T → meth.sig.returnType = ret → meth.locks = false → meth.name = nm → (∀ q, s.heap.size ≤ q → A q) → va_P D classes ws s.heap → va_D A ws → lv_has ls maxL (lv_args 0 av) →
      W p l e rm s m av.toArray below meth c s.heap [] 0 0 (MQ below (Qc A) av.toArray s mc ms A) (F0 m 0 ls [])) :
    Met l y (kq y bytes maxL ret) rm (va_Pc av (kPre D T ws sz)) (Qc (va_A ws sz)) mc ms (va_A ws sz) := by
  refine Met.ofW (cc := bytes) (maxL := maxL) (ret := ret) hy rfl ?_
  intro p e s m args below meth c s₁ B hml hv
  obtain ⟨rfl, hsz, hP, hK, hD0, hN⟩ := hv
  have hts := atoms_spec (ws := kq y bytes maxL ret) B.pre
  have hown : s.vm.findClass own = some m.cls := by rw [← ho]; exact findClass_of_methodNamed B.named
  have hin : meth.name = nm := by rw [← hnm]; exact (name_of_methodNamed B.named B.method).1
  subst hsz
  have hl := lv_entry av (n := maxL) hav
  rw [lg_entry_eq]
  exact body p e s m below meth c (va_A ws s.heap.size) _ ⟨⟨B.exec, B.bytes, hml, hown, fun w hw => hts w (List.mem_cons_of_mem _ hw)⟩, hK, hN⟩ B.returns B.notSynchronized hin (fun q h => Or.inr h) hP hD0.self hl
end
