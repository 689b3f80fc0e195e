-- ===== PART A: goes FIRST, ahead of the names: the tables' words, and 'selects' of the private methods out of them =====
/-- a private method of a class that the tables say can be made, by its rows of tables_1 -/
def lw_okq (q : MethodName × Nat) : Prop := (q.1.cls ≠ "java/lang/invoke/MethodHandle" ∧ q.1.cls ≠ "java/lang/invoke/VarHandle") ∧ Cond.instantiable q.1.cls q.2 ∈ tables_1 ∧ Cond.privateMethod q.1 ∈ tables_1 ∧ Cond.instanceMethod q.1 ∈ tables_1
theorem lw_p0 : lw_okq (⟨"java/util/ArrayList", "add", "(Ljava/lang/Object;[Ljava/lang/Object;I)V"⟩, 3) := ⟨⟨by decide +kernel, by decide +kernel⟩, List.mem_of_getElem? (i := 40) (by decide +kernel), List.mem_of_getElem? (i := 110) (by decide +kernel), List.mem_of_getElem? (i := 111) (by decide +kernel)⟩
theorem lw_p1 : lw_okq (⟨"java/util/ArrayList", "grow", "()[Ljava/lang/Object;"⟩, 3) := ⟨⟨by decide +kernel, by decide +kernel⟩, List.mem_of_getElem? (i := 40) (by decide +kernel), List.mem_of_getElem? (i := 114) (by decide +kernel), List.mem_of_getElem? (i := 115) (by decide +kernel)⟩
theorem lw_p2 : lw_okq (⟨"java/util/ArrayList", "grow", "(I)[Ljava/lang/Object;"⟩, 3) := ⟨⟨by decide +kernel, by decide +kernel⟩, List.mem_of_getElem? (i := 40) (by decide +kernel), List.mem_of_getElem? (i := 118) (by decide +kernel), List.mem_of_getElem? (i := 119) (by decide +kernel)⟩
theorem lw_p3 : lw_okq (⟨"EarPaper", "refuse", "(I)I"⟩, 14) := ⟨⟨by decide +kernel, by decide +kernel⟩, List.mem_of_getElem? (i := 26) (by decide +kernel), List.mem_of_getElem? (i := 346) (by decide +kernel), List.mem_of_getElem? (i := 347) (by decide +kernel)⟩
theorem lw_p4 : lw_okq (⟨"EarPaper", "readerOf", "(I)LEarPaper$Reader;"⟩, 14) := ⟨⟨by decide +kernel, by decide +kernel⟩, List.mem_of_getElem? (i := 26) (by decide +kernel), List.mem_of_getElem? (i := 549) (by decide +kernel), List.mem_of_getElem? (i := 550) (by decide +kernel)⟩
theorem lw_p5 : lw_okq (⟨"EarPaper", "isKnown", "(II)Z"⟩, 14) := ⟨⟨by decide +kernel, by decide +kernel⟩, List.mem_of_getElem? (i := 26) (by decide +kernel), List.mem_of_getElem? (i := 562) (by decide +kernel), List.mem_of_getElem? (i := 563) (by decide +kernel)⟩
theorem lw_p6 : lw_okq (⟨"EarPaper", "newsOf", "(I)LEarPaper$News;"⟩, 14) := ⟨⟨by decide +kernel, by decide +kernel⟩, List.mem_of_getElem? (i := 26) (by decide +kernel), List.mem_of_getElem? (i := 566) (by decide +kernel), List.mem_of_getElem? (i := 567) (by decide +kernel)⟩
theorem lw_p7 : lw_okq (⟨"EarPaper", "isOfItsKind", "(II)Z"⟩, 14) := ⟨⟨by decide +kernel, by decide +kernel⟩, List.mem_of_getElem? (i := 26) (by decide +kernel), List.mem_of_getElem? (i := 585) (by decide +kernel), List.mem_of_getElem? (i := 586) (by decide +kernel)⟩
theorem lw_p8 : lw_okq (⟨"EarPaper", "mayBreak", "(LEarPaper$Reader;)Z"⟩, 14) := ⟨⟨by decide +kernel, by decide +kernel⟩, List.mem_of_getElem? (i := 26) (by decide +kernel), List.mem_of_getElem? (i := 589) (by decide +kernel), List.mem_of_getElem? (i := 590) (by decide +kernel)⟩
theorem lw_p9 : lw_okq (⟨"EarPaper", "inForce", "(II)LEarPaper$Term;"⟩, 14) := ⟨⟨by decide +kernel, by decide +kernel⟩, List.mem_of_getElem? (i := 26) (by decide +kernel), List.mem_of_getElem? (i := 593) (by decide +kernel), List.mem_of_getElem? (i := 594) (by decide +kernel)⟩
theorem lw_p10 : lw_okq (⟨"EarPaper$Scale", "push", "(I)V"⟩, 10) := ⟨⟨by decide +kernel, by decide +kernel⟩, List.mem_of_getElem? (i := 254) (by decide +kernel), List.mem_of_getElem? (i := 605) (by decide +kernel), List.mem_of_getElem? (i := 606) (by decide +kernel)⟩
theorem lw_p11 : lw_okq (⟨"EarPaper$Scale", "letter", "(I)I"⟩, 10) := ⟨⟨by decide +kernel, by decide +kernel⟩, List.mem_of_getElem? (i := 254) (by decide +kernel), List.mem_of_getElem? (i := 612) (by decide +kernel), List.mem_of_getElem? (i := 613) (by decide +kernel)⟩
theorem lw_p12 : lw_okq (⟨"EarPaper$Scale", "join", "(I)V"⟩, 10) := ⟨⟨by decide +kernel, by decide +kernel⟩, List.mem_of_getElem? (i := 254) (by decide +kernel), List.mem_of_getElem? (i := 616) (by decide +kernel), List.mem_of_getElem? (i := 617) (by decide +kernel)⟩
theorem lw_p13 : lw_okq (⟨"EarPaper", "markRead", "(III)V"⟩, 14) := ⟨⟨by decide +kernel, by decide +kernel⟩, List.mem_of_getElem? (i := 26) (by decide +kernel), List.mem_of_getElem? (i := 635) (by decide +kernel), List.mem_of_getElem? (i := 636) (by decide +kernel)⟩
theorem lw_p14 : lw_okq (⟨"EarPaper$Text", "parseSum", "(I)Z"⟩, 5) := ⟨⟨by decide +kernel, by decide +kernel⟩, List.mem_of_getElem? (i := 229) (by decide +kernel), List.mem_of_getElem? (i := 679) (by decide +kernel), List.mem_of_getElem? (i := 680) (by decide +kernel)⟩
theorem lw_p15 : lw_okq (⟨"EarPaper$Text", "parseProduct", "(I)Z"⟩, 5) := ⟨⟨by decide +kernel, by decide +kernel⟩, List.mem_of_getElem? (i := 229) (by decide +kernel), List.mem_of_getElem? (i := 683) (by decide +kernel), List.mem_of_getElem? (i := 684) (by decide +kernel)⟩
def lw_privs_1 : List (MethodName × Nat) := [(⟨"java/util/ArrayList", "add", "(Ljava/lang/Object;[Ljava/lang/Object;I)V"⟩, 3), (⟨"java/util/ArrayList", "grow", "()[Ljava/lang/Object;"⟩, 3), (⟨"java/util/ArrayList", "grow", "(I)[Ljava/lang/Object;"⟩, 3), (⟨"EarPaper", "refuse", "(I)I"⟩, 14), (⟨"EarPaper", "readerOf", "(I)LEarPaper$Reader;"⟩, 14), (⟨"EarPaper", "isKnown", "(II)Z"⟩, 14), (⟨"EarPaper", "newsOf", "(I)LEarPaper$News;"⟩, 14), (⟨"EarPaper", "isOfItsKind", "(II)Z"⟩, 14), (⟨"EarPaper", "mayBreak", "(LEarPaper$Reader;)Z"⟩, 14), (⟨"EarPaper", "inForce", "(II)LEarPaper$Term;"⟩, 14), (⟨"EarPaper$Scale", "push", "(I)V"⟩, 10), (⟨"EarPaper$Scale", "letter", "(I)I"⟩, 10), (⟨"EarPaper$Scale", "join", "(I)V"⟩, 10), (⟨"EarPaper", "markRead", "(III)V"⟩, 14), (⟨"EarPaper$Text", "parseSum", "(I)Z"⟩, 5), (⟨"EarPaper$Text", "parseProduct", "(I)Z"⟩, 5)]
theorem lw_r1 : ∀ q ∈ lw_privs_1, lw_okq q := List.forall_mem_cons.mpr ⟨lw_p0, List.forall_mem_cons.mpr ⟨lw_p1, List.forall_mem_cons.mpr ⟨lw_p2, List.forall_mem_cons.mpr ⟨lw_p3, List.forall_mem_cons.mpr ⟨lw_p4, List.forall_mem_cons.mpr ⟨lw_p5, List.forall_mem_cons.mpr ⟨lw_p6, List.forall_mem_cons.mpr ⟨lw_p7, List.forall_mem_cons.mpr ⟨lw_p8, List.forall_mem_cons.mpr ⟨lw_p9, List.forall_mem_cons.mpr ⟨lw_p10, List.forall_mem_cons.mpr ⟨lw_p11, List.forall_mem_cons.mpr ⟨lw_p12, List.forall_mem_cons.mpr ⟨lw_p13, List.forall_mem_cons.mpr ⟨lw_p14, List.forall_mem_cons.mpr ⟨lw_p15, fun _ h => absurd h List.not_mem_nil⟩⟩⟩⟩⟩⟩⟩⟩⟩⟩⟩⟩⟩⟩⟩⟩
theorem lw_p16 : lw_okq (⟨"EarPaper$Text", "parseUnit", "(I)Z"⟩, 5) := ⟨⟨by decide +kernel, by decide +kernel⟩, List.mem_of_getElem? (i := 229) (by decide +kernel), List.mem_of_getElem? (i := 687) (by decide +kernel), List.mem_of_getElem? (i := 688) (by decide +kernel)⟩
theorem lw_p17 : lw_okq (⟨"EarPaper$Text", "next", "()I"⟩, 5) := ⟨⟨by decide +kernel, by decide +kernel⟩, List.mem_of_getElem? (i := 229) (by decide +kernel), List.mem_of_getElem? (i := 691) (by decide +kernel), List.mem_of_getElem? (i := 692) (by decide +kernel)⟩
theorem lw_p18 : lw_okq (⟨"EarPaper$Text", "parseBracket", "(I)Z"⟩, 5) := ⟨⟨by decide +kernel, by decide +kernel⟩, List.mem_of_getElem? (i := 229) (by decide +kernel), List.mem_of_getElem? (i := 695) (by decide +kernel), List.mem_of_getElem? (i := 696) (by decide +kernel)⟩
theorem lw_p19 : lw_okq (⟨"EarPaper$Text", "emit", "(I)V"⟩, 5) := ⟨⟨by decide +kernel, by decide +kernel⟩, List.mem_of_getElem? (i := 229) (by decide +kernel), List.mem_of_getElem? (i := 699) (by decide +kernel), List.mem_of_getElem? (i := 700) (by decide +kernel)⟩
theorem lw_p20 : lw_okq (⟨"EarPaper$Text", "parseNumber", "()V"⟩, 5) := ⟨⟨by decide +kernel, by decide +kernel⟩, List.mem_of_getElem? (i := 229) (by decide +kernel), List.mem_of_getElem? (i := 706) (by decide +kernel), List.mem_of_getElem? (i := 707) (by decide +kernel)⟩
theorem lw_p21 : lw_okq (⟨"EarPaper", "worthIn", "(ILEarPaper$Span;I)I"⟩, 14) := ⟨⟨by decide +kernel, by decide +kernel⟩, List.mem_of_getElem? (i := 26) (by decide +kernel), List.mem_of_getElem? (i := 761) (by decide +kernel), List.mem_of_getElem? (i := 762) (by decide +kernel)⟩
theorem lw_p22 : lw_okq (⟨"EarPaper", "valueOf", "(LEarPaper$Term;LEarPaper$Span;I)I"⟩, 14) := ⟨⟨by decide +kernel, by decide +kernel⟩, List.mem_of_getElem? (i := 26) (by decide +kernel), List.mem_of_getElem? (i := 765) (by decide +kernel), List.mem_of_getElem? (i := 766) (by decide +kernel)⟩
theorem lw_p23 : lw_okq (⟨"EarPaper", "evenUntil", "(LEarPaper$Span;I)I"⟩, 14) := ⟨⟨by decide +kernel, by decide +kernel⟩, List.mem_of_getElem? (i := 26) (by decide +kernel), List.mem_of_getElem? (i := 774) (by decide +kernel), List.mem_of_getElem? (i := 775) (by decide +kernel)⟩
theorem lw_p24 : lw_okq (⟨"EarPaper", "sumOf", "(ILEarPaper$Span;II)J"⟩, 14) := ⟨⟨by decide +kernel, by decide +kernel⟩, List.mem_of_getElem? (i := 26) (by decide +kernel), List.mem_of_getElem? (i := 779) (by decide +kernel), List.mem_of_getElem? (i := 780) (by decide +kernel)⟩
theorem lw_p25 : lw_okq (⟨"EarPaper$Net", "breakable", "()I"⟩, 9) := ⟨⟨by decide +kernel, by decide +kernel⟩, List.mem_of_getElem? (i := 34) (by decide +kernel), List.mem_of_getElem? (i := 795) (by decide +kernel), List.mem_of_getElem? (i := 796) (by decide +kernel)⟩
theorem lw_p26 : lw_okq (⟨"EarPaper$Net", "hitsAllComplaints", "(I)Z"⟩, 9) := ⟨⟨by decide +kernel, by decide +kernel⟩, List.mem_of_getElem? (i := 34) (by decide +kernel), List.mem_of_getElem? (i := 805) (by decide +kernel), List.mem_of_getElem? (i := 806) (by decide +kernel)⟩
theorem lw_p27 : lw_okq (⟨"EarPaper$Net", "allReachedWith", "(II)Z"⟩, 9) := ⟨⟨by decide +kernel, by decide +kernel⟩, List.mem_of_getElem? (i := 34) (by decide +kernel), List.mem_of_getElem? (i := 822) (by decide +kernel), List.mem_of_getElem? (i := 823) (by decide +kernel)⟩
theorem lw_p28 : lw_okq (⟨"EarPaper$Net", "raise", "(I)V"⟩, 9) := ⟨⟨by decide +kernel, by decide +kernel⟩, List.mem_of_getElem? (i := 34) (by decide +kernel), List.mem_of_getElem? (i := 826) (by decide +kernel), List.mem_of_getElem? (i := 827) (by decide +kernel)⟩
theorem lw_p29 : lw_okq (⟨"EarPaper$Net", "addListener", "(IJ)V"⟩, 9) := ⟨⟨by decide +kernel, by decide +kernel⟩, List.mem_of_getElem? (i := 34) (by decide +kernel), List.mem_of_getElem? (i := 844) (by decide +kernel), List.mem_of_getElem? (i := 845) (by decide +kernel)⟩
theorem lw_p30 : lw_okq (⟨"EarPaper", "refusedSoFar", "(I)I"⟩, 14) := ⟨⟨by decide +kernel, by decide +kernel⟩, List.mem_of_getElem? (i := 26) (by decide +kernel), List.mem_of_getElem? (i := 948) (by decide +kernel), List.mem_of_getElem? (i := 949) (by decide +kernel)⟩
theorem lw_p31 : lw_okq (⟨"EarPaperModel", "refuse", "(I)I"⟩, 70) := ⟨⟨by decide +kernel, by decide +kernel⟩, List.mem_of_getElem? (i := 952) (by decide +kernel), List.mem_of_getElem? (i := 1174) (by decide +kernel), List.mem_of_getElem? (i := 1175) (by decide +kernel)⟩
def lw_privs_2 : List (MethodName × Nat) := [(⟨"EarPaper$Text", "parseUnit", "(I)Z"⟩, 5), (⟨"EarPaper$Text", "next", "()I"⟩, 5), (⟨"EarPaper$Text", "parseBracket", "(I)Z"⟩, 5), (⟨"EarPaper$Text", "emit", "(I)V"⟩, 5), (⟨"EarPaper$Text", "parseNumber", "()V"⟩, 5), (⟨"EarPaper", "worthIn", "(ILEarPaper$Span;I)I"⟩, 14), (⟨"EarPaper", "valueOf", "(LEarPaper$Term;LEarPaper$Span;I)I"⟩, 14), (⟨"EarPaper", "evenUntil", "(LEarPaper$Span;I)I"⟩, 14), (⟨"EarPaper", "sumOf", "(ILEarPaper$Span;II)J"⟩, 14), (⟨"EarPaper$Net", "breakable", "()I"⟩, 9), (⟨"EarPaper$Net", "hitsAllComplaints", "(I)Z"⟩, 9), (⟨"EarPaper$Net", "allReachedWith", "(II)Z"⟩, 9), (⟨"EarPaper$Net", "raise", "(I)V"⟩, 9), (⟨"EarPaper$Net", "addListener", "(IJ)V"⟩, 9), (⟨"EarPaper", "refusedSoFar", "(I)I"⟩, 14), (⟨"EarPaperModel", "refuse", "(I)I"⟩, 70)]
theorem lw_r2 : ∀ q ∈ lw_privs_2, lw_okq q := List.forall_mem_cons.mpr ⟨lw_p16, List.forall_mem_cons.mpr ⟨lw_p17, List.forall_mem_cons.mpr ⟨lw_p18, List.forall_mem_cons.mpr ⟨lw_p19, List.forall_mem_cons.mpr ⟨lw_p20, List.forall_mem_cons.mpr ⟨lw_p21, List.forall_mem_cons.mpr ⟨lw_p22, List.forall_mem_cons.mpr ⟨lw_p23, List.forall_mem_cons.mpr ⟨lw_p24, List.forall_mem_cons.mpr ⟨lw_p25, List.forall_mem_cons.mpr ⟨lw_p26, List.forall_mem_cons.mpr ⟨lw_p27, List.forall_mem_cons.mpr ⟨lw_p28, List.forall_mem_cons.mpr ⟨lw_p29, List.forall_mem_cons.mpr ⟨lw_p30, List.forall_mem_cons.mpr ⟨lw_p31, fun _ h => absurd h List.not_mem_nil⟩⟩⟩⟩⟩⟩⟩⟩⟩⟩⟩⟩⟩⟩⟩⟩
theorem lw_p32 : lw_okq (⟨"EarPaperModel", "goesBy", "(IIII)I"⟩, 70) := ⟨⟨by decide +kernel, by decide +kernel⟩, List.mem_of_getElem? (i := 952) (by decide +kernel), List.mem_of_getElem? (i := 1178) (by decide +kernel), List.mem_of_getElem? (i := 1179) (by decide +kernel)⟩
theorem lw_p33 : lw_okq (⟨"EarPaperModel", "isNode", "(I)Z"⟩, 70) := ⟨⟨by decide +kernel, by decide +kernel⟩, List.mem_of_getElem? (i := 952) (by decide +kernel), List.mem_of_getElem? (i := 1186) (by decide +kernel), List.mem_of_getElem? (i := 1187) (by decide +kernel)⟩
theorem lw_p34 : lw_okq (⟨"EarPaperModel", "sounds", "(III)V"⟩, 70) := ⟨⟨by decide +kernel, by decide +kernel⟩, List.mem_of_getElem? (i := 952) (by decide +kernel), List.mem_of_getElem? (i := 1212) (by decide +kernel), List.mem_of_getElem? (i := 1213) (by decide +kernel)⟩
theorem lw_p35 : lw_okq (⟨"EarPaperModel", "isCut", "(II)Z"⟩, 70) := ⟨⟨by decide +kernel, by decide +kernel⟩, List.mem_of_getElem? (i := 952) (by decide +kernel), List.mem_of_getElem? (i := 1216) (by decide +kernel), List.mem_of_getElem? (i := 1217) (by decide +kernel)⟩
theorem lw_p36 : lw_okq (⟨"EarPaperModel", "isHome", "(I)Z"⟩, 70) := ⟨⟨by decide +kernel, by decide +kernel⟩, List.mem_of_getElem? (i := 952) (by decide +kernel), List.mem_of_getElem? (i := 1233) (by decide +kernel), List.mem_of_getElem? (i := 1234) (by decide +kernel)⟩
theorem lw_p37 : lw_okq (⟨"EarPaperModel", "hearsNow", "(I)Z"⟩, 70) := ⟨⟨by decide +kernel, by decide +kernel⟩, List.mem_of_getElem? (i := 952) (by decide +kernel), List.mem_of_getElem? (i := 1237) (by decide +kernel), List.mem_of_getElem? (i := 1238) (by decide +kernel)⟩
theorem lw_p38 : lw_okq (⟨"EarPaperModel", "may", "(I)Z"⟩, 70) := ⟨⟨by decide +kernel, by decide +kernel⟩, List.mem_of_getElem? (i := 952) (by decide +kernel), List.mem_of_getElem? (i := 1253) (by decide +kernel), List.mem_of_getElem? (i := 1254) (by decide +kernel)⟩
theorem lw_p39 : lw_okq (⟨"EarPaperModel", "isPast", "(I)Z"⟩, 70) := ⟨⟨by decide +kernel, by decide +kernel⟩, List.mem_of_getElem? (i := 952) (by decide +kernel), List.mem_of_getElem? (i := 1261) (by decide +kernel), List.mem_of_getElem? (i := 1262) (by decide +kernel)⟩
theorem lw_p40 : lw_okq (⟨"EarPaperModel", "bare", "()V"⟩, 70) := ⟨⟨by decide +kernel, by decide +kernel⟩, List.mem_of_getElem? (i := 952) (by decide +kernel), List.mem_of_getElem? (i := 1265) (by decide +kernel), List.mem_of_getElem? (i := 1266) (by decide +kernel)⟩
theorem lw_p41 : lw_okq (⟨"EarPaperModel", "worth", "(III)I"⟩, 70) := ⟨⟨by decide +kernel, by decide +kernel⟩, List.mem_of_getElem? (i := 952) (by decide +kernel), List.mem_of_getElem? (i := 1269) (by decide +kernel), List.mem_of_getElem? (i := 1270) (by decide +kernel)⟩
theorem lw_p42 : lw_okq (⟨"EarPaperModel", "inForce", "(II)I"⟩, 70) := ⟨⟨by decide +kernel, by decide +kernel⟩, List.mem_of_getElem? (i := 952) (by decide +kernel), List.mem_of_getElem? (i := 1273) (by decide +kernel), List.mem_of_getElem? (i := 1274) (by decide +kernel)⟩
theorem lw_p43 : lw_okq (⟨"EarPaperModel", "goesThrough", "(II)I"⟩, 70) := ⟨⟨by decide +kernel, by decide +kernel⟩, List.mem_of_getElem? (i := 952) (by decide +kernel), List.mem_of_getElem? (i := 1277) (by decide +kernel), List.mem_of_getElem? (i := 1278) (by decide +kernel)⟩
theorem lw_p44 : lw_okq (⟨"EarPaperModel", "sum", "()I"⟩, 70) := ⟨⟨by decide +kernel, by decide +kernel⟩, List.mem_of_getElem? (i := 952) (by decide +kernel), List.mem_of_getElem? (i := 1281) (by decide +kernel), List.mem_of_getElem? (i := 1282) (by decide +kernel)⟩
theorem lw_p45 : lw_okq (⟨"EarPaperModel", "term", "()I"⟩, 70) := ⟨⟨by decide +kernel, by decide +kernel⟩, List.mem_of_getElem? (i := 952) (by decide +kernel), List.mem_of_getElem? (i := 1285) (by decide +kernel), List.mem_of_getElem? (i := 1286) (by decide +kernel)⟩
theorem lw_p46 : lw_okq (⟨"EarPaperModel", "unit", "()I"⟩, 70) := ⟨⟨by decide +kernel, by decide +kernel⟩, List.mem_of_getElem? (i := 952) (by decide +kernel), List.mem_of_getElem? (i := 1289) (by decide +kernel), List.mem_of_getElem? (i := 1290) (by decide +kernel)⟩
theorem lw_p47 : lw_okq (⟨"EarPaperModel", "sign", "()I"⟩, 70) := ⟨⟨by decide +kernel, by decide +kernel⟩, List.mem_of_getElem? (i := 952) (by decide +kernel), List.mem_of_getElem? (i := 1293) (by decide +kernel), List.mem_of_getElem? (i := 1294) (by decide +kernel)⟩
def lw_privs_3 : List (MethodName × Nat) := [(⟨"EarPaperModel", "goesBy", "(IIII)I"⟩, 70), (⟨"EarPaperModel", "isNode", "(I)Z"⟩, 70), (⟨"EarPaperModel", "sounds", "(III)V"⟩, 70), (⟨"EarPaperModel", "isCut", "(II)Z"⟩, 70), (⟨"EarPaperModel", "isHome", "(I)Z"⟩, 70), (⟨"EarPaperModel", "hearsNow", "(I)Z"⟩, 70), (⟨"EarPaperModel", "may", "(I)Z"⟩, 70), (⟨"EarPaperModel", "isPast", "(I)Z"⟩, 70), (⟨"EarPaperModel", "bare", "()V"⟩, 70), (⟨"EarPaperModel", "worth", "(III)I"⟩, 70), (⟨"EarPaperModel", "inForce", "(II)I"⟩, 70), (⟨"EarPaperModel", "goesThrough", "(II)I"⟩, 70), (⟨"EarPaperModel", "sum", "()I"⟩, 70), (⟨"EarPaperModel", "term", "()I"⟩, 70), (⟨"EarPaperModel", "unit", "()I"⟩, 70), (⟨"EarPaperModel", "sign", "()I"⟩, 70)]
theorem lw_r3 : ∀ q ∈ lw_privs_3, lw_okq q := List.forall_mem_cons.mpr ⟨lw_p32, List.forall_mem_cons.mpr ⟨lw_p33, List.forall_mem_cons.mpr ⟨lw_p34, List.forall_mem_cons.mpr ⟨lw_p35, List.forall_mem_cons.mpr ⟨lw_p36, List.forall_mem_cons.mpr ⟨lw_p37, List.forall_mem_cons.mpr ⟨lw_p38, List.forall_mem_cons.mpr ⟨lw_p39, List.forall_mem_cons.mpr ⟨lw_p40, List.forall_mem_cons.mpr ⟨lw_p41, List.forall_mem_cons.mpr ⟨lw_p42, List.forall_mem_cons.mpr ⟨lw_p43, List.forall_mem_cons.mpr ⟨lw_p44, List.forall_mem_cons.mpr ⟨lw_p45, List.forall_mem_cons.mpr ⟨lw_p46, List.forall_mem_cons.mpr ⟨lw_p47, fun _ h => absurd h List.not_mem_nil⟩⟩⟩⟩⟩⟩⟩⟩⟩⟩⟩⟩⟩⟩⟩⟩
theorem lw_p48 : lw_okq (⟨"EarPaperModel", "breaksOff", "()I"⟩, 70) := ⟨⟨by decide +kernel, by decide +kernel⟩, List.mem_of_getElem? (i := 952) (by decide +kernel), List.mem_of_getElem? (i := 1300) (by decide +kernel), List.mem_of_getElem? (i := 1301) (by decide +kernel)⟩
theorem lw_p49 : lw_okq (⟨"EarPaperModel", "takes", "(I)Z"⟩, 70) := ⟨⟨by decide +kernel, by decide +kernel⟩, List.mem_of_getElem? (i := 952) (by decide +kernel), List.mem_of_getElem? (i := 1304) (by decide +kernel), List.mem_of_getElem? (i := 1305) (by decide +kernel)⟩
theorem lw_p50 : lw_okq (⟨"EarPaperModel", "reads", "(III)I"⟩, 70) := ⟨⟨by decide +kernel, by decide +kernel⟩, List.mem_of_getElem? (i := 952) (by decide +kernel), List.mem_of_getElem? (i := 1313) (by decide +kernel), List.mem_of_getElem? (i := 1314) (by decide +kernel)⟩
theorem lw_p51 : lw_okq (⟨"EarPaperModel", "counts", "(I)V"⟩, 70) := ⟨⟨by decide +kernel, by decide +kernel⟩, List.mem_of_getElem? (i := 952) (by decide +kernel), List.mem_of_getElem? (i := 1325) (by decide +kernel), List.mem_of_getElem? (i := 1326) (by decide +kernel)⟩
theorem lw_p52 : lw_okq (⟨"EarPaperModel", "countsAnew", "(I)V"⟩, 70) := ⟨⟨by decide +kernel, by decide +kernel⟩, List.mem_of_getElem? (i := 952) (by decide +kernel), List.mem_of_getElem? (i := 1329) (by decide +kernel), List.mem_of_getElem? (i := 1330) (by decide +kernel)⟩
theorem lw_p53 : lw_okq (⟨"EarPaperModel", "listens", "(II)I"⟩, 70) := ⟨⟨by decide +kernel, by decide +kernel⟩, List.mem_of_getElem? (i := 952) (by decide +kernel), List.mem_of_getElem? (i := 1333) (by decide +kernel), List.mem_of_getElem? (i := 1334) (by decide +kernel)⟩
theorem lw_p54 : lw_okq (⟨"EarPaperModel", "heardBy", "(II)I"⟩, 70) := ⟨⟨by decide +kernel, by decide +kernel⟩, List.mem_of_getElem? (i := 952) (by decide +kernel), List.mem_of_getElem? (i := 1341) (by decide +kernel), List.mem_of_getElem? (i := 1342) (by decide +kernel)⟩
theorem lw_p55 : lw_okq (⟨"EarPaperModel", "worthOf", "(II)I"⟩, 70) := ⟨⟨by decide +kernel, by decide +kernel⟩, List.mem_of_getElem? (i := 952) (by decide +kernel), List.mem_of_getElem? (i := 1359) (by decide +kernel), List.mem_of_getElem? (i := 1360) (by decide +kernel)⟩
theorem lw_p56 : lw_okq (⟨"EarPaperModel", "puts", "(I)V"⟩, 70) := ⟨⟨by decide +kernel, by decide +kernel⟩, List.mem_of_getElem? (i := 952) (by decide +kernel), List.mem_of_getElem? (i := 1363) (by decide +kernel), List.mem_of_getElem? (i := 1364) (by decide +kernel)⟩
theorem lw_p57 : lw_okq (⟨"EarPaperModel", "findsForce", "(I)I"⟩, 70) := ⟨⟨by decide +kernel, by decide +kernel⟩, List.mem_of_getElem? (i := 952) (by decide +kernel), List.mem_of_getElem? (i := 1372) (by decide +kernel), List.mem_of_getElem? (i := 1373) (by decide +kernel)⟩
theorem lw_p58 : lw_okq (⟨"EarPaperModel", "asBefore", "(I)I"⟩, 70) := ⟨⟨by decide +kernel, by decide +kernel⟩, List.mem_of_getElem? (i := 952) (by decide +kernel), List.mem_of_getElem? (i := 1376) (by decide +kernel), List.mem_of_getElem? (i := 1377) (by decide +kernel)⟩
theorem lw_p59 : lw_okq (⟨"EarPaperModel", "has", "(II)Z"⟩, 70) := ⟨⟨by decide +kernel, by decide +kernel⟩, List.mem_of_getElem? (i := 952) (by decide +kernel), List.mem_of_getElem? (i := 1380) (by decide +kernel), List.mem_of_getElem? (i := 1381) (by decide +kernel)⟩
theorem lw_p60 : lw_okq (⟨"EarPaperModel", "explains", "(I)Z"⟩, 70) := ⟨⟨by decide +kernel, by decide +kernel⟩, List.mem_of_getElem? (i := 952) (by decide +kernel), List.mem_of_getElem? (i := 1398) (by decide +kernel), List.mem_of_getElem? (i := 1399) (by decide +kernel)⟩
theorem lw_p61 : lw_okq (⟨"EarPaperModel", "wrongHours", "(III)I"⟩, 70) := ⟨⟨by decide +kernel, by decide +kernel⟩, List.mem_of_getElem? (i := 952) (by decide +kernel), List.mem_of_getElem? (i := 1414) (by decide +kernel), List.mem_of_getElem? (i := 1415) (by decide +kernel)⟩
theorem lw_p62 : lw_okq (⟨"EarPaperModel", "asks", "(II)V"⟩, 70) := ⟨⟨by decide +kernel, by decide +kernel⟩, List.mem_of_getElem? (i := 952) (by decide +kernel), List.mem_of_getElem? (i := 1418) (by decide +kernel), List.mem_of_getElem? (i := 1419) (by decide +kernel)⟩
theorem lw_p63 : lw_okq (⟨"EarPaperModel", "coversBy", "(I)I"⟩, 70) := ⟨⟨by decide +kernel, by decide +kernel⟩, List.mem_of_getElem? (i := 952) (by decide +kernel), List.mem_of_getElem? (i := 1422) (by decide +kernel), List.mem_of_getElem? (i := 1423) (by decide +kernel)⟩
def lw_privs_4 : List (MethodName × Nat) := [(⟨"EarPaperModel", "breaksOff", "()I"⟩, 70), (⟨"EarPaperModel", "takes", "(I)Z"⟩, 70), (⟨"EarPaperModel", "reads", "(III)I"⟩, 70), (⟨"EarPaperModel", "counts", "(I)V"⟩, 70), (⟨"EarPaperModel", "countsAnew", "(I)V"⟩, 70), (⟨"EarPaperModel", "listens", "(II)I"⟩, 70), (⟨"EarPaperModel", "heardBy", "(II)I"⟩, 70), (⟨"EarPaperModel", "worthOf", "(II)I"⟩, 70), (⟨"EarPaperModel", "puts", "(I)V"⟩, 70), (⟨"EarPaperModel", "findsForce", "(I)I"⟩, 70), (⟨"EarPaperModel", "asBefore", "(I)I"⟩, 70), (⟨"EarPaperModel", "has", "(II)Z"⟩, 70), (⟨"EarPaperModel", "explains", "(I)Z"⟩, 70), (⟨"EarPaperModel", "wrongHours", "(III)I"⟩, 70), (⟨"EarPaperModel", "asks", "(II)V"⟩, 70), (⟨"EarPaperModel", "coversBy", "(I)I"⟩, 70)]
theorem lw_r4 : ∀ q ∈ lw_privs_4, lw_okq q := List.forall_mem_cons.mpr ⟨lw_p48, List.forall_mem_cons.mpr ⟨lw_p49, List.forall_mem_cons.mpr ⟨lw_p50, List.forall_mem_cons.mpr ⟨lw_p51, List.forall_mem_cons.mpr ⟨lw_p52, List.forall_mem_cons.mpr ⟨lw_p53, List.forall_mem_cons.mpr ⟨lw_p54, List.forall_mem_cons.mpr ⟨lw_p55, List.forall_mem_cons.mpr ⟨lw_p56, List.forall_mem_cons.mpr ⟨lw_p57, List.forall_mem_cons.mpr ⟨lw_p58, List.forall_mem_cons.mpr ⟨lw_p59, List.forall_mem_cons.mpr ⟨lw_p60, List.forall_mem_cons.mpr ⟨lw_p61, List.forall_mem_cons.mpr ⟨lw_p62, List.forall_mem_cons.mpr ⟨lw_p63, fun _ h => absurd h List.not_mem_nil⟩⟩⟩⟩⟩⟩⟩⟩⟩⟩⟩⟩⟩⟩⟩⟩
theorem lw_p64 : lw_okq (⟨"EarPaperModel", "counting", "()V"⟩, 70) := ⟨⟨by decide +kernel, by decide +kernel⟩, List.mem_of_getElem? (i := 952) (by decide +kernel), List.mem_of_getElem? (i := 1430) (by decide +kernel), List.mem_of_getElem? (i := 1431) (by decide +kernel)⟩
theorem lw_p65 : lw_okq (⟨"EarPaperModel", "isEnough", "(II)Z"⟩, 70) := ⟨⟨by decide +kernel, by decide +kernel⟩, List.mem_of_getElem? (i := 952) (by decide +kernel), List.mem_of_getElem? (i := 1434) (by decide +kernel), List.mem_of_getElem? (i := 1435) (by decide +kernel)⟩
def lw_privs_5 : List (MethodName × Nat) := [(⟨"EarPaperModel", "counting", "()V"⟩, 70), (⟨"EarPaperModel", "isEnough", "(II)Z"⟩, 70)]
theorem lw_r5 : ∀ q ∈ lw_privs_5, lw_okq q := List.forall_mem_cons.mpr ⟨lw_p64, List.forall_mem_cons.mpr ⟨lw_p65, fun _ h => absurd h List.not_mem_nil⟩⟩
def lw_privs : List (MethodName × Nat) := lw_privs_1 ++ (lw_privs_2 ++ (lw_privs_3 ++ (lw_privs_4 ++ (lw_privs_5))))
def lw_tbl : List Cond := k2_sels lw_privs ++ tables_1
theorem lw_privs_ok : ∀ q ∈ lw_privs, lw_okq q := by
  show ∀ q ∈ lw_privs_1 ++ (lw_privs_2 ++ (lw_privs_3 ++ (lw_privs_4 ++ (lw_privs_5)))), lw_okq q
  exact List.forall_mem_append.mpr ⟨lw_r1, List.forall_mem_append.mpr ⟨lw_r2, List.forall_mem_append.mpr ⟨lw_r3, List.forall_mem_append.mpr ⟨lw_r4, lw_r5⟩⟩⟩⟩

def RX0 : String := "EarPaper$Cut"
def TX0 : u_T := fun k => match k with
  | 0 => ("EarPaper$Cut", "node", "LEarPaper$Node;", true)
  | 1 => ("EarPaper$Cut", "from", "I", true)
  | _ => ("EarPaper$Cut", "to", "I", true)
def tyX0 : Nat → FieldType := fun k => match k with
  | 0 => .object "EarPaper$Node"
  | 1 => .int
  | _ => .int
theorem nmX0 : ∀ a, a < 3 → ∀ b, b < 3 → a ≠ b → (TX0 a).2.1 ≠ (TX0 b).2.1 := by decide +kernel
theorem tyX0_ok : ∀ k, k < 3 → parseFieldDescriptor (TX0 k).2.2.1 = some (tyX0 k) := by decide +kernel
abbrev cX0_init : ByteArray := prog_2_method_1_code
def yX0_init : MethodName := ⟨RX0, "<init>", "(LEarPaper$Node;II)V"⟩
def RX1 : String := "EarPaper$Home"
def TX1 : u_T := fun k => match k with
  | 0 => ("EarPaper$Home", "at", "LEarPaper$Node;", true)
  | 1 => ("EarPaper$Home", "ears", "I", true)
  | 2 => ("EarPaper$Home", "surely", "I", true)
  | 3 => ("EarPaper$Home", "maybe", "I", true)
  | _ => ("EarPaper$Home", "complains", "Z", false)
def tyX1 : Nat → FieldType := fun k => match k with
  | 0 => .object "EarPaper$Node"
  | 1 => .int
  | 2 => .int
  | 3 => .int
  | _ => .boolean
theorem nmX1 : ∀ a, a < 5 → ∀ b, b < 5 → a ≠ b → (TX1 a).2.1 ≠ (TX1 b).2.1 := by decide +kernel
theorem tyX1_ok : ∀ k, k < 5 → parseFieldDescriptor (TX1 k).2.2.1 = some (tyX1 k) := by decide +kernel
abbrev cX1_init : ByteArray := prog_3_method_1_code
def yX1_init : MethodName := ⟨RX1, "<init>", "(LEarPaper$Node;III)V"⟩
abbrev cX1_isReached : ByteArray := prog_3_method_2_code
def yX1_isReached : MethodName := ⟨RX1, "isReached", "(I)Z"⟩
def RX2 : String := "EarPaper$Log"
def TX2 : u_T := fun k => match k with
  | 0 => ("EarPaper$Log", "spans", "Ljava/util/ArrayList;", true)
  | 1 => ("EarPaper$Log", "now", "I", false)
  | 2 => ("EarPaper$Log", "deadOnes", "I", false)
  | _ => ("EarPaper$Log", "soldOnes", "I", false)
def tyX2 : Nat → FieldType := fun k => match k with
  | 0 => .object "java/util/ArrayList"
  | 1 => .int
  | 2 => .int
  | _ => .int
theorem nmX2 : ∀ a, a < 4 → ∀ b, b < 4 → a ≠ b → (TX2 a).2.1 ≠ (TX2 b).2.1 := by decide +kernel
theorem tyX2_ok : ∀ k, k < 4 → parseFieldDescriptor (TX2 k).2.2.1 = some (tyX2 k) := by decide +kernel
abbrev cX2_init : ByteArray := prog_4_method_1_code
def yX2_init : MethodName := ⟨RX2, "<init>", "()V"⟩
abbrev cX2_goBy : ByteArray := prog_4_method_2_code
def yX2_goBy : MethodName := ⟨RX2, "goBy", "(LEarPaper$Span;)V"⟩
abbrev cX2_spanOf : ByteArray := prog_4_method_3_code
def yX2_spanOf : MethodName := ⟨RX2, "spanOf", "(I)LEarPaper$Span;"⟩
def RX3 : String := "EarPaper$Net"
def TX3 : u_T := fun k => match k with
  | 0 => ("EarPaper$Net", "nodes", "Ljava/util/ArrayList;", true)
  | 1 => ("EarPaper$Net", "cuts", "Ljava/util/ArrayList;", true)
  | 2 => ("EarPaper$Net", "homes", "Ljava/util/ArrayList;", true)
  | 3 => ("EarPaper$Net", "chances", "Ljava/util/ArrayList;", true)
  | 4 => ("EarPaper$Net", "weather", "I", false)
  | 5 => ("EarPaper$Net", "least", "I", false)
  | 6 => ("EarPaper$Net", "sure", "I", false)
  | 7 => ("EarPaper$Net", "most", "I", false)
  | _ => ("EarPaper$Net", "listeners", "[J", true)
def tyX3 : Nat → FieldType := fun k => match k with
  | 0 => .object "java/util/ArrayList"
  | 1 => .object "java/util/ArrayList"
  | 2 => .object "java/util/ArrayList"
  | 3 => .object "java/util/ArrayList"
  | 4 => .int
  | 5 => .int
  | 6 => .int
  | 7 => .int
  | _ => .array .long
theorem nmX3 : ∀ a, a < 9 → ∀ b, b < 9 → a ≠ b → (TX3 a).2.1 ≠ (TX3 b).2.1 := by decide +kernel
theorem tyX3_ok : ∀ k, k < 9 → parseFieldDescriptor (TX3 k).2.2.1 = some (tyX3 k) := by decide +kernel
abbrev cX3_init : ByteArray := prog_5_method_1_code
def yX3_init : MethodName := ⟨RX3, "<init>", "()V"⟩
abbrev cX3_nodeOf : ByteArray := prog_5_method_2_code
def yX3_nodeOf : MethodName := ⟨RX3, "nodeOf", "(I)LEarPaper$Node;"⟩
abbrev cX3_homeOf : ByteArray := prog_5_method_3_code
def yX3_homeOf : MethodName := ⟨RX3, "homeOf", "(I)LEarPaper$Home;"⟩
abbrev cX3_carry : ByteArray := prog_5_method_4_code
def yX3_carry : MethodName := ⟨RX3, "carry", "(III)V"⟩
abbrev cX3_howHeard : ByteArray := prog_5_method_5_code
def yX3_howHeard : MethodName := ⟨RX3, "howHeard", "(LEarPaper$Home;LEarPaper$Span;I)I"⟩
abbrev cX3_tally : ByteArray := prog_5_method_6_code
def yX3_tally : MethodName := ⟨RX3, "tally", "(LEarPaper$Span;I)V"⟩
abbrev cX3_complaints : ByteArray := prog_5_method_7_code
def yX3_complaints : MethodName := ⟨RX3, "complaints", "()I"⟩
abbrev cX3_explain : ByteArray := prog_5_method_8_code
def yX3_explain : MethodName := ⟨RX3, "explain", "(I)I"⟩
abbrev cX3_breakable : ByteArray := prog_5_method_9_code
def yX3_breakable : MethodName := ⟨RX3, "breakable", "()I"⟩
abbrev cX3_hitsAllComplaints : ByteArray := prog_5_method_10_code
def yX3_hitsAllComplaints : MethodName := ⟨RX3, "hitsAllComplaints", "(I)Z"⟩
abbrev cX3_fewestBoosts : ByteArray := prog_5_method_11_code
def yX3_fewestBoosts : MethodName := ⟨RX3, "fewestBoosts", "(I)I"⟩
abbrev cX3_raise : ByteArray := prog_5_method_12_code
def yX3_raise : MethodName := ⟨RX3, "raise", "(I)V"⟩
abbrev cX3_allReachedWith : ByteArray := prog_5_method_13_code
def yX3_allReachedWith : MethodName := ⟨RX3, "allReachedWith", "(II)Z"⟩
abbrev cX3_findListeners : ByteArray := prog_5_method_14_code
def yX3_findListeners : MethodName := ⟨RX3, "findListeners", "(LEarPaper$Span;II)V"⟩
abbrev cX3_addListener : ByteArray := prog_5_method_15_code
def yX3_addListener : MethodName := ⟨RX3, "addListener", "(IJ)V"⟩
abbrev cX3_covered : ByteArray := prog_5_method_16_code
def yX3_covered : MethodName := ⟨RX3, "covered", "(I)I"⟩
abbrev cX3_fewestHours : ByteArray := prog_5_method_17_code
def yX3_fewestHours : MethodName := ⟨RX3, "fewestHours", "(II)I"⟩
def RX4 : String := "EarPaper$News"
def TX4 : u_T := fun k => match k with
  | 0 => ("EarPaper$News", "cameIn", "I", true)
  | 1 => ("EarPaper$News", "printedIn", "I", false)
  | _ => ("EarPaper$News", "firstRead", "I", false)
def tyX4 : Nat → FieldType := fun k => match k with
  | 0 => .int
  | 1 => .int
  | _ => .int
theorem nmX4 : ∀ a, a < 3 → ∀ b, b < 3 → a ≠ b → (TX4 a).2.1 ≠ (TX4 b).2.1 := by decide +kernel
theorem tyX4_ok : ∀ k, k < 3 → parseFieldDescriptor (TX4 k).2.2.1 = some (tyX4 k) := by decide +kernel
abbrev cX4_init : ByteArray := prog_6_method_1_code
def yX4_init : MethodName := ⟨RX4, "<init>", "(I)V"⟩
abbrev cX4_isFreshIn : ByteArray := prog_6_method_2_code
def yX4_isFreshIn : MethodName := ⟨RX4, "isFreshIn", "(I)Z"⟩
def RX5 : String := "EarPaper$Node"
def TX5 : u_T := fun k => match k with
  | 0 => ("EarPaper$Node", "on", "LEarPaper$Node;", true)
  | 1 => ("EarPaper$Node", "wire", "I", true)
  | 2 => ("EarPaper$Node", "path", "I", true)
  | 3 => ("EarPaper$Node", "boost", "I", false)
  | 4 => ("EarPaper$Node", "gain", "I", false)
  | 5 => ("EarPaper$Node", "extra", "I", false)
  | 6 => ("EarPaper$Node", "severed", "Z", false)
  | _ => ("EarPaper$Node", "volume", "I", false)
def tyX5 : Nat → FieldType := fun k => match k with
  | 0 => .object "EarPaper$Node"
  | 1 => .int
  | 2 => .int
  | 3 => .int
  | 4 => .int
  | 5 => .int
  | 6 => .boolean
  | _ => .int
theorem nmX5 : ∀ a, a < 8 → ∀ b, b < 8 → a ≠ b → (TX5 a).2.1 ≠ (TX5 b).2.1 := by decide +kernel
theorem tyX5_ok : ∀ k, k < 8 → parseFieldDescriptor (TX5 k).2.2.1 = some (tyX5 k) := by decide +kernel
abbrev cX5_init : ByteArray := prog_7_method_1_code
def yX5_init : MethodName := ⟨RX5, "<init>", "(LEarPaper$Node;II)V"⟩
abbrev cX5_receive : ByteArray := prog_7_method_2_code
def yX5_receive : MethodName := ⟨RX5, "receive", "(II)V"⟩
def RX6 : String := "EarPaper$Reader"
def TX6 : u_T := fun k => match k with
  | 0 => ("EarPaper$Reader", "voice", "I", true)
  | 1 => ("EarPaper$Reader", "lastRead", "I", false)
  | _ => ("EarPaper$Reader", "onEnd", "I", false)
def tyX6 : Nat → FieldType := fun k => match k with
  | 0 => .int
  | 1 => .int
  | _ => .int
theorem nmX6 : ∀ a, a < 3 → ∀ b, b < 3 → a ≠ b → (TX6 a).2.1 ≠ (TX6 b).2.1 := by decide +kernel
theorem tyX6_ok : ∀ k, k < 3 → parseFieldDescriptor (TX6 k).2.2.1 = some (tyX6 k) := by decide +kernel
abbrev cX6_init : ByteArray := prog_8_method_1_code
def yX6_init : MethodName := ⟨RX6, "<init>", "(I)V"⟩
abbrev cX6_isFree : ByteArray := prog_8_method_2_code
def yX6_isFree : MethodName := ⟨RX6, "isFree", "(III)Z"⟩
abbrev cX6_readIn : ByteArray := prog_8_method_3_code
def yX6_readIn : MethodName := ⟨RX6, "readIn", "(I)V"⟩
def RX7 : String := "EarPaper$Scale"
def TX7 : u_T := fun k => match k with
  | 0 => ("EarPaper$Scale", "stack", "[I", true)
  | 1 => ("EarPaper$Scale", "top", "I", false)
  | 2 => ("EarPaper$Scale", "kind", "I", false)
  | 3 => ("EarPaper$Scale", "hour", "I", false)
  | 4 => ("EarPaper$Scale", "voice", "I", false)
  | 5 => ("EarPaper$Scale", "sure", "I", false)
  | 6 => ("EarPaper$Scale", "most", "I", false)
  | 7 => ("EarPaper$Scale", "weather", "I", false)
  | 8 => ("EarPaper$Scale", "age", "I", false)
  | _ => ("EarPaper$Scale", "homes", "I", false)
def tyX7 : Nat → FieldType := fun k => match k with
  | 0 => .array .int
  | 1 => .int
  | 2 => .int
  | 3 => .int
  | 4 => .int
  | 5 => .int
  | 6 => .int
  | 7 => .int
  | 8 => .int
  | _ => .int
theorem nmX7 : ∀ a, a < 10 → ∀ b, b < 10 → a ≠ b → (TX7 a).2.1 ≠ (TX7 b).2.1 := by decide +kernel
theorem tyX7_ok : ∀ k, k < 10 → parseFieldDescriptor (TX7 k).2.2.1 = some (tyX7 k) := by decide +kernel
abbrev cX7_init : ByteArray := prog_9_method_1_code
def yX7_init : MethodName := ⟨RX7, "<init>", "()V"⟩
abbrev cX7_weigh : ByteArray := prog_9_method_2_code
def yX7_weigh : MethodName := ⟨RX7, "weigh", "([I)I"⟩
abbrev cX7_push : ByteArray := prog_9_method_3_code
def yX7_push : MethodName := ⟨RX7, "push", "(I)V"⟩
abbrev cX7_letter : ByteArray := prog_9_method_4_code
def yX7_letter : MethodName := ⟨RX7, "letter", "(I)I"⟩
abbrev cX7_join : ByteArray := prog_9_method_5_code
def yX7_join : MethodName := ⟨RX7, "join", "(I)V"⟩
abbrev cX7_work : ByteArray := prog_9_method_6_code
def yX7_work : MethodName := ⟨RX7, "work", "(IJJ)J"⟩
def RX8 : String := "EarPaper$Span"
def TX8 : u_T := fun k => match k with
  | 0 => ("EarPaper$Span", "from", "I", true)
  | 1 => ("EarPaper$Span", "last", "I", true)
  | 2 => ("EarPaper$Span", "kind", "I", true)
  | 3 => ("EarPaper$Span", "weather", "I", true)
  | 4 => ("EarPaper$Span", "reader", "I", false)
  | 5 => ("EarPaper$Span", "voice", "I", false)
  | _ => ("EarPaper$Span", "of", "I", false)
def tyX8 : Nat → FieldType := fun k => match k with
  | 0 => .int
  | 1 => .int
  | 2 => .int
  | 3 => .int
  | 4 => .int
  | 5 => .int
  | _ => .int
theorem nmX8 : ∀ a, a < 7 → ∀ b, b < 7 → a ≠ b → (TX8 a).2.1 ≠ (TX8 b).2.1 := by decide +kernel
theorem tyX8_ok : ∀ k, k < 7 → parseFieldDescriptor (TX8 k).2.2.1 = some (tyX8 k) := by decide +kernel
abbrev cX8_init : ByteArray := prog_10_method_1_code
def yX8_init : MethodName := ⟨RX8, "<init>", "(IIII)V"⟩
def RX9 : String := "EarPaper$Term"
def TX9 : u_T := fun k => match k with
  | 0 => ("EarPaper$Term", "purpose", "I", true)
  | 1 => ("EarPaper$Term", "from", "I", true)
  | 2 => ("EarPaper$Term", "code", "[I", true)
  | 3 => ("EarPaper$Term", "asksWho", "Z", true)
  | _ => ("EarPaper$Term", "asksAge", "Z", true)
def tyX9 : Nat → FieldType := fun k => match k with
  | 0 => .int
  | 1 => .int
  | 2 => .array .int
  | 3 => .boolean
  | _ => .boolean
theorem nmX9 : ∀ a, a < 5 → ∀ b, b < 5 → a ≠ b → (TX9 a).2.1 ≠ (TX9 b).2.1 := by decide +kernel
theorem tyX9_ok : ∀ k, k < 5 → parseFieldDescriptor (TX9 k).2.2.1 = some (tyX9 k) := by decide +kernel
abbrev cX9_init : ByteArray := prog_11_method_1_code
def yX9_init : MethodName := ⟨RX9, "<init>", "(II[I)V"⟩
abbrev cX9_holds : ByteArray := prog_11_method_2_code
def yX9_holds : MethodName := ⟨RX9, "holds", "([IC)Z"⟩
def RX10 : String := "EarPaper$Text"
def TX10 : u_T := fun k => match k with
  | 0 => ("EarPaper$Text", "bytes", "[I", true)
  | 1 => ("EarPaper$Text", "code", "[I", true)
  | 2 => ("EarPaper$Text", "length", "I", false)
  | 3 => ("EarPaper$Text", "codeLength", "I", false)
  | _ => ("EarPaper$Text", "place", "I", false)
def tyX10 : Nat → FieldType := fun k => match k with
  | 0 => .array .int
  | 1 => .array .int
  | 2 => .int
  | 3 => .int
  | _ => .int
theorem nmX10 : ∀ a, a < 5 → ∀ b, b < 5 → a ≠ b → (TX10 a).2.1 ≠ (TX10 b).2.1 := by decide +kernel
theorem tyX10_ok : ∀ k, k < 5 → parseFieldDescriptor (TX10 k).2.2.1 = some (tyX10 k) := by decide +kernel
abbrev cX10_init : ByteArray := prog_12_method_1_code
def yX10_init : MethodName := ⟨RX10, "<init>", "()V"⟩
abbrev cX10_take : ByteArray := prog_12_method_2_code
def yX10_take : MethodName := ⟨RX10, "take", "(I)V"⟩
abbrev cX10_parse : ByteArray := prog_12_method_3_code
def yX10_parse : MethodName := ⟨RX10, "parse", "()Z"⟩
abbrev cX10_madeCode : ByteArray := prog_12_method_4_code
def yX10_madeCode : MethodName := ⟨RX10, "madeCode", "()[I"⟩
abbrev cX10_next : ByteArray := prog_12_method_5_code
def yX10_next : MethodName := ⟨RX10, "next", "()I"⟩
abbrev cX10_emit : ByteArray := prog_12_method_6_code
def yX10_emit : MethodName := ⟨RX10, "emit", "(I)V"⟩
abbrev cX10_parseSum : ByteArray := prog_12_method_7_code
def yX10_parseSum : MethodName := ⟨RX10, "parseSum", "(I)Z"⟩
abbrev cX10_parseProduct : ByteArray := prog_12_method_8_code
def yX10_parseProduct : MethodName := ⟨RX10, "parseProduct", "(I)Z"⟩
abbrev cX10_parseUnit : ByteArray := prog_12_method_9_code
def yX10_parseUnit : MethodName := ⟨RX10, "parseUnit", "(I)Z"⟩
abbrev cX10_parseBracket : ByteArray := prog_12_method_10_code
def yX10_parseBracket : MethodName := ⟨RX10, "parseBracket", "(I)Z"⟩
abbrev cX10_parseNumber : ByteArray := prog_12_method_11_code
def yX10_parseNumber : MethodName := ⟨RX10, "parseNumber", "()V"⟩
abbrev cX10_isDigit : ByteArray := prog_12_method_12_code
def yX10_isDigit : MethodName := ⟨RX10, "isDigit", "(I)Z"⟩
abbrev cX10_isLetter : ByteArray := prog_12_method_13_code
def yX10_isLetter : MethodName := ⟨RX10, "isLetter", "(I)Z"⟩
def RX11 : String := "EarPaper"
def TX11 : u_T := fun k => match k with
  | 0 => ("EarPaper", "net", "LEarPaper$Net;", true)
  | 1 => ("EarPaper", "log", "LEarPaper$Log;", true)
  | 2 => ("EarPaper", "readers", "Ljava/util/ArrayList;", true)
  | 3 => ("EarPaper", "terms", "Ljava/util/ArrayList;", true)
  | 4 => ("EarPaper", "allNews", "Ljava/util/ArrayList;", true)
  | 5 => ("EarPaper", "tape", "LEarPaper$Text;", true)
  | 6 => ("EarPaper", "scale", "LEarPaper$Scale;", true)
  | 7 => ("EarPaper", "adverts", "[I", true)
  | 8 => ("EarPaper", "row", "[I", true)
  | 9 => ("EarPaper", "refusals", "[I", true)
  | 10 => ("EarPaper", "advertCount", "I", false)
  | 11 => ("EarPaper", "rowLength", "I", false)
  | 12 => ("EarPaper", "longest", "I", false)
  | _ => ("EarPaper", "rest", "I", false)
def tyX11 : Nat → FieldType := fun k => match k with
  | 0 => .object "EarPaper$Net"
  | 1 => .object "EarPaper$Log"
  | 2 => .object "java/util/ArrayList"
  | 3 => .object "java/util/ArrayList"
  | 4 => .object "java/util/ArrayList"
  | 5 => .object "EarPaper$Text"
  | 6 => .object "EarPaper$Scale"
  | 7 => .array .int
  | 8 => .array .int
  | 9 => .array .int
  | 10 => .int
  | 11 => .int
  | 12 => .int
  | _ => .int
theorem nmX11 : ∀ a, a < 14 → ∀ b, b < 14 → a ≠ b → (TX11 a).2.1 ≠ (TX11 b).2.1 := by decide +kernel
theorem tyX11_ok : ∀ k, k < 14 → parseFieldDescriptor (TX11 k).2.2.1 = some (tyX11 k) := by decide +kernel
abbrev cX11_init : ByteArray := prog_1_method_1_code
def yX11_init : MethodName := ⟨RX11, "<init>", "()V"⟩
abbrev cX11_pass : ByteArray := prog_1_method_2_code
def yX11_pass : MethodName := ⟨RX11, "pass", "(I)I"⟩
abbrev cX11_node : ByteArray := prog_1_method_3_code
def yX11_node : MethodName := ⟨RX11, "node", "(II)I"⟩
abbrev cX11_boost : ByteArray := prog_1_method_4_code
def yX11_boost : MethodName := ⟨RX11, "boost", "(II)I"⟩
abbrev cX11_weather : ByteArray := prog_1_method_5_code
def yX11_weather : MethodName := ⟨RX11, "weather", "(I)I"⟩
abbrev cX11_cut : ByteArray := prog_1_method_6_code
def yX11_cut : MethodName := ⟨RX11, "cut", "(III)I"⟩
abbrev cX11_loud : ByteArray := prog_1_method_7_code
def yX11_loud : MethodName := ⟨RX11, "loud", "(II)I"⟩
abbrev cX11_home : ByteArray := prog_1_method_8_code
def yX11_home : MethodName := ⟨RX11, "home", "(IIII)I"⟩
abbrev cX11_least : ByteArray := prog_1_method_9_code
def yX11_least : MethodName := ⟨RX11, "least", "(I)I"⟩
abbrev cX11_hears : ByteArray := prog_1_method_10_code
def yX11_hears : MethodName := ⟨RX11, "hears", "(II)I"⟩
abbrev cX11_reader : ByteArray := prog_1_method_11_code
def yX11_reader : MethodName := ⟨RX11, "reader", "(I)I"⟩
abbrev cX11_rests : ByteArray := prog_1_method_12_code
def yX11_rests : MethodName := ⟨RX11, "rests", "(II)I"⟩
abbrev cX11_mayRead : ByteArray := prog_1_method_13_code
def yX11_mayRead : MethodName := ⟨RX11, "mayRead", "(I)I"⟩
abbrev cX11_say : ByteArray := prog_1_method_14_code
def yX11_say : MethodName := ⟨RX11, "say", "(III)I"⟩
abbrev cX11_stage : ByteArray := prog_1_method_15_code
def yX11_stage : MethodName := ⟨RX11, "stage", "(I)I"⟩
abbrev cX11_minuteOf : ByteArray := prog_1_method_16_code
def yX11_minuteOf : MethodName := ⟨RX11, "minuteOf", "(II)I"⟩
abbrev cX11_heard : ByteArray := prog_1_method_17_code
def yX11_heard : MethodName := ⟨RX11, "heard", "(II)I"⟩
abbrev cX11_feed : ByteArray := prog_1_method_18_code
def yX11_feed : MethodName := ⟨RX11, "feed", "(IJ)I"⟩
abbrev cX11_term : ByteArray := prog_1_method_19_code
def yX11_term : MethodName := ⟨RX11, "term", "(II)I"⟩
abbrev cX11_worth : ByteArray := prog_1_method_20_code
def yX11_worth : MethodName := ⟨RX11, "worth", "(II)I"⟩
abbrev cX11_account : ByteArray := prog_1_method_21_code
def yX11_account : MethodName := ⟨RX11, "account", "(II)J"⟩
abbrev cX11_complain : ByteArray := prog_1_method_22_code
def yX11_complain : MethodName := ⟨RX11, "complain", "(IZ)I"⟩
abbrev cX11_breaks : ByteArray := prog_1_method_23_code
def yX11_breaks : MethodName := ⟨RX11, "breaks", "(I)I"⟩
abbrev cX11_could : ByteArray := prog_1_method_24_code
def yX11_could : MethodName := ⟨RX11, "could", "(II)I"⟩
abbrev cX11_boosts : ByteArray := prog_1_method_25_code
def yX11_boosts : MethodName := ⟨RX11, "boosts", "(I)I"⟩
abbrev cX11_covers : ByteArray := prog_1_method_26_code
def yX11_covers : MethodName := ⟨RX11, "covers", "(III)I"⟩
abbrev cX11_rights : ByteArray := prog_1_method_27_code
def yX11_rights : MethodName := ⟨RX11, "rights", "(III)I"⟩
abbrev cX11_news : ByteArray := prog_1_method_28_code
def yX11_news : MethodName := ⟨RX11, "news", "(Z)I"⟩
abbrev cX11_printed : ByteArray := prog_1_method_29_code
def yX11_printed : MethodName := ⟨RX11, "printed", "(II)I"⟩
abbrev cX11_lag : ByteArray := prog_1_method_30_code
def yX11_lag : MethodName := ⟨RX11, "lag", "(I)I"⟩
abbrev cX11_fresh : ByteArray := prog_1_method_31_code
def yX11_fresh : MethodName := ⟨RX11, "fresh", "(I)I"⟩
abbrev cX11_advert : ByteArray := prog_1_method_32_code
def yX11_advert : MethodName := ⟨RX11, "advert", "(I)I"⟩
abbrev cX11_sold : ByteArray := prog_1_method_33_code
def yX11_sold : MethodName := ⟨RX11, "sold", "(II)I"⟩
abbrev cX11_put : ByteArray := prog_1_method_34_code
def yX11_put : MethodName := ⟨RX11, "put", "(I)I"⟩
abbrev cX11_judge : ByteArray := prog_1_method_35_code
def yX11_judge : MethodName := ⟨RX11, "judge", "()I"⟩
abbrev cX11_order : ByteArray := prog_1_method_36_code
def yX11_order : MethodName := ⟨RX11, "order", "(IIII)I"⟩
abbrev cX11_check : ByteArray := prog_1_method_37_code
def yX11_check : MethodName := ⟨RX11, "check", "(I)I"⟩
abbrev cX11_count : ByteArray := prog_1_method_38_code
def yX11_count : MethodName := ⟨RX11, "count", "(I)I"⟩
abbrev cX11_refuse : ByteArray := prog_1_method_39_code
def yX11_refuse : MethodName := ⟨RX11, "refuse", "(I)I"⟩
abbrev cX11_refusedSoFar : ByteArray := prog_1_method_40_code
def yX11_refusedSoFar : MethodName := ⟨RX11, "refusedSoFar", "(I)I"⟩
abbrev cX11_voiceRefusal : ByteArray := prog_1_method_41_code
def yX11_voiceRefusal : MethodName := ⟨RX11, "voiceRefusal", "(I)I"⟩
abbrev cX11_correctionRefusal : ByteArray := prog_1_method_42_code
def yX11_correctionRefusal : MethodName := ⟨RX11, "correctionRefusal", "(LEarPaper$Span;II)I"⟩
abbrev cX11_readRefusal : ByteArray := prog_1_method_43_code
def yX11_readRefusal : MethodName := ⟨RX11, "readRefusal", "(LEarPaper$Span;)I"⟩
abbrev cX11_readerOf : ByteArray := prog_1_method_44_code
def yX11_readerOf : MethodName := ⟨RX11, "readerOf", "(I)LEarPaper$Reader;"⟩
abbrev cX11_newsOf : ByteArray := prog_1_method_45_code
def yX11_newsOf : MethodName := ⟨RX11, "newsOf", "(I)LEarPaper$News;"⟩
abbrev cX11_tellsOf : ByteArray := prog_1_method_46_code
def yX11_tellsOf : MethodName := ⟨RX11, "tellsOf", "(I)Z"⟩
abbrev cX11_isKnown : ByteArray := prog_1_method_47_code
def yX11_isKnown : MethodName := ⟨RX11, "isKnown", "(II)Z"⟩
abbrev cX11_isOfItsKind : ByteArray := prog_1_method_48_code
def yX11_isOfItsKind : MethodName := ⟨RX11, "isOfItsKind", "(II)Z"⟩
abbrev cX11_markRead : ByteArray := prog_1_method_49_code
def yX11_markRead : MethodName := ⟨RX11, "markRead", "(III)V"⟩
abbrev cX11_hourOf : ByteArray := prog_1_method_50_code
def yX11_hourOf : MethodName := ⟨RX11, "hourOf", "(I)I"⟩
abbrev cX11_inForce : ByteArray := prog_1_method_51_code
def yX11_inForce : MethodName := ⟨RX11, "inForce", "(II)LEarPaper$Term;"⟩
abbrev cX11_mayBreak : ByteArray := prog_1_method_52_code
def yX11_mayBreak : MethodName := ⟨RX11, "mayBreak", "(LEarPaper$Reader;)Z"⟩
abbrev cX11_worthIn : ByteArray := prog_1_method_53_code
def yX11_worthIn : MethodName := ⟨RX11, "worthIn", "(ILEarPaper$Span;I)I"⟩
abbrev cX11_valueOf : ByteArray := prog_1_method_54_code
def yX11_valueOf : MethodName := ⟨RX11, "valueOf", "(LEarPaper$Term;LEarPaper$Span;I)I"⟩
abbrev cX11_evenUntil : ByteArray := prog_1_method_55_code
def yX11_evenUntil : MethodName := ⟨RX11, "evenUntil", "(LEarPaper$Span;I)I"⟩
abbrev cX11_sumOf : ByteArray := prog_1_method_56_code
def yX11_sumOf : MethodName := ⟨RX11, "sumOf", "(ILEarPaper$Span;II)J"⟩
abbrev cX11_firstFair : ByteArray := prog_1_method_57_code
def yX11_firstFair : MethodName := ⟨RX11, "firstFair", "(III)I"⟩
abbrev cX11_fairOrder : ByteArray := prog_1_method_58_code
def yX11_fairOrder : MethodName := ⟨RX11, "fairOrder", "(IIII)I"⟩
def RX12 : String := "EarPaperModel"
def TX12 : u_T := fun k => match k with
  | 0 => ("EarPaperModel", "refusals", "[I", true)
  | 1 => ("EarPaperModel", "on", "[I", true)
  | 2 => ("EarPaperModel", "wire", "[I", true)
  | 3 => ("EarPaperModel", "boosted", "[I", true)
  | 4 => ("EarPaperModel", "more", "[I", true)
  | 5 => ("EarPaperModel", "cutNode", "[I", true)
  | 6 => ("EarPaperModel", "cutFrom", "[I", true)
  | 7 => ("EarPaperModel", "cutTo", "[I", true)
  | 8 => ("EarPaperModel", "homeNode", "[I", true)
  | 9 => ("EarPaperModel", "ears", "[I", true)
  | 10 => ("EarPaperModel", "surely", "[I", true)
  | 11 => ("EarPaperModel", "maybe", "[I", true)
  | 12 => ("EarPaperModel", "complains", "[Z", true)
  | 13 => ("EarPaperModel", "voice", "[I", true)
  | 14 => ("EarPaperModel", "lastRead", "[I", true)
  | 15 => ("EarPaperModel", "run", "[I", true)
  | 16 => ("EarPaperModel", "kind", "[I", true)
  | 17 => ("EarPaperModel", "reader", "[I", true)
  | 18 => ("EarPaperModel", "said", "[I", true)
  | 19 => ("EarPaperModel", "of", "[I", true)
  | 20 => ("EarPaperModel", "weathers", "[I", true)
  | 21 => ("EarPaperModel", "textSize", "[I", true)
  | 22 => ("EarPaperModel", "purpose", "[I", true)
  | 23 => ("EarPaperModel", "termFrom", "[I", true)
  | 24 => ("EarPaperModel", "text", "[I", true)
  | 25 => ("EarPaperModel", "couldNode", "[I", true)
  | 26 => ("EarPaperModel", "couldGain", "[I", true)
  | 27 => ("EarPaperModel", "came", "[I", true)
  | 28 => ("EarPaperModel", "printed", "[I", true)
  | 29 => ("EarPaperModel", "adverts", "[I", true)
  | 30 => ("EarPaperModel", "row", "[I", true)
  | 31 => ("EarPaperModel", "now", "I", false)
  | 32 => ("EarPaperModel", "nodes", "I", false)
  | 33 => ("EarPaperModel", "weather", "I", false)
  | 34 => ("EarPaperModel", "cuts", "I", false)
  | 35 => ("EarPaperModel", "homes", "I", false)
  | 36 => ("EarPaperModel", "least", "I", false)
  | 37 => ("EarPaperModel", "readers", "I", false)
  | 38 => ("EarPaperModel", "longest", "I", false)
  | 39 => ("EarPaperModel", "rest", "I", false)
  | 40 => ("EarPaperModel", "terms", "I", false)
  | 41 => ("EarPaperModel", "coulds", "I", false)
  | 42 => ("EarPaperModel", "news", "I", false)
  | 43 => ("EarPaperModel", "advertMany", "I", false)
  | 44 => ("EarPaperModel", "rowed", "I", false)
  | 45 => ("EarPaperModel", "solds", "I", false)
  | 46 => ("EarPaperModel", "loud", "[I", true)
  | 47 => ("EarPaperModel", "sure", "I", false)
  | 48 => ("EarPaperModel", "most", "I", false)
  | 49 => ("EarPaperModel", "told", "I", false)
  | 50 => ("EarPaperModel", "sureOf", "[I", true)
  | 51 => ("EarPaperModel", "mostOf", "[I", true)
  | 52 => ("EarPaperModel", "foundAt", "[I", true)
  | 53 => ("EarPaperModel", "tape", "[I", true)
  | 54 => ("EarPaperModel", "letters", "[I", true)
  | 55 => ("EarPaperModel", "taped", "I", false)
  | 56 => ("EarPaperModel", "at", "I", false)
  | 57 => ("EarPaperModel", "deep", "I", false)
  | 58 => ("EarPaperModel", "base", "I", false)
  | 59 => ("EarPaperModel", "size", "I", false)
  | 60 => ("EarPaperModel", "isWell", "Z", false)
  | 61 => ("EarPaperModel", "force", "[I", true)
  | 62 => ("EarPaperModel", "lastTerm", "[I", true)
  | 63 => ("EarPaperModel", "lastWorth", "[I", true)
  | 64 => ("EarPaperModel", "lastLetters", "[I", true)
  | 65 => ("EarPaperModel", "heardIt", "[Z", true)
  | 66 => ("EarPaperModel", "wouldHear", "[Z", true)
  | 67 => ("EarPaperModel", "hoursOf", "[I", true)
  | 68 => ("EarPaperModel", "counted", "I", false)
  | _ => ("EarPaperModel", "left", "[I", true)
def tyX12 : Nat → FieldType := fun k => match k with
  | 0 => .array .int
  | 1 => .array .int
  | 2 => .array .int
  | 3 => .array .int
  | 4 => .array .int
  | 5 => .array .int
  | 6 => .array .int
  | 7 => .array .int
  | 8 => .array .int
  | 9 => .array .int
  | 10 => .array .int
  | 11 => .array .int
  | 12 => .array .boolean
  | 13 => .array .int
  | 14 => .array .int
  | 15 => .array .int
  | 16 => .array .int
  | 17 => .array .int
  | 18 => .array .int
  | 19 => .array .int
  | 20 => .array .int
  | 21 => .array .int
  | 22 => .array .int
  | 23 => .array .int
  | 24 => .array .int
  | 25 => .array .int
  | 26 => .array .int
  | 27 => .array .int
  | 28 => .array .int
  | 29 => .array .int
  | 30 => .array .int
  | 31 => .int
  | 32 => .int
  | 33 => .int
  | 34 => .int
  | 35 => .int
  | 36 => .int
  | 37 => .int
  | 38 => .int
  | 39 => .int
  | 40 => .int
  | 41 => .int
  | 42 => .int
  | 43 => .int
  | 44 => .int
  | 45 => .int
  | 46 => .array .int
  | 47 => .int
  | 48 => .int
  | 49 => .int
  | 50 => .array .int
  | 51 => .array .int
  | 52 => .array .int
  | 53 => .array .int
  | 54 => .array .int
  | 55 => .int
  | 56 => .int
  | 57 => .int
  | 58 => .int
  | 59 => .int
  | 60 => .boolean
  | 61 => .array .int
  | 62 => .array .int
  | 63 => .array .int
  | 64 => .array .int
  | 65 => .array .boolean
  | 66 => .array .boolean
  | 67 => .array .int
  | 68 => .int
  | _ => .array .int
theorem nmX12 : ∀ a, a < 70 → ∀ b, b < 70 → a ≠ b → (TX12 a).2.1 ≠ (TX12 b).2.1 := by decide +kernel
theorem tyX12_ok : ∀ k, k < 70 → parseFieldDescriptor (TX12 k).2.2.1 = some (tyX12 k) := by decide +kernel
abbrev cX12_init : ByteArray := prog_14_method_1_code
def yX12_init : MethodName := ⟨RX12, "<init>", "()V"⟩
abbrev cX12_refuse : ByteArray := prog_14_method_2_code
def yX12_refuse : MethodName := ⟨RX12, "refuse", "(I)I"⟩
abbrev cX12_isIn : ByteArray := prog_14_method_3_code
def yX12_isIn : MethodName := ⟨RX12, "isIn", "(II)Z"⟩
abbrev cX12_within : ByteArray := prog_14_method_4_code
def yX12_within : MethodName := ⟨RX12, "within", "(III)I"⟩
abbrev cX12_isNode : ByteArray := prog_14_method_5_code
def yX12_isNode : MethodName := ⟨RX12, "isNode", "(I)Z"⟩
abbrev cX12_isHome : ByteArray := prog_14_method_6_code
def yX12_isHome : MethodName := ⟨RX12, "isHome", "(I)Z"⟩
abbrev cX12_isPast : ByteArray := prog_14_method_7_code
def yX12_isPast : MethodName := ⟨RX12, "isPast", "(I)Z"⟩
abbrev cX12_goesBy : ByteArray := prog_14_method_8_code
def yX12_goesBy : MethodName := ⟨RX12, "goesBy", "(IIII)I"⟩
abbrev cX12_pass : ByteArray := prog_14_method_9_code
def yX12_pass : MethodName := ⟨RX12, "pass", "(I)I"⟩
abbrev cX12_node : ByteArray := prog_14_method_10_code
def yX12_node : MethodName := ⟨RX12, "node", "(II)I"⟩
abbrev cX12_boost : ByteArray := prog_14_method_11_code
def yX12_boost : MethodName := ⟨RX12, "boost", "(II)I"⟩
abbrev cX12_weather : ByteArray := prog_14_method_12_code
def yX12_weather : MethodName := ⟨RX12, "weather", "(I)I"⟩
abbrev cX12_cut : ByteArray := prog_14_method_13_code
def yX12_cut : MethodName := ⟨RX12, "cut", "(III)I"⟩
abbrev cX12_isCut : ByteArray := prog_14_method_14_code
def yX12_isCut : MethodName := ⟨RX12, "isCut", "(II)Z"⟩
abbrev cX12_sounds : ByteArray := prog_14_method_15_code
def yX12_sounds : MethodName := ⟨RX12, "sounds", "(III)V"⟩
abbrev cX12_loud : ByteArray := prog_14_method_16_code
def yX12_loud : MethodName := ⟨RX12, "loud", "(II)I"⟩
abbrev cX12_home : ByteArray := prog_14_method_17_code
def yX12_home : MethodName := ⟨RX12, "home", "(IIII)I"⟩
abbrev cX12_least : ByteArray := prog_14_method_18_code
def yX12_least : MethodName := ⟨RX12, "least", "(I)I"⟩
abbrev cX12_hearsNow : ByteArray := prog_14_method_19_code
def yX12_hearsNow : MethodName := ⟨RX12, "hearsNow", "(I)Z"⟩
abbrev cX12_hears : ByteArray := prog_14_method_20_code
def yX12_hears : MethodName := ⟨RX12, "hears", "(II)I"⟩
abbrev cX12_reader : ByteArray := prog_14_method_21_code
def yX12_reader : MethodName := ⟨RX12, "reader", "(I)I"⟩
abbrev cX12_rests : ByteArray := prog_14_method_22_code
def yX12_rests : MethodName := ⟨RX12, "rests", "(II)I"⟩
abbrev cX12_may : ByteArray := prog_14_method_23_code
def yX12_may : MethodName := ⟨RX12, "may", "(I)Z"⟩
abbrev cX12_mayRead : ByteArray := prog_14_method_24_code
def yX12_mayRead : MethodName := ⟨RX12, "mayRead", "(I)I"⟩
abbrev cX12_reads : ByteArray := prog_14_method_25_code
def yX12_reads : MethodName := ⟨RX12, "reads", "(III)I"⟩
abbrev cX12_say : ByteArray := prog_14_method_26_code
def yX12_say : MethodName := ⟨RX12, "say", "(III)I"⟩
abbrev cX12_stage : ByteArray := prog_14_method_27_code
def yX12_stage : MethodName := ⟨RX12, "stage", "(I)I"⟩
abbrev cX12_listens : ByteArray := prog_14_method_28_code
def yX12_listens : MethodName := ⟨RX12, "listens", "(II)I"⟩
abbrev cX12_counts : ByteArray := prog_14_method_29_code
def yX12_counts : MethodName := ⟨RX12, "counts", "(I)V"⟩
abbrev cX12_countsAnew : ByteArray := prog_14_method_30_code
def yX12_countsAnew : MethodName := ⟨RX12, "countsAnew", "(I)V"⟩
abbrev cX12_minuteOf : ByteArray := prog_14_method_31_code
def yX12_minuteOf : MethodName := ⟨RX12, "minuteOf", "(II)I"⟩
abbrev cX12_heardBy : ByteArray := prog_14_method_32_code
def yX12_heardBy : MethodName := ⟨RX12, "heardBy", "(II)I"⟩
abbrev cX12_heard : ByteArray := prog_14_method_33_code
def yX12_heard : MethodName := ⟨RX12, "heard", "(II)I"⟩
abbrev cX12_feed : ByteArray := prog_14_method_34_code
def yX12_feed : MethodName := ⟨RX12, "feed", "(IJ)I"⟩
abbrev cX12_sign : ByteArray := prog_14_method_35_code
def yX12_sign : MethodName := ⟨RX12, "sign", "()I"⟩
abbrev cX12_held : ByteArray := prog_14_method_36_code
def yX12_held : MethodName := ⟨RX12, "held", "(J)I"⟩
abbrev cX12_takes : ByteArray := prog_14_method_37_code
def yX12_takes : MethodName := ⟨RX12, "takes", "(I)Z"⟩
abbrev cX12_isLetter : ByteArray := prog_14_method_38_code
def yX12_isLetter : MethodName := ⟨RX12, "isLetter", "(I)Z"⟩
abbrev cX12_sum : ByteArray := prog_14_method_39_code
def yX12_sum : MethodName := ⟨RX12, "sum", "()I"⟩
abbrev cX12_term : ByteArray := prog_14_method_40_code
def yX12_term : MethodName := ⟨RX12, "term", "()I"⟩
abbrev cX12_breaksOff : ByteArray := prog_14_method_41_code
def yX12_breaksOff : MethodName := ⟨RX12, "breaksOff", "()I"⟩
abbrev cX12_unit : ByteArray := prog_14_method_42_code
def yX12_unit : MethodName := ⟨RX12, "unit", "()I"⟩
abbrev cX12_goesThrough : ByteArray := prog_14_method_43_code
def yX12_goesThrough : MethodName := ⟨RX12, "goesThrough", "(II)I"⟩
abbrev cX12_term_ : ByteArray := prog_14_method_44_code
def yX12_term_ : MethodName := ⟨RX12, "term", "(II)I"⟩
abbrev cX12_bare : ByteArray := prog_14_method_45_code
def yX12_bare : MethodName := ⟨RX12, "bare", "()V"⟩
abbrev cX12_inForce : ByteArray := prog_14_method_46_code
def yX12_inForce : MethodName := ⟨RX12, "inForce", "(II)I"⟩
abbrev cX12_worth : ByteArray := prog_14_method_47_code
def yX12_worth : MethodName := ⟨RX12, "worth", "(III)I"⟩
abbrev cX12_puts : ByteArray := prog_14_method_48_code
def yX12_puts : MethodName := ⟨RX12, "puts", "(I)V"⟩
abbrev cX12_worthOf : ByteArray := prog_14_method_49_code
def yX12_worthOf : MethodName := ⟨RX12, "worthOf", "(II)I"⟩
abbrev cX12_worth_ : ByteArray := prog_14_method_50_code
def yX12_worth_ : MethodName := ⟨RX12, "worth", "(II)I"⟩
abbrev cX12_account : ByteArray := prog_14_method_51_code
def yX12_account : MethodName := ⟨RX12, "account", "(II)J"⟩
abbrev cX12_findsForce : ByteArray := prog_14_method_52_code
def yX12_findsForce : MethodName := ⟨RX12, "findsForce", "(I)I"⟩
abbrev cX12_letterOf : ByteArray := prog_14_method_53_code
def yX12_letterOf : MethodName := ⟨RX12, "letterOf", "(I)I"⟩
abbrev cX12_has : ByteArray := prog_14_method_54_code
def yX12_has : MethodName := ⟨RX12, "has", "(II)Z"⟩
abbrev cX12_asBefore : ByteArray := prog_14_method_55_code
def yX12_asBefore : MethodName := ⟨RX12, "asBefore", "(I)I"⟩
abbrev cX12_complain : ByteArray := prog_14_method_56_code
def yX12_complain : MethodName := ⟨RX12, "complain", "(IZ)I"⟩
abbrev cX12_bits : ByteArray := prog_14_method_57_code
def yX12_bits : MethodName := ⟨RX12, "bits", "(I)I"⟩
abbrev cX12_explains : ByteArray := prog_14_method_58_code
def yX12_explains : MethodName := ⟨RX12, "explains", "(I)Z"⟩
abbrev cX12_breaks : ByteArray := prog_14_method_59_code
def yX12_breaks : MethodName := ⟨RX12, "breaks", "(I)I"⟩
abbrev cX12_could : ByteArray := prog_14_method_60_code
def yX12_could : MethodName := ⟨RX12, "could", "(II)I"⟩
abbrev cX12_boosts : ByteArray := prog_14_method_61_code
def yX12_boosts : MethodName := ⟨RX12, "boosts", "(I)I"⟩
abbrev cX12_asks : ByteArray := prog_14_method_62_code
def yX12_asks : MethodName := ⟨RX12, "asks", "(II)V"⟩
abbrev cX12_coversBy : ByteArray := prog_14_method_63_code
def yX12_coversBy : MethodName := ⟨RX12, "coversBy", "(I)I"⟩
abbrev cX12_counting : ByteArray := prog_14_method_64_code
def yX12_counting : MethodName := ⟨RX12, "counting", "()V"⟩
abbrev cX12_isEnough : ByteArray := prog_14_method_65_code
def yX12_isEnough : MethodName := ⟨RX12, "isEnough", "(II)Z"⟩
abbrev cX12_wrongHours : ByteArray := prog_14_method_66_code
def yX12_wrongHours : MethodName := ⟨RX12, "wrongHours", "(III)I"⟩
abbrev cX12_covers : ByteArray := prog_14_method_67_code
def yX12_covers : MethodName := ⟨RX12, "covers", "(III)I"⟩
abbrev cX12_rights : ByteArray := prog_14_method_68_code
def yX12_rights : MethodName := ⟨RX12, "rights", "(III)I"⟩
abbrev cX12_news : ByteArray := prog_14_method_69_code
def yX12_news : MethodName := ⟨RX12, "news", "(Z)I"⟩
abbrev cX12_printed : ByteArray := prog_14_method_70_code
def yX12_printed : MethodName := ⟨RX12, "printed", "(II)I"⟩
abbrev cX12_lag : ByteArray := prog_14_method_71_code
def yX12_lag : MethodName := ⟨RX12, "lag", "(I)I"⟩
abbrev cX12_fresh : ByteArray := prog_14_method_72_code
def yX12_fresh : MethodName := ⟨RX12, "fresh", "(I)I"⟩
abbrev cX12_advert : ByteArray := prog_14_method_73_code
def yX12_advert : MethodName := ⟨RX12, "advert", "(I)I"⟩
abbrev cX12_sold : ByteArray := prog_14_method_74_code
def yX12_sold : MethodName := ⟨RX12, "sold", "(II)I"⟩
abbrev cX12_put : ByteArray := prog_14_method_75_code
def yX12_put : MethodName := ⟨RX12, "put", "(I)I"⟩
abbrev cX12_judge : ByteArray := prog_14_method_76_code
def yX12_judge : MethodName := ⟨RX12, "judge", "()I"⟩
abbrev cX12_order : ByteArray := prog_14_method_77_code
def yX12_order : MethodName := ⟨RX12, "order", "(IIII)I"⟩
abbrev cX12_check : ByteArray := prog_14_method_78_code
def yX12_check : MethodName := ⟨RX12, "check", "(I)I"⟩
abbrev cX12_count : ByteArray := prog_14_method_79_code
def yX12_count : MethodName := ⟨RX12, "count", "(I)I"⟩
def RJx145de : String := "java/io/Serializable"
def TJx145de : u_T := fun k => match k with
  | _ => ("", "", "", false)
def tyJx145de : Nat → FieldType := fun k => match k with
  | _ => .int
def RJx8e188 : String := "java/lang/Cloneable"
def TJx8e188 : u_T := fun k => match k with
  | _ => ("", "", "", false)
def tyJx8e188 : Nat → FieldType := fun k => match k with
  | _ => .int
def RJ6 : String := "java/lang/Integer"
def TJ6 : u_T := fun k => match k with
  | _ => ("", "", "", false)
def tyJ6 : Nat → FieldType := fun k => match k with
  | _ => .int
abbrev cJ6_bitCount_0f7a4 : ByteArray := prog_17_method_49_code
def yJ6_bitCount_0f7a4 : MethodName := ⟨RJ6, "bitCount", "(I)I"⟩
def RJxab1ab : String := "java/lang/Iterable"
def TJxab1ab : u_T := fun k => match k with
  | _ => ("", "", "", false)
def tyJxab1ab : Nat → FieldType := fun k => match k with
  | _ => .int
def RJ13 : String := "java/lang/Long"
def TJ13 : u_T := fun k => match k with
  | _ => ("", "", "", false)
def tyJ13 : Nat → FieldType := fun k => match k with
  | _ => .int
abbrev cJ13_bitCount_95d88 : ByteArray := prog_19_method_50_code
def yJ13_bitCount_95d88 : MethodName := ⟨RJ13, "bitCount", "(J)I"⟩
def RJ9 : String := "java/lang/Math"
def TJ9 : u_T := fun k => match k with
  | _ => ("", "", "", false)
def tyJ9 : Nat → FieldType := fun k => match k with
  | _ => .int
abbrev cJ9_max_7cf53 : ByteArray := prog_20_method_65_code
def yJ9_max_7cf53 : MethodName := ⟨RJ9, "max", "(II)I"⟩
abbrev cJ9_max_f86c9 : ByteArray := prog_20_method_66_code
def yJ9_max_f86c9 : MethodName := ⟨RJ9, "max", "(JJ)J"⟩
abbrev cJ9_min_7cf53 : ByteArray := prog_20_method_69_code
def yJ9_min_7cf53 : MethodName := ⟨RJ9, "min", "(II)I"⟩
abbrev cJ9_min_f86c9 : ByteArray := prog_20_method_70_code
def yJ9_min_f86c9 : MethodName := ⟨RJ9, "min", "(JJ)J"⟩
def RJ10 : String := "java/lang/System"
def TJ10 : u_T := fun k => match k with
  | _ => ("", "", "", false)
def tyJ10 : Nat → FieldType := fun k => match k with
  | _ => .int
def RJxa1e45 : String := "java/util/AbstractCollection"
def TJxa1e45 : u_T := fun k => match k with
  | _ => ("", "", "", false)
def tyJxa1e45 : Nat → FieldType := fun k => match k with
  | _ => .int
abbrev cJxa1e45_init_da8c8 : ByteArray := prog_22_method_1_code
def yJxa1e45_init_da8c8 : MethodName := ⟨RJxa1e45, "<init>", "()V"⟩
def RJxc12de : String := "java/util/AbstractList"
def TJxc12de : u_T := fun k => match k with
  | _ => ("", "", "", false)
def tyJxc12de : Nat → FieldType := fun k => match k with
  | _ => .int
abbrev cJxc12de_init_da8c8 : ByteArray := prog_23_method_1_code
def yJxc12de_init_da8c8 : MethodName := ⟨RJxc12de, "<init>", "()V"⟩
def RJx4a65c : String := "java/util/ArrayList"
def TJx4a65c : u_T := fun k => match k with
  | 0 => ("java/util/AbstractList", "modCount", "I", false)
  | 1 => ("java/util/ArrayList", "elementData", "[Ljava/lang/Object;", false)
  | _ => ("java/util/ArrayList", "size", "I", false)
def tyJx4a65c : Nat → FieldType := fun k => match k with
  | 0 => .int
  | 1 => .array (.object "java/lang/Object")
  | _ => .int
theorem nmJx4a65c : ∀ a, a < 3 → ∀ b, b < 3 → a ≠ b → (TJx4a65c a).2.1 ≠ (TJx4a65c b).2.1 := by decide +kernel
theorem tyJx4a65c_ok : ∀ k, k < 3 → parseFieldDescriptor (TJx4a65c k).2.2.1 = some (tyJx4a65c k) := by decide +kernel
abbrev cJx4a65c_init_da8c8 : ByteArray := prog_24_method_2_code
def yJx4a65c_init_da8c8 : MethodName := ⟨RJx4a65c, "<init>", "()V"⟩
abbrev cJx4a65c_grow_92f84 : ByteArray := prog_24_method_6_code
def yJx4a65c_grow_92f84 : MethodName := ⟨RJx4a65c, "grow", "(I)[Ljava/lang/Object;"⟩
abbrev cJx4a65c_grow_d5877 : ByteArray := prog_24_method_7_code
def yJx4a65c_grow_d5877 : MethodName := ⟨RJx4a65c, "grow", "()[Ljava/lang/Object;"⟩
abbrev cJx4a65c_size_8abf5 : ByteArray := prog_24_method_8_code
def yJx4a65c_size_8abf5 : MethodName := ⟨RJx4a65c, "size", "()I"⟩
abbrev cJx4a65c_isEmpty_aae02 : ByteArray := prog_24_method_9_code
def yJx4a65c_isEmpty_aae02 : MethodName := ⟨RJx4a65c, "isEmpty", "()Z"⟩
abbrev cJx4a65c_elementData_915e3 : ByteArray := prog_24_method_18_code
def yJx4a65c_elementData_915e3 : MethodName := ⟨RJx4a65c, "elementData", "(I)Ljava/lang/Object;"⟩
abbrev cJx4a65c_get_915e3 : ByteArray := prog_24_method_20_code
def yJx4a65c_get_915e3 : MethodName := ⟨RJx4a65c, "get", "(I)Ljava/lang/Object;"⟩
abbrev cJx4a65c_add_72be8 : ByteArray := prog_24_method_24_code
def yJx4a65c_add_72be8 : MethodName := ⟨RJx4a65c, "add", "(Ljava/lang/Object;[Ljava/lang/Object;I)V"⟩
abbrev cJx4a65c_add_9ea2d : ByteArray := prog_24_method_25_code
def yJx4a65c_add_9ea2d : MethodName := ⟨RJx4a65c, "add", "(Ljava/lang/Object;)Z"⟩
def RJ7 : String := "java/util/Arrays"
def TJ7 : u_T := fun k => match k with
  | _ => ("", "", "", false)
def tyJ7 : Nat → FieldType := fun k => match k with
  | _ => .int
abbrev cJ7_fill_d0a16 : ByteArray := prog_25_method_101_code
def yJ7_fill_d0a16 : MethodName := ⟨RJ7, "fill", "([JJ)V"⟩
abbrev cJ7_copyOf_1904c : ByteArray := prog_25_method_119_code
def yJ7_copyOf_1904c : MethodName := ⟨RJ7, "copyOf", "([Ljava/lang/Object;I)[Ljava/lang/Object;"⟩
abbrev cJ7_copyOf_6403c : ByteArray := prog_25_method_120_code
def yJ7_copyOf_6403c : MethodName := ⟨RJ7, "copyOf", "([Ljava/lang/Object;ILjava/lang/Class;)[Ljava/lang/Object;"⟩
abbrev cJ7_copyOf_59c91 : ByteArray := prog_25_method_123_code
def yJ7_copyOf_59c91 : MethodName := ⟨RJ7, "copyOf", "([II)[I"⟩
def RJx5ef63 : String := "java/util/Collection"
def TJx5ef63 : u_T := fun k => match k with
  | _ => ("", "", "", false)
def tyJx5ef63 : Nat → FieldType := fun k => match k with
  | _ => .int
def RJxbd725 : String := "java/util/List"
def TJxbd725 : u_T := fun k => match k with
  | _ => ("", "", "", false)
def tyJxbd725 : Nat → FieldType := fun k => match k with
  | _ => .int
def RJ15 : String := "java/util/Objects"
def TJ15 : u_T := fun k => match k with
  | _ => ("", "", "", false)
def tyJ15 : Nat → FieldType := fun k => match k with
  | _ => .int
abbrev cJ15_checkIndex_7cf53 : ByteArray := prog_28_method_17_code
def yJ15_checkIndex_7cf53 : MethodName := ⟨RJ15, "checkIndex", "(II)I"⟩
def RJxf0a74 : String := "java/util/RandomAccess"
def TJxf0a74 : u_T := fun k => match k with
  | _ => ("", "", "", false)
def tyJxf0a74 : Nat → FieldType := fun k => match k with
  | _ => .int
def RJxa66e6 : String := "java/util/SequencedCollection"
def TJxa66e6 : u_T := fun k => match k with
  | _ => ("", "", "", false)
def tyJxa66e6 : Nat → FieldType := fun k => match k with
  | _ => .int
def RJ8 : String := "jdk/internal/util/ArraysSupport"
def TJ8 : u_T := fun k => match k with
  | _ => ("", "", "", false)
def tyJ8 : Nat → FieldType := fun k => match k with
  | _ => .int
abbrev cJ8_newLength_cabcc : ByteArray := prog_31_method_27_code
def yJ8_newLength_cabcc : MethodName := ⟨RJ8, "newLength", "(III)I"⟩
abbrev cJ8_hugeLength_7cf53 : ByteArray := prog_31_method_28_code
def yJ8_hugeLength_7cf53 : MethodName := ⟨RJ8, "hugeLength", "(II)I"⟩
def RJ3 : String := "jdk/internal/util/Preconditions"
def TJ3 : u_T := fun k => match k with
  | _ => ("", "", "", false)
def tyJ3 : Nat → FieldType := fun k => match k with
  | _ => .int
abbrev cJ3_checkIndex_8e157 : ByteArray := prog_32_method_11_code
def yJ3_checkIndex_8e157 : MethodName := ⟨RJ3, "checkIndex", "(IILjava/util/function/BiFunction;)I"⟩
def RL : String := "EarPaperLaw"
abbrev cL_law : ByteArray := code
def yL_law : MethodName := ⟨RL, "law", "([I)Z"⟩
abbrev vwCl : List vw_C := [(RJx4a65c, TJx4a65c, 3), (RX0, TX0, 3), (RX1, TX1, 5), (RX2, TX2, 4), (RX3, TX3, 9), (RX4, TX4, 3), (RX5, TX5, 8), (RX6, TX6, 3), (RX7, TX7, 10), (RX8, TX8, 7), (RX9, TX9, 5), (RX10, TX10, 5), (RX11, TX11, 14), (RX12, TX12, 70)]
