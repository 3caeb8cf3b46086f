section
-- ===== PART A: goes FIRST, ahead of the names: the tables' words, and 'selects' of the private methods out of them =====
/-- a private method of a class that the tables say can be made, by its rows of tables_1 -/
def lw_okq (q : MethodName × Nat) : Prop := (q.1.cls ≠ "java/lang/invoke/MethodHandle" ∧ q.1.cls ≠ "java/lang/invoke/VarHandle") ∧ Cond.instantiable q.1.cls q.2 ∈ tables_1 ∧ Cond.privateMethod q.1 ∈ tables_1 ∧ Cond.instanceMethod q.1 ∈ tables_1
theorem lw_p0 : lw_okq (⟨"WharfPapers", "isTarget", "(II)Z"⟩, 15) := ⟨⟨by decide +kernel, by decide +kernel⟩, List.mem_of_getElem? (i := 20) (by decide +kernel), List.mem_of_getElem? (i := 510) (by decide +kernel), List.mem_of_getElem? (i := 511) (by decide +kernel)⟩
theorem lw_p1 : lw_okq (⟨"WharfPapers$Story", "clear", "()V"⟩, 16) := ⟨⟨by decide +kernel, by decide +kernel⟩, List.mem_of_getElem? (i := 200) (by decide +kernel), List.mem_of_getElem? (i := 541) (by decide +kernel), List.mem_of_getElem? (i := 542) (by decide +kernel)⟩
theorem lw_p2 : lw_okq (⟨"WharfPapers$Story", "isDone", "(I)Z"⟩, 16) := ⟨⟨by decide +kernel, by decide +kernel⟩, List.mem_of_getElem? (i := 200) (by decide +kernel), List.mem_of_getElem? (i := 550) (by decide +kernel), List.mem_of_getElem? (i := 551) (by decide +kernel)⟩
theorem lw_p3 : lw_okq (⟨"WharfPapers$Story", "issue", "(II)Z"⟩, 16) := ⟨⟨by decide +kernel, by decide +kernel⟩, List.mem_of_getElem? (i := 200) (by decide +kernel), List.mem_of_getElem? (i := 554) (by decide +kernel), List.mem_of_getElem? (i := 555) (by decide +kernel)⟩
theorem lw_p4 : lw_okq (⟨"WharfPapers$Story", "make", "(IIIII)V"⟩, 16) := ⟨⟨by decide +kernel, by decide +kernel⟩, List.mem_of_getElem? (i := 200) (by decide +kernel), List.mem_of_getElem? (i := 558) (by decide +kernel), List.mem_of_getElem? (i := 559) (by decide +kernel)⟩
theorem lw_p5 : lw_okq (⟨"WharfPapers$Story", "pass", "(II)Z"⟩, 16) := ⟨⟨by decide +kernel, by decide +kernel⟩, List.mem_of_getElem? (i := 200) (by decide +kernel), List.mem_of_getElem? (i := 573) (by decide +kernel), List.mem_of_getElem? (i := 574) (by decide +kernel)⟩
theorem lw_p6 : lw_okq (⟨"WharfPapers$Terms", "hold", "(I)V"⟩, 9) := ⟨⟨by decide +kernel, by decide +kernel⟩, List.mem_of_getElem? (i := 123) (by decide +kernel), List.mem_of_getElem? (i := 581) (by decide +kernel), List.mem_of_getElem? (i := 582) (by decide +kernel)⟩
theorem lw_p7 : lw_okq (⟨"WharfPapers$Terms", "strike", "(I)V"⟩, 9) := ⟨⟨by decide +kernel, by decide +kernel⟩, List.mem_of_getElem? (i := 123) (by decide +kernel), List.mem_of_getElem? (i := 585) (by decide +kernel), List.mem_of_getElem? (i := 586) (by decide +kernel)⟩
theorem lw_p8 : lw_okq (⟨"WharfPapers$Terms", "rule", "(I)V"⟩, 9) := ⟨⟨by decide +kernel, by decide +kernel⟩, List.mem_of_getElem? (i := 123) (by decide +kernel), List.mem_of_getElem? (i := 591) (by decide +kernel), List.mem_of_getElem? (i := 592) (by decide +kernel)⟩
theorem lw_p9 : lw_okq (⟨"WharfPapers$Story", "divide", "(II)Z"⟩, 16) := ⟨⟨by decide +kernel, by decide +kernel⟩, List.mem_of_getElem? (i := 200) (by decide +kernel), List.mem_of_getElem? (i := 595) (by decide +kernel), List.mem_of_getElem? (i := 596) (by decide +kernel)⟩
theorem lw_p10 : lw_okq (⟨"WharfPapers$Story", "isBound", "(I)Z"⟩, 16) := ⟨⟨by decide +kernel, by decide +kernel⟩, List.mem_of_getElem? (i := 200) (by decide +kernel), List.mem_of_getElem? (i := 599) (by decide +kernel), List.mem_of_getElem? (i := 600) (by decide +kernel)⟩
theorem lw_p11 : lw_okq (⟨"WharfPapers$Story", "lend", "(II)Z"⟩, 16) := ⟨⟨by decide +kernel, by decide +kernel⟩, List.mem_of_getElem? (i := 200) (by decide +kernel), List.mem_of_getElem? (i := 603) (by decide +kernel), List.mem_of_getElem? (i := 604) (by decide +kernel)⟩
theorem lw_p12 : lw_okq (⟨"WharfPapers$Story", "repay", "(I)Z"⟩, 16) := ⟨⟨by decide +kernel, by decide +kernel⟩, List.mem_of_getElem? (i := 200) (by decide +kernel), List.mem_of_getElem? (i := 607) (by decide +kernel), List.mem_of_getElem? (i := 608) (by decide +kernel)⟩
theorem lw_p13 : lw_okq (⟨"WharfPapers$Story", "stop", "(II)Z"⟩, 16) := ⟨⟨by decide +kernel, by decide +kernel⟩, List.mem_of_getElem? (i := 200) (by decide +kernel), List.mem_of_getElem? (i := 611) (by decide +kernel), List.mem_of_getElem? (i := 612) (by decide +kernel)⟩
theorem lw_p14 : lw_okq (⟨"WharfPapers$Story", "free", "(I)Z"⟩, 16) := ⟨⟨by decide +kernel, by decide +kernel⟩, List.mem_of_getElem? (i := 200) (by decide +kernel), List.mem_of_getElem? (i := 615) (by decide +kernel), List.mem_of_getElem? (i := 616) (by decide +kernel)⟩
theorem lw_p15 : lw_okq (⟨"WharfPapers$Story", "handOut", "(II)Z"⟩, 16) := ⟨⟨by decide +kernel, by decide +kernel⟩, List.mem_of_getElem? (i := 200) (by decide +kernel), List.mem_of_getElem? (i := 619) (by decide +kernel), List.mem_of_getElem? (i := 620) (by decide +kernel)⟩
def lw_privs_1 : List (MethodName × Nat) := [(⟨"WharfPapers", "isTarget", "(II)Z"⟩, 15), (⟨"WharfPapers$Story", "clear", "()V"⟩, 16), (⟨"WharfPapers$Story", "isDone", "(I)Z"⟩, 16), (⟨"WharfPapers$Story", "issue", "(II)Z"⟩, 16), (⟨"WharfPapers$Story", "make", "(IIIII)V"⟩, 16), (⟨"WharfPapers$Story", "pass", "(II)Z"⟩, 16), (⟨"WharfPapers$Terms", "hold", "(I)V"⟩, 9), (⟨"WharfPapers$Terms", "strike", "(I)V"⟩, 9), (⟨"WharfPapers$Terms", "rule", "(I)V"⟩, 9), (⟨"WharfPapers$Story", "divide", "(II)Z"⟩, 16), (⟨"WharfPapers$Story", "isBound", "(I)Z"⟩, 16), (⟨"WharfPapers$Story", "lend", "(II)Z"⟩, 16), (⟨"WharfPapers$Story", "repay", "(I)Z"⟩, 16), (⟨"WharfPapers$Story", "stop", "(II)Z"⟩, 16), (⟨"WharfPapers$Story", "free", "(I)Z"⟩, 16), (⟨"WharfPapers$Story", "handOut", "(II)Z"⟩, 16)]
theorem lw_r1 : ∀ q ∈ lw_privs_1, lw_okq q := List.forall_mem_cons.mpr ⟨lw_p0, List.forall_mem_cons.mpr ⟨lw_p1, List.forall_mem_cons.mpr ⟨lw_p2, List.forall_mem_cons.mpr ⟨lw_p3, List.forall_mem_cons.mpr ⟨lw_p4, List.forall_mem_cons.mpr ⟨lw_p5, List.forall_mem_cons.mpr ⟨lw_p6, List.forall_mem_cons.mpr ⟨lw_p7, List.forall_mem_cons.mpr ⟨lw_p8, List.forall_mem_cons.mpr ⟨lw_p9, List.forall_mem_cons.mpr ⟨lw_p10, List.forall_mem_cons.mpr ⟨lw_p11, List.forall_mem_cons.mpr ⟨lw_p12, List.forall_mem_cons.mpr ⟨lw_p13, List.forall_mem_cons.mpr ⟨lw_p14, List.forall_mem_cons.mpr ⟨lw_p15, fun _ h => absurd h List.not_mem_nil⟩⟩⟩⟩⟩⟩⟩⟩⟩⟩⟩⟩⟩⟩⟩⟩
theorem lw_p16 : lw_okq (⟨"WharfPapers$Story", "burn", "(II)Z"⟩, 16) := ⟨⟨by decide +kernel, by decide +kernel⟩, List.mem_of_getElem? (i := 200) (by decide +kernel), List.mem_of_getElem? (i := 623) (by decide +kernel), List.mem_of_getElem? (i := 624) (by decide +kernel)⟩
theorem lw_p17 : lw_okq (⟨"WharfPapers$Story", "steal", "(II)Z"⟩, 16) := ⟨⟨by decide +kernel, by decide +kernel⟩, List.mem_of_getElem? (i := 200) (by decide +kernel), List.mem_of_getElem? (i := 627) (by decide +kernel), List.mem_of_getElem? (i := 628) (by decide +kernel)⟩
theorem lw_p18 : lw_okq (⟨"WharfPapers$Reader", "skipBlanks", "()V"⟩, 9) := ⟨⟨by decide +kernel, by decide +kernel⟩, List.mem_of_getElem? (i := 160) (by decide +kernel), List.mem_of_getElem? (i := 675) (by decide +kernel), List.mem_of_getElem? (i := 676) (by decide +kernel)⟩
theorem lw_p19 : lw_okq (⟨"WharfPapers$Reader", "readClause", "(I)V"⟩, 9) := ⟨⟨by decide +kernel, by decide +kernel⟩, List.mem_of_getElem? (i := 160) (by decide +kernel), List.mem_of_getElem? (i := 679) (by decide +kernel), List.mem_of_getElem? (i := 680) (by decide +kernel)⟩
theorem lw_p20 : lw_okq (⟨"WharfPapers$Reader", "takeWord", "(II)I"⟩, 9) := ⟨⟨by decide +kernel, by decide +kernel⟩, List.mem_of_getElem? (i := 160) (by decide +kernel), List.mem_of_getElem? (i := 683) (by decide +kernel), List.mem_of_getElem? (i := 684) (by decide +kernel)⟩
theorem lw_p21 : lw_okq (⟨"WharfPapers$Reader", "isSpelled", "(Ljava/lang/String;I)Z"⟩, 9) := ⟨⟨by decide +kernel, by decide +kernel⟩, List.mem_of_getElem? (i := 160) (by decide +kernel), List.mem_of_getElem? (i := 703) (by decide +kernel), List.mem_of_getElem? (i := 704) (by decide +kernel)⟩
theorem lw_p22 : lw_okq (⟨"WharfPapers$Reader", "fail", "(II)V"⟩, 9) := ⟨⟨by decide +kernel, by decide +kernel⟩, List.mem_of_getElem? (i := 160) (by decide +kernel), List.mem_of_getElem? (i := 755) (by decide +kernel), List.mem_of_getElem? (i := 756) (by decide +kernel)⟩
theorem lw_p23 : lw_okq (⟨"WharfPapers$Reader", "readLet", "()V"⟩, 9) := ⟨⟨by decide +kernel, by decide +kernel⟩, List.mem_of_getElem? (i := 160) (by decide +kernel), List.mem_of_getElem? (i := 759) (by decide +kernel), List.mem_of_getElem? (i := 760) (by decide +kernel)⟩
theorem lw_p24 : lw_okq (⟨"WharfPapers$Reader", "takeNumber", "(I)I"⟩, 9) := ⟨⟨by decide +kernel, by decide +kernel⟩, List.mem_of_getElem? (i := 160) (by decide +kernel), List.mem_of_getElem? (i := 765) (by decide +kernel), List.mem_of_getElem? (i := 766) (by decide +kernel)⟩
theorem lw_p25 : lw_okq (⟨"WharfPapers$Reader", "keep", "(II)V"⟩, 9) := ⟨⟨by decide +kernel, by decide +kernel⟩, List.mem_of_getElem? (i := 160) (by decide +kernel), List.mem_of_getElem? (i := 769) (by decide +kernel), List.mem_of_getElem? (i := 770) (by decide +kernel)⟩
theorem lw_p26 : lw_okq (⟨"WharfPapers$Reader", "takeIf", "(C)Z"⟩, 9) := ⟨⟨by decide +kernel, by decide +kernel⟩, List.mem_of_getElem? (i := 160) (by decide +kernel), List.mem_of_getElem? (i := 773) (by decide +kernel), List.mem_of_getElem? (i := 774) (by decide +kernel)⟩
theorem lw_p27 : lw_okq (⟨"WharfPapers$Reader", "readDry", "()V"⟩, 9) := ⟨⟨by decide +kernel, by decide +kernel⟩, List.mem_of_getElem? (i := 160) (by decide +kernel), List.mem_of_getElem? (i := 777) (by decide +kernel), List.mem_of_getElem? (i := 778) (by decide +kernel)⟩
theorem lw_p28 : lw_okq (⟨"WharfPapers$Reader", "takeKeys", "()I"⟩, 9) := ⟨⟨by decide +kernel, by decide +kernel⟩, List.mem_of_getElem? (i := 160) (by decide +kernel), List.mem_of_getElem? (i := 781) (by decide +kernel), List.mem_of_getElem? (i := 782) (by decide +kernel)⟩
theorem lw_p29 : lw_okq (⟨"WharfPapers$Reader", "takeTerm", "(I)I"⟩, 9) := ⟨⟨by decide +kernel, by decide +kernel⟩, List.mem_of_getElem? (i := 160) (by decide +kernel), List.mem_of_getElem? (i := 785) (by decide +kernel), List.mem_of_getElem? (i := 786) (by decide +kernel)⟩
theorem lw_p30 : lw_okq (⟨"WharfPapers", "isAsked", "(II)Z"⟩, 15) := ⟨⟨by decide +kernel, by decide +kernel⟩, List.mem_of_getElem? (i := 20) (by decide +kernel), List.mem_of_getElem? (i := 817) (by decide +kernel), List.mem_of_getElem? (i := 818) (by decide +kernel)⟩
theorem lw_p31 : lw_okq (⟨"WharfPapers", "shareAsTold", "(IZ)I"⟩, 15) := ⟨⟨by decide +kernel, by decide +kernel⟩, List.mem_of_getElem? (i := 20) (by decide +kernel), List.mem_of_getElem? (i := 831) (by decide +kernel), List.mem_of_getElem? (i := 832) (by decide +kernel)⟩
def lw_privs_2 : List (MethodName × Nat) := [(⟨"WharfPapers$Story", "burn", "(II)Z"⟩, 16), (⟨"WharfPapers$Story", "steal", "(II)Z"⟩, 16), (⟨"WharfPapers$Reader", "skipBlanks", "()V"⟩, 9), (⟨"WharfPapers$Reader", "readClause", "(I)V"⟩, 9), (⟨"WharfPapers$Reader", "takeWord", "(II)I"⟩, 9), (⟨"WharfPapers$Reader", "isSpelled", "(Ljava/lang/String;I)Z"⟩, 9), (⟨"WharfPapers$Reader", "fail", "(II)V"⟩, 9), (⟨"WharfPapers$Reader", "readLet", "()V"⟩, 9), (⟨"WharfPapers$Reader", "takeNumber", "(I)I"⟩, 9), (⟨"WharfPapers$Reader", "keep", "(II)V"⟩, 9), (⟨"WharfPapers$Reader", "takeIf", "(C)Z"⟩, 9), (⟨"WharfPapers$Reader", "readDry", "()V"⟩, 9), (⟨"WharfPapers$Reader", "takeKeys", "()I"⟩, 9), (⟨"WharfPapers$Reader", "takeTerm", "(I)I"⟩, 9), (⟨"WharfPapers", "isAsked", "(II)Z"⟩, 15), (⟨"WharfPapers", "shareAsTold", "(IZ)I"⟩, 15)]
theorem lw_r2 : ∀ q ∈ lw_privs_2, lw_okq q := List.forall_mem_cons.mpr ⟨lw_p16, List.forall_mem_cons.mpr ⟨lw_p17, List.forall_mem_cons.mpr ⟨lw_p18, List.forall_mem_cons.mpr ⟨lw_p19, List.forall_mem_cons.mpr ⟨lw_p20, List.forall_mem_cons.mpr ⟨lw_p21, List.forall_mem_cons.mpr ⟨lw_p22, List.forall_mem_cons.mpr ⟨lw_p23, List.forall_mem_cons.mpr ⟨lw_p24, List.forall_mem_cons.mpr ⟨lw_p25, List.forall_mem_cons.mpr ⟨lw_p26, List.forall_mem_cons.mpr ⟨lw_p27, List.forall_mem_cons.mpr ⟨lw_p28, List.forall_mem_cons.mpr ⟨lw_p29, List.forall_mem_cons.mpr ⟨lw_p30, List.forall_mem_cons.mpr ⟨lw_p31, fun _ h => absurd h List.not_mem_nil⟩⟩⟩⟩⟩⟩⟩⟩⟩⟩⟩⟩⟩⟩⟩⟩
theorem lw_p32 : lw_okq (⟨"WharfPapers$Doubt", "isOf", "(LWharfPapers$Story;II)Z"⟩, 3) := ⟨⟨by decide +kernel, by decide +kernel⟩, List.mem_of_getElem? (i := 271) (by decide +kernel), List.mem_of_getElem? (i := 848) (by decide +kernel), List.mem_of_getElem? (i := 849) (by decide +kernel)⟩
theorem lw_p33 : lw_okq (⟨"WharfPapers$Doubt", "fewest", "(I)I"⟩, 3) := ⟨⟨by decide +kernel, by decide +kernel⟩, List.mem_of_getElem? (i := 271) (by decide +kernel), List.mem_of_getElem? (i := 853) (by decide +kernel), List.mem_of_getElem? (i := 854) (by decide +kernel)⟩
theorem lw_p34 : lw_okq (⟨"WharfPapers$Story", "isHadOtherwise", "(LWharfPapers$Story;I)Z"⟩, 16) := ⟨⟨by decide +kernel, by decide +kernel⟩, List.mem_of_getElem? (i := 200) (by decide +kernel), List.mem_of_getElem? (i := 880) (by decide +kernel), List.mem_of_getElem? (i := 881) (by decide +kernel)⟩
theorem lw_p35 : lw_okq (⟨"WharfPapers", "rentAsTold", "(II)I"⟩, 15) := ⟨⟨by decide +kernel, by decide +kernel⟩, List.mem_of_getElem? (i := 20) (by decide +kernel), List.mem_of_getElem? (i := 888) (by decide +kernel), List.mem_of_getElem? (i := 889) (by decide +kernel)⟩
theorem lw_p36 : lw_okq (⟨"WharfPapers", "caskWeight", "(II)I"⟩, 15) := ⟨⟨by decide +kernel, by decide +kernel⟩, List.mem_of_getElem? (i := 20) (by decide +kernel), List.mem_of_getElem? (i := 896) (by decide +kernel), List.mem_of_getElem? (i := 897) (by decide +kernel)⟩
theorem lw_p37 : lw_okq (⟨"WharfPapers", "wanted", "(IIII)I"⟩, 15) := ⟨⟨by decide +kernel, by decide +kernel⟩, List.mem_of_getElem? (i := 20) (by decide +kernel), List.mem_of_getElem? (i := 923) (by decide +kernel), List.mem_of_getElem? (i := 924) (by decide +kernel)⟩
theorem lw_p38 : lw_okq (⟨"WharfPapers", "unpaidFor", "(I)I"⟩, 15) := ⟨⟨by decide +kernel, by decide +kernel⟩, List.mem_of_getElem? (i := 20) (by decide +kernel), List.mem_of_getElem? (i := 931) (by decide +kernel), List.mem_of_getElem? (i := 932) (by decide +kernel)⟩
theorem lw_p39 : lw_okq (⟨"WharfPapers$Sales", "mostGroups", "(I)I"⟩, 8) := ⟨⟨by decide +kernel, by decide +kernel⟩, List.mem_of_getElem? (i := 316) (by decide +kernel), List.mem_of_getElem? (i := 961) (by decide +kernel), List.mem_of_getElem? (i := 962) (by decide +kernel)⟩
theorem lw_p40 : lw_okq (⟨"WharfPapers$Dues", "begin", "()V"⟩, 10) := ⟨⟨by decide +kernel, by decide +kernel⟩, List.mem_of_getElem? (i := 348) (by decide +kernel), List.mem_of_getElem? (i := 986) (by decide +kernel), List.mem_of_getElem? (i := 987) (by decide +kernel)⟩
theorem lw_p41 : lw_okq (⟨"WharfPapers$Dues", "receive", "()V"⟩, 10) := ⟨⟨by decide +kernel, by decide +kernel⟩, List.mem_of_getElem? (i := 348) (by decide +kernel), List.mem_of_getElem? (i := 990) (by decide +kernel), List.mem_of_getElem? (i := 991) (by decide +kernel)⟩
theorem lw_p42 : lw_okq (⟨"WharfPapers$Dues", "isRoundChanging", "()Z"⟩, 10) := ⟨⟨by decide +kernel, by decide +kernel⟩, List.mem_of_getElem? (i := 348) (by decide +kernel), List.mem_of_getElem? (i := 994) (by decide +kernel), List.mem_of_getElem? (i := 995) (by decide +kernel)⟩
theorem lw_p43 : lw_okq (⟨"WharfPapers$Dues", "partOf", "(II)I"⟩, 10) := ⟨⟨by decide +kernel, by decide +kernel⟩, List.mem_of_getElem? (i := 348) (by decide +kernel), List.mem_of_getElem? (i := 998) (by decide +kernel), List.mem_of_getElem? (i := 999) (by decide +kernel)⟩
theorem lw_p44 : lw_okq (⟨"WharfPapers$Plan", "choose", "(II)V"⟩, 7) := ⟨⟨by decide +kernel, by decide +kernel⟩, List.mem_of_getElem? (i := 391) (by decide +kernel), List.mem_of_getElem? (i := 1028) (by decide +kernel), List.mem_of_getElem? (i := 1029) (by decide +kernel)⟩
theorem lw_p45 : lw_okq (⟨"WharfPapers$Plan", "gather", "(LWharfPapers$Lots;LWharfPapers$Story;)V"⟩, 7) := ⟨⟨by decide +kernel, by decide +kernel⟩, List.mem_of_getElem? (i := 391) (by decide +kernel), List.mem_of_getElem? (i := 1032) (by decide +kernel), List.mem_of_getElem? (i := 1033) (by decide +kernel)⟩
theorem lw_p46 : lw_okq (⟨"WharfPapers$Plan", "priceOn", "(ILWharfPapers$Lots;LWharfPapers$Story;)V"⟩, 7) := ⟨⟨by decide +kernel, by decide +kernel⟩, List.mem_of_getElem? (i := 391) (by decide +kernel), List.mem_of_getElem? (i := 1038) (by decide +kernel), List.mem_of_getElem? (i := 1039) (by decide +kernel)⟩
theorem lw_p47 : lw_okq (⟨"WharfPapers$Plan", "shut", "(II[I)V"⟩, 7) := ⟨⟨by decide +kernel, by decide +kernel⟩, List.mem_of_getElem? (i := 391) (by decide +kernel), List.mem_of_getElem? (i := 1045) (by decide +kernel), List.mem_of_getElem? (i := 1046) (by decide +kernel)⟩
def lw_privs_3 : List (MethodName × Nat) := [(⟨"WharfPapers$Doubt", "isOf", "(LWharfPapers$Story;II)Z"⟩, 3), (⟨"WharfPapers$Doubt", "fewest", "(I)I"⟩, 3), (⟨"WharfPapers$Story", "isHadOtherwise", "(LWharfPapers$Story;I)Z"⟩, 16), (⟨"WharfPapers", "rentAsTold", "(II)I"⟩, 15), (⟨"WharfPapers", "caskWeight", "(II)I"⟩, 15), (⟨"WharfPapers", "wanted", "(IIII)I"⟩, 15), (⟨"WharfPapers", "unpaidFor", "(I)I"⟩, 15), (⟨"WharfPapers$Sales", "mostGroups", "(I)I"⟩, 8), (⟨"WharfPapers$Dues", "begin", "()V"⟩, 10), (⟨"WharfPapers$Dues", "receive", "()V"⟩, 10), (⟨"WharfPapers$Dues", "isRoundChanging", "()Z"⟩, 10), (⟨"WharfPapers$Dues", "partOf", "(II)I"⟩, 10), (⟨"WharfPapers$Plan", "choose", "(II)V"⟩, 7), (⟨"WharfPapers$Plan", "gather", "(LWharfPapers$Lots;LWharfPapers$Story;)V"⟩, 7), (⟨"WharfPapers$Plan", "priceOn", "(ILWharfPapers$Lots;LWharfPapers$Story;)V"⟩, 7), (⟨"WharfPapers$Plan", "shut", "(II[I)V"⟩, 7)]
theorem lw_r3 : ∀ q ∈ lw_privs_3, lw_okq q := List.forall_mem_cons.mpr ⟨lw_p32, List.forall_mem_cons.mpr ⟨lw_p33, List.forall_mem_cons.mpr ⟨lw_p34, List.forall_mem_cons.mpr ⟨lw_p35, List.forall_mem_cons.mpr ⟨lw_p36, List.forall_mem_cons.mpr ⟨lw_p37, List.forall_mem_cons.mpr ⟨lw_p38, List.forall_mem_cons.mpr ⟨lw_p39, List.forall_mem_cons.mpr ⟨lw_p40, List.forall_mem_cons.mpr ⟨lw_p41, List.forall_mem_cons.mpr ⟨lw_p42, List.forall_mem_cons.mpr ⟨lw_p43, List.forall_mem_cons.mpr ⟨lw_p44, List.forall_mem_cons.mpr ⟨lw_p45, List.forall_mem_cons.mpr ⟨lw_p46, List.forall_mem_cons.mpr ⟨lw_p47, fun _ h => absurd h List.not_mem_nil⟩⟩⟩⟩⟩⟩⟩⟩⟩⟩⟩⟩⟩⟩⟩⟩
theorem lw_p48 : lw_okq (⟨"WharfPapers$Plan", "isParted", "(II[I)Z"⟩, 7) := ⟨⟨by decide +kernel, by decide +kernel⟩, List.mem_of_getElem? (i := 391) (by decide +kernel), List.mem_of_getElem? (i := 1049) (by decide +kernel), List.mem_of_getElem? (i := 1050) (by decide +kernel)⟩
theorem lw_p49 : lw_okq (⟨"WharfPapers$Plan", "openFloor", "()V"⟩, 7) := ⟨⟨by decide +kernel, by decide +kernel⟩, List.mem_of_getElem? (i := 391) (by decide +kernel), List.mem_of_getElem? (i := 1053) (by decide +kernel), List.mem_of_getElem? (i := 1054) (by decide +kernel)⟩
theorem lw_p50 : lw_okq (⟨"WharfPapersModel", "noLot", "(I)Z"⟩, 79) := ⟨⟨by decide +kernel, by decide +kernel⟩, List.mem_of_getElem? (i := 1074) (by decide +kernel), List.mem_of_getElem? (i := 1348) (by decide +kernel), List.mem_of_getElem? (i := 1349) (by decide +kernel)⟩
theorem lw_p51 : lw_okq (⟨"WharfPapersModel", "noTarget", "(II)Z"⟩, 79) := ⟨⟨by decide +kernel, by decide +kernel⟩, List.mem_of_getElem? (i := 1074) (by decide +kernel), List.mem_of_getElem? (i := 1357) (by decide +kernel), List.mem_of_getElem? (i := 1358) (by decide +kernel)⟩
theorem lw_p52 : lw_okq (⟨"WharfPapersModel", "isPaper", "(I)Z"⟩, 79) := ⟨⟨by decide +kernel, by decide +kernel⟩, List.mem_of_getElem? (i := 1074) (by decide +kernel), List.mem_of_getElem? (i := 1364) (by decide +kernel), List.mem_of_getElem? (i := 1365) (by decide +kernel)⟩
theorem lw_p53 : lw_okq (⟨"WharfPapersModel", "isKnown", "(I)Z"⟩, 79) := ⟨⟨by decide +kernel, by decide +kernel⟩, List.mem_of_getElem? (i := 1074) (by decide +kernel), List.mem_of_getElem? (i := 1371) (by decide +kernel), List.mem_of_getElem? (i := 1372) (by decide +kernel)⟩
theorem lw_p54 : lw_okq (⟨"WharfPapersModel", "findBook", "(I)V"⟩, 79) := ⟨⟨by decide +kernel, by decide +kernel⟩, List.mem_of_getElem? (i := 1074) (by decide +kernel), List.mem_of_getElem? (i := 1385) (by decide +kernel), List.mem_of_getElem? (i := 1386) (by decide +kernel)⟩
theorem lw_p55 : lw_okq (⟨"WharfPapersModel", "here", "()I"⟩, 79) := ⟨⟨by decide +kernel, by decide +kernel⟩, List.mem_of_getElem? (i := 1074) (by decide +kernel), List.mem_of_getElem? (i := 1403) (by decide +kernel), List.mem_of_getElem? (i := 1404) (by decide +kernel)⟩
theorem lw_p56 : lw_okq (⟨"WharfPapersModel", "takeWord", "()V"⟩, 79) := ⟨⟨by decide +kernel, by decide +kernel⟩, List.mem_of_getElem? (i := 1074) (by decide +kernel), List.mem_of_getElem? (i := 1407) (by decide +kernel), List.mem_of_getElem? (i := 1408) (by decide +kernel)⟩
theorem lw_p57 : lw_okq (⟨"WharfPapersModel", "isWord", "(IIIIIII)Z"⟩, 79) := ⟨⟨by decide +kernel, by decide +kernel⟩, List.mem_of_getElem? (i := 1074) (by decide +kernel), List.mem_of_getElem? (i := 1413) (by decide +kernel), List.mem_of_getElem? (i := 1414) (by decide +kernel)⟩
theorem lw_p58 : lw_okq (⟨"WharfPapersModel", "want", "(ZII)Z"⟩, 79) := ⟨⟨by decide +kernel, by decide +kernel⟩, List.mem_of_getElem? (i := 1074) (by decide +kernel), List.mem_of_getElem? (i := 1417) (by decide +kernel), List.mem_of_getElem? (i := 1418) (by decide +kernel)⟩
theorem lw_p59 : lw_okq (⟨"WharfPapersModel", "readClause", "(II)V"⟩, 79) := ⟨⟨by decide +kernel, by decide +kernel⟩, List.mem_of_getElem? (i := 1074) (by decide +kernel), List.mem_of_getElem? (i := 1421) (by decide +kernel), List.mem_of_getElem? (i := 1422) (by decide +kernel)⟩
theorem lw_p60 : lw_okq (⟨"WharfPapersModel", "nameOf", "()I"⟩, 79) := ⟨⟨by decide +kernel, by decide +kernel⟩, List.mem_of_getElem? (i := 1074) (by decide +kernel), List.mem_of_getElem? (i := 1425) (by decide +kernel), List.mem_of_getElem? (i := 1426) (by decide +kernel)⟩
theorem lw_p61 : lw_okq (⟨"WharfPapersModel", "takeNumber", "(I)I"⟩, 79) := ⟨⟨by decide +kernel, by decide +kernel⟩, List.mem_of_getElem? (i := 1074) (by decide +kernel), List.mem_of_getElem? (i := 1432) (by decide +kernel), List.mem_of_getElem? (i := 1433) (by decide +kernel)⟩
theorem lw_p62 : lw_okq (⟨"WharfPapersModel", "readRank", "(I)V"⟩, 79) := ⟨⟨by decide +kernel, by decide +kernel⟩, List.mem_of_getElem? (i := 1074) (by decide +kernel), List.mem_of_getElem? (i := 1438) (by decide +kernel), List.mem_of_getElem? (i := 1439) (by decide +kernel)⟩
theorem lw_p63 : lw_okq (⟨"WharfPapersModel", "keyOf", "()I"⟩, 79) := ⟨⟨by decide +kernel, by decide +kernel⟩, List.mem_of_getElem? (i := 1074) (by decide +kernel), List.mem_of_getElem? (i := 1442) (by decide +kernel), List.mem_of_getElem? (i := 1443) (by decide +kernel)⟩
def lw_privs_4 : List (MethodName × Nat) := [(⟨"WharfPapers$Plan", "isParted", "(II[I)Z"⟩, 7), (⟨"WharfPapers$Plan", "openFloor", "()V"⟩, 7), (⟨"WharfPapersModel", "noLot", "(I)Z"⟩, 79), (⟨"WharfPapersModel", "noTarget", "(II)Z"⟩, 79), (⟨"WharfPapersModel", "isPaper", "(I)Z"⟩, 79), (⟨"WharfPapersModel", "isKnown", "(I)Z"⟩, 79), (⟨"WharfPapersModel", "findBook", "(I)V"⟩, 79), (⟨"WharfPapersModel", "here", "()I"⟩, 79), (⟨"WharfPapersModel", "takeWord", "()V"⟩, 79), (⟨"WharfPapersModel", "isWord", "(IIIIIII)Z"⟩, 79), (⟨"WharfPapersModel", "want", "(ZII)Z"⟩, 79), (⟨"WharfPapersModel", "readClause", "(II)V"⟩, 79), (⟨"WharfPapersModel", "nameOf", "()I"⟩, 79), (⟨"WharfPapersModel", "takeNumber", "(I)I"⟩, 79), (⟨"WharfPapersModel", "readRank", "(I)V"⟩, 79), (⟨"WharfPapersModel", "keyOf", "()I"⟩, 79)]
theorem lw_r4 : ∀ q ∈ lw_privs_4, lw_okq q := List.forall_mem_cons.mpr ⟨lw_p48, List.forall_mem_cons.mpr ⟨lw_p49, List.forall_mem_cons.mpr ⟨lw_p50, List.forall_mem_cons.mpr ⟨lw_p51, List.forall_mem_cons.mpr ⟨lw_p52, List.forall_mem_cons.mpr ⟨lw_p53, List.forall_mem_cons.mpr ⟨lw_p54, List.forall_mem_cons.mpr ⟨lw_p55, List.forall_mem_cons.mpr ⟨lw_p56, List.forall_mem_cons.mpr ⟨lw_p57, List.forall_mem_cons.mpr ⟨lw_p58, List.forall_mem_cons.mpr ⟨lw_p59, List.forall_mem_cons.mpr ⟨lw_p60, List.forall_mem_cons.mpr ⟨lw_p61, List.forall_mem_cons.mpr ⟨lw_p62, List.forall_mem_cons.mpr ⟨lw_p63, fun _ h => absurd h List.not_mem_nil⟩⟩⟩⟩⟩⟩⟩⟩⟩⟩⟩⟩⟩⟩⟩⟩
theorem lw_p64 : lw_okq (⟨"WharfPapersModel", "findTerms", "(I)V"⟩, 79) := ⟨⟨by decide +kernel, by decide +kernel⟩, List.mem_of_getElem? (i := 1074) (by decide +kernel), List.mem_of_getElem? (i := 1458) (by decide +kernel), List.mem_of_getElem? (i := 1459) (by decide +kernel)⟩
theorem lw_p65 : lw_okq (⟨"WharfPapersModel", "tell", "(II)V"⟩, 79) := ⟨⟨by decide +kernel, by decide +kernel⟩, List.mem_of_getElem? (i := 1074) (by decide +kernel), List.mem_of_getElem? (i := 1466) (by decide +kernel), List.mem_of_getElem? (i := 1467) (by decide +kernel)⟩
theorem lw_p66 : lw_okq (⟨"WharfPapersModel", "befall", "(I)Z"⟩, 79) := ⟨⟨by decide +kernel, by decide +kernel⟩, List.mem_of_getElem? (i := 1074) (by decide +kernel), List.mem_of_getElem? (i := 1470) (by decide +kernel), List.mem_of_getElem? (i := 1471) (by decide +kernel)⟩
theorem lw_p67 : lw_okq (⟨"WharfPapersModel", "issue", "(I)Z"⟩, 79) := ⟨⟨by decide +kernel, by decide +kernel⟩, List.mem_of_getElem? (i := 1074) (by decide +kernel), List.mem_of_getElem? (i := 1474) (by decide +kernel), List.mem_of_getElem? (i := 1475) (by decide +kernel)⟩
theorem lw_p68 : lw_okq (⟨"WharfPapersModel", "lay", "(IIIII)V"⟩, 79) := ⟨⟨by decide +kernel, by decide +kernel⟩, List.mem_of_getElem? (i := 1074) (by decide +kernel), List.mem_of_getElem? (i := 1478) (by decide +kernel), List.mem_of_getElem? (i := 1479) (by decide +kernel)⟩
theorem lw_p69 : lw_okq (⟨"WharfPapersModel", "onPapers", "(I)I"⟩, 79) := ⟨⟨by decide +kernel, by decide +kernel⟩, List.mem_of_getElem? (i := 1074) (by decide +kernel), List.mem_of_getElem? (i := 1482) (by decide +kernel), List.mem_of_getElem? (i := 1483) (by decide +kernel)⟩
theorem lw_p70 : lw_okq (⟨"WharfPapersModel", "there", "(I)I"⟩, 79) := ⟨⟨by decide +kernel, by decide +kernel⟩, List.mem_of_getElem? (i := 1074) (by decide +kernel), List.mem_of_getElem? (i := 1486) (by decide +kernel), List.mem_of_getElem? (i := 1487) (by decide +kernel)⟩
theorem lw_p71 : lw_okq (⟨"WharfPapersModel", "burn", "(II)Z"⟩, 79) := ⟨⟨by decide +kernel, by decide +kernel⟩, List.mem_of_getElem? (i := 1074) (by decide +kernel), List.mem_of_getElem? (i := 1490) (by decide +kernel), List.mem_of_getElem? (i := 1491) (by decide +kernel)⟩
theorem lw_p72 : lw_okq (⟨"WharfPapersModel", "pass", "(II)Z"⟩, 79) := ⟨⟨by decide +kernel, by decide +kernel⟩, List.mem_of_getElem? (i := 1074) (by decide +kernel), List.mem_of_getElem? (i := 1494) (by decide +kernel), List.mem_of_getElem? (i := 1495) (by decide +kernel)⟩
theorem lw_p73 : lw_okq (⟨"WharfPapersModel", "partFrom", "(II)Z"⟩, 79) := ⟨⟨by decide +kernel, by decide +kernel⟩, List.mem_of_getElem? (i := 1074) (by decide +kernel), List.mem_of_getElem? (i := 1498) (by decide +kernel), List.mem_of_getElem? (i := 1499) (by decide +kernel)⟩
theorem lw_p74 : lw_okq (⟨"WharfPapersModel", "lend", "(II)Z"⟩, 79) := ⟨⟨by decide +kernel, by decide +kernel⟩, List.mem_of_getElem? (i := 1074) (by decide +kernel), List.mem_of_getElem? (i := 1502) (by decide +kernel), List.mem_of_getElem? (i := 1503) (by decide +kernel)⟩
theorem lw_p75 : lw_okq (⟨"WharfPapersModel", "handOut", "(II)Z"⟩, 79) := ⟨⟨by decide +kernel, by decide +kernel⟩, List.mem_of_getElem? (i := 1074) (by decide +kernel), List.mem_of_getElem? (i := 1506) (by decide +kernel), List.mem_of_getElem? (i := 1507) (by decide +kernel)⟩
theorem lw_p76 : lw_okq (⟨"WharfPapersModel", "change", "(II)Z"⟩, 79) := ⟨⟨by decide +kernel, by decide +kernel⟩, List.mem_of_getElem? (i := 1074) (by decide +kernel), List.mem_of_getElem? (i := 1510) (by decide +kernel), List.mem_of_getElem? (i := 1511) (by decide +kernel)⟩
theorem lw_p77 : lw_okq (⟨"WharfPapersModel", "linesNow", "(I)I"⟩, 79) := ⟨⟨by decide +kernel, by decide +kernel⟩, List.mem_of_getElem? (i := 1074) (by decide +kernel), List.mem_of_getElem? (i := 1518) (by decide +kernel), List.mem_of_getElem? (i := 1519) (by decide +kernel)⟩
theorem lw_p78 : lw_okq (⟨"WharfPapersModel", "papersToday", "()I"⟩, 79) := ⟨⟨by decide +kernel, by decide +kernel⟩, List.mem_of_getElem? (i := 1074) (by decide +kernel), List.mem_of_getElem? (i := 1522) (by decide +kernel), List.mem_of_getElem? (i := 1523) (by decide +kernel)⟩
theorem lw_p79 : lw_okq (⟨"WharfPapersModel", "whyNot", "(IIIII)I"⟩, 79) := ⟨⟨by decide +kernel, by decide +kernel⟩, List.mem_of_getElem? (i := 1074) (by decide +kernel), List.mem_of_getElem? (i := 1530) (by decide +kernel), List.mem_of_getElem? (i := 1531) (by decide +kernel)⟩
def lw_privs_5 : List (MethodName × Nat) := [(⟨"WharfPapersModel", "findTerms", "(I)V"⟩, 79), (⟨"WharfPapersModel", "tell", "(II)V"⟩, 79), (⟨"WharfPapersModel", "befall", "(I)Z"⟩, 79), (⟨"WharfPapersModel", "issue", "(I)Z"⟩, 79), (⟨"WharfPapersModel", "lay", "(IIIII)V"⟩, 79), (⟨"WharfPapersModel", "onPapers", "(I)I"⟩, 79), (⟨"WharfPapersModel", "there", "(I)I"⟩, 79), (⟨"WharfPapersModel", "burn", "(II)Z"⟩, 79), (⟨"WharfPapersModel", "pass", "(II)Z"⟩, 79), (⟨"WharfPapersModel", "partFrom", "(II)Z"⟩, 79), (⟨"WharfPapersModel", "lend", "(II)Z"⟩, 79), (⟨"WharfPapersModel", "handOut", "(II)Z"⟩, 79), (⟨"WharfPapersModel", "change", "(II)Z"⟩, 79), (⟨"WharfPapersModel", "linesNow", "(I)I"⟩, 79), (⟨"WharfPapersModel", "papersToday", "()I"⟩, 79), (⟨"WharfPapersModel", "whyNot", "(IIIII)I"⟩, 79)]
theorem lw_r5 : ∀ q ∈ lw_privs_5, lw_okq q := List.forall_mem_cons.mpr ⟨lw_p64, List.forall_mem_cons.mpr ⟨lw_p65, List.forall_mem_cons.mpr ⟨lw_p66, List.forall_mem_cons.mpr ⟨lw_p67, List.forall_mem_cons.mpr ⟨lw_p68, List.forall_mem_cons.mpr ⟨lw_p69, List.forall_mem_cons.mpr ⟨lw_p70, List.forall_mem_cons.mpr ⟨lw_p71, List.forall_mem_cons.mpr ⟨lw_p72, List.forall_mem_cons.mpr ⟨lw_p73, List.forall_mem_cons.mpr ⟨lw_p74, List.forall_mem_cons.mpr ⟨lw_p75, List.forall_mem_cons.mpr ⟨lw_p76, List.forall_mem_cons.mpr ⟨lw_p77, List.forall_mem_cons.mpr ⟨lw_p78, List.forall_mem_cons.mpr ⟨lw_p79, fun _ h => absurd h List.not_mem_nil⟩⟩⟩⟩⟩⟩⟩⟩⟩⟩⟩⟩⟩⟩⟩⟩
theorem lw_p80 : lw_okq (⟨"WharfPapersModel", "over", "(I)I"⟩, 79) := ⟨⟨by decide +kernel, by decide +kernel⟩, List.mem_of_getElem? (i := 1074) (by decide +kernel), List.mem_of_getElem? (i := 1538) (by decide +kernel), List.mem_of_getElem? (i := 1539) (by decide +kernel)⟩
theorem lw_p81 : lw_okq (⟨"WharfPapersModel", "fewestFrom", "(II)I"⟩, 79) := ⟨⟨by decide +kernel, by decide +kernel⟩, List.mem_of_getElem? (i := 1074) (by decide +kernel), List.mem_of_getElem? (i := 1553) (by decide +kernel), List.mem_of_getElem? (i := 1554) (by decide +kernel)⟩
theorem lw_p82 : lw_okq (⟨"WharfPapersModel", "rentOf", "(II)I"⟩, 79) := ⟨⟨by decide +kernel, by decide +kernel⟩, List.mem_of_getElem? (i := 1074) (by decide +kernel), List.mem_of_getElem? (i := 1569) (by decide +kernel), List.mem_of_getElem? (i := 1570) (by decide +kernel)⟩
theorem lw_p83 : lw_okq (⟨"WharfPapersModel", "weightOn", "(II)I"⟩, 79) := ⟨⟨by decide +kernel, by decide +kernel⟩, List.mem_of_getElem? (i := 1074) (by decide +kernel), List.mem_of_getElem? (i := 1577) (by decide +kernel), List.mem_of_getElem? (i := 1578) (by decide +kernel)⟩
theorem lw_p84 : lw_okq (⟨"WharfPapersModel", "wants", "(III)I"⟩, 79) := ⟨⟨by decide +kernel, by decide +kernel⟩, List.mem_of_getElem? (i := 1074) (by decide +kernel), List.mem_of_getElem? (i := 1603) (by decide +kernel), List.mem_of_getElem? (i := 1604) (by decide +kernel)⟩
theorem lw_p85 : lw_okq (⟨"WharfPapersModel", "goRounds", "()V"⟩, 79) := ⟨⟨by decide +kernel, by decide +kernel⟩, List.mem_of_getElem? (i := 1074) (by decide +kernel), List.mem_of_getElem? (i := 1633) (by decide +kernel), List.mem_of_getElem? (i := 1634) (by decide +kernel)⟩
theorem lw_p86 : lw_okq (⟨"WharfPapersModel", "owes", "(I)I"⟩, 79) := ⟨⟨by decide +kernel, by decide +kernel⟩, List.mem_of_getElem? (i := 1074) (by decide +kernel), List.mem_of_getElem? (i := 1637) (by decide +kernel), List.mem_of_getElem? (i := 1638) (by decide +kernel)⟩
theorem lw_p87 : lw_okq (⟨"WharfPapersModel", "has", "(I)I"⟩, 79) := ⟨⟨by decide +kernel, by decide +kernel⟩, List.mem_of_getElem? (i := 1074) (by decide +kernel), List.mem_of_getElem? (i := 1641) (by decide +kernel), List.mem_of_getElem? (i := 1642) (by decide +kernel)⟩
theorem lw_p88 : lw_okq (⟨"WharfPapersModel", "gives", "(I)I"⟩, 79) := ⟨⟨by decide +kernel, by decide +kernel⟩, List.mem_of_getElem? (i := 1074) (by decide +kernel), List.mem_of_getElem? (i := 1645) (by decide +kernel), List.mem_of_getElem? (i := 1646) (by decide +kernel)⟩
theorem lw_p89 : lw_okq (⟨"WharfPapersModel", "put", "(III)V"⟩, 79) := ⟨⟨by decide +kernel, by decide +kernel⟩, List.mem_of_getElem? (i := 1074) (by decide +kernel), List.mem_of_getElem? (i := 1657) (by decide +kernel), List.mem_of_getElem? (i := 1658) (by decide +kernel)⟩
theorem lw_p90 : lw_okq (⟨"WharfPapersModel", "layAll", "()I"⟩, 79) := ⟨⟨by decide +kernel, by decide +kernel⟩, List.mem_of_getElem? (i := 1074) (by decide +kernel), List.mem_of_getElem? (i := 1661) (by decide +kernel), List.mem_of_getElem? (i := 1662) (by decide +kernel)⟩
theorem lw_p91 : lw_okq (⟨"WharfPapersModel", "mayLie", "(II)Z"⟩, 79) := ⟨⟨by decide +kernel, by decide +kernel⟩, List.mem_of_getElem? (i := 1074) (by decide +kernel), List.mem_of_getElem? (i := 1665) (by decide +kernel), List.mem_of_getElem? (i := 1666) (by decide +kernel)⟩
def lw_privs_6 : List (MethodName × Nat) := [(⟨"WharfPapersModel", "over", "(I)I"⟩, 79), (⟨"WharfPapersModel", "fewestFrom", "(II)I"⟩, 79), (⟨"WharfPapersModel", "rentOf", "(II)I"⟩, 79), (⟨"WharfPapersModel", "weightOn", "(II)I"⟩, 79), (⟨"WharfPapersModel", "wants", "(III)I"⟩, 79), (⟨"WharfPapersModel", "goRounds", "()V"⟩, 79), (⟨"WharfPapersModel", "owes", "(I)I"⟩, 79), (⟨"WharfPapersModel", "has", "(I)I"⟩, 79), (⟨"WharfPapersModel", "gives", "(I)I"⟩, 79), (⟨"WharfPapersModel", "put", "(III)V"⟩, 79), (⟨"WharfPapersModel", "layAll", "()I"⟩, 79), (⟨"WharfPapersModel", "mayLie", "(II)Z"⟩, 79)]
theorem lw_r6 : ∀ q ∈ lw_privs_6, lw_okq q := List.forall_mem_cons.mpr ⟨lw_p80, List.forall_mem_cons.mpr ⟨lw_p81, List.forall_mem_cons.mpr ⟨lw_p82, List.forall_mem_cons.mpr ⟨lw_p83, List.forall_mem_cons.mpr ⟨lw_p84, List.forall_mem_cons.mpr ⟨lw_p85, List.forall_mem_cons.mpr ⟨lw_p86, List.forall_mem_cons.mpr ⟨lw_p87, List.forall_mem_cons.mpr ⟨lw_p88, List.forall_mem_cons.mpr ⟨lw_p89, List.forall_mem_cons.mpr ⟨lw_p90, List.forall_mem_cons.mpr ⟨lw_p91, fun _ h => absurd h List.not_mem_nil⟩⟩⟩⟩⟩⟩⟩⟩⟩⟩⟩⟩
def lw_privs : List (MethodName × Nat) := lw_privs_1 ++ (lw_privs_2 ++ (lw_privs_3 ++ (lw_privs_4 ++ (lw_privs_5 ++ (lw_privs_6)))))
def lw_tbl : List Cond := k2_sels lw_privs ++ tables_1
theorem lw_privs_ok : ∀ q ∈ lw_privs, lw_okq q := by
  show ∀ q ∈ lw_privs_1 ++ (lw_privs_2 ++ (lw_privs_3 ++ (lw_privs_4 ++ (lw_privs_5 ++ (lw_privs_6))))), lw_okq q
  exact List.forall_mem_append.mpr ⟨lw_r1, List.forall_mem_append.mpr ⟨lw_r2, List.forall_mem_append.mpr ⟨lw_r3, List.forall_mem_append.mpr ⟨lw_r4, List.forall_mem_append.mpr ⟨lw_r5, lw_r6⟩⟩⟩⟩⟩
end
section
def RX0 : String := "WharfPapers$Doubt"
def TX0 : u_T := fun k => match k with
  | 0 => ("WharfPapers$Doubt", "having", "[I", true)
  | 1 => ("WharfPapers$Doubt", "picked", "[I", true)
  | _ => ("WharfPapers$Doubt", "count", "I", false)
def tyX0 : Nat → FieldType := fun k => match k with
  | 0 => .array .int
  | 1 => .array .int
  | _ => .int
def RX1 : String := "WharfPapers$Dues"
def TX1 : u_T := fun k => match k with
  | 0 => ("WharfPapers$Dues", "debtor", "[I", true)
  | 1 => ("WharfPapers$Dues", "creditor", "[I", true)
  | 2 => ("WharfPapers$Dues", "sum", "[I", true)
  | 3 => ("WharfPapers$Dues", "given", "[I", true)
  | 4 => ("WharfPapers$Dues", "count", "I", false)
  | 5 => ("WharfPapers$Dues", "coin", "[I", true)
  | 6 => ("WharfPapers$Dues", "owes", "[I", true)
  | 7 => ("WharfPapers$Dues", "has", "[I", true)
  | 8 => ("WharfPapers$Dues", "failed", "[Z", true)
  | _ => ("WharfPapers$Dues", "rounds", "I", false)
def tyX1 : Nat → FieldType := fun k => match k with
  | 0 => .array .int
  | 1 => .array .int
  | 2 => .array .int
  | 3 => .array .int
  | 4 => .int
  | 5 => .array .int
  | 6 => .array .int
  | 7 => .array .int
  | 8 => .array .boolean
  | _ => .int
def RX2 : String := "WharfPapers$Lines"
def TX2 : u_T := fun k => match k with
  | 0 => ("WharfPapers$Lines", "kind", "[I", true)
  | 1 => ("WharfPapers$Lines", "day", "[I", true)
  | 2 => ("WharfPapers$Lines", "told", "[I", true)
  | 3 => ("WharfPapers$Lines", "target", "[I", true)
  | 4 => ("WharfPapers$Lines", "p", "[I", true)
  | 5 => ("WharfPapers$Lines", "q", "[I", true)
  | 6 => ("WharfPapers$Lines", "n", "[I", true)
  | 7 => ("WharfPapers$Lines", "order", "[I", true)
  | 8 => ("WharfPapers$Lines", "isVoid", "[Z", true)
  | 9 => ("WharfPapers$Lines", "count", "I", false)
  | _ => ("WharfPapers$Lines", "knownCount", "I", false)
def tyX2 : Nat → FieldType := fun k => match k with
  | 0 => .array .int
  | 1 => .array .int
  | 2 => .array .int
  | 3 => .array .int
  | 4 => .array .int
  | 5 => .array .int
  | 6 => .array .int
  | 7 => .array .int
  | 8 => .array .boolean
  | 9 => .int
  | _ => .int
def RX3 : String := "WharfPapers$Lots"
def TX3 : u_T := fun k => match k with
  | 0 => ("WharfPapers$Lots", "sort", "[I", true)
  | 1 => ("WharfPapers$Lots", "casks", "[I", true)
  | 2 => ("WharfPapers$Lots", "weight", "[I", true)
  | 3 => ("WharfPapers$Lots", "floor", "[I", true)
  | 4 => ("WharfPapers$Lots", "since", "[I", true)
  | _ => ("WharfPapers$Lots", "count", "I", false)
def tyX3 : Nat → FieldType := fun k => match k with
  | 0 => .array .int
  | 1 => .array .int
  | 2 => .array .int
  | 3 => .array .int
  | 4 => .array .int
  | _ => .int
def RX4 : String := "WharfPapers$Plan"
def TX4 : u_T := fun k => match k with
  | 0 => ("WharfPapers$Plan", "place", "[I", true)
  | 1 => ("WharfPapers$Plan", "laid", "[I", true)
  | 2 => ("WharfPapers$Plan", "count", "I", false)
  | 3 => ("WharfPapers$Plan", "casks", "[I", true)
  | 4 => ("WharfPapers$Plan", "sorts", "[I", true)
  | 5 => ("WharfPapers$Plan", "price", "[J", true)
  | _ => ("WharfPapers$Plan", "best", "[J", true)
def tyX4 : Nat → FieldType := fun k => match k with
  | 0 => .array .int
  | 1 => .array .int
  | 2 => .int
  | 3 => .array .int
  | 4 => .array .int
  | 5 => .array .long
  | _ => .array .long
def RX5 : String := "WharfPapers$Reader"
def TX5 : u_T := fun k => match k with
  | 0 => ("WharfPapers$Reader", "text", "[I", true)
  | 1 => ("WharfPapers$Reader", "length", "I", false)
  | 2 => ("WharfPapers$Reader", "code", "[I", true)
  | 3 => ("WharfPapers$Reader", "value", "[I", true)
  | 4 => ("WharfPapers$Reader", "clauses", "I", false)
  | 5 => ("WharfPapers$Reader", "fault", "I", false)
  | 6 => ("WharfPapers$Reader", "faultAt", "I", false)
  | 7 => ("WharfPapers$Reader", "at", "I", false)
  | _ => ("WharfPapers$Reader", "start", "I", false)
def tyX5 : Nat → FieldType := fun k => match k with
  | 0 => .array .int
  | 1 => .int
  | 2 => .array .int
  | 3 => .array .int
  | 4 => .int
  | 5 => .int
  | 6 => .int
  | 7 => .int
  | _ => .int
def RX6 : String := "WharfPapers$Sales"
def TX6 : u_T := fun k => match k with
  | 0 => ("WharfPapers$Sales", "seller", "[I", true)
  | 1 => ("WharfPapers$Sales", "buyer", "[I", true)
  | 2 => ("WharfPapers$Sales", "sort", "[I", true)
  | 3 => ("WharfPapers$Sales", "casks", "[I", true)
  | 4 => ("WharfPapers$Sales", "open", "[I", true)
  | 5 => ("WharfPapers$Sales", "total", "[I", true)
  | 6 => ("WharfPapers$Sales", "groups", "[I", true)
  | _ => ("WharfPapers$Sales", "count", "I", false)
def tyX6 : Nat → FieldType := fun k => match k with
  | 0 => .array .int
  | 1 => .array .int
  | 2 => .array .int
  | 3 => .array .int
  | 4 => .array .int
  | 5 => .array .int
  | 6 => .array .int
  | _ => .int
def RX7 : String := "WharfPapers$Story"
def TX7 : u_T := fun k => match k with
  | 0 => ("WharfPapers$Story", "lots", "LWharfPapers$Lots;", true)
  | 1 => ("WharfPapers$Story", "lines", "LWharfPapers$Lines;", true)
  | 2 => ("WharfPapers$Story", "terms", "LWharfPapers$Terms;", true)
  | 3 => ("WharfPapers$Story", "there", "[Z", true)
  | 4 => ("WharfPapers$Story", "vain", "[Z", true)
  | 5 => ("WharfPapers$Story", "lot", "[I", true)
  | 6 => ("WharfPapers$Story", "casks", "[I", true)
  | 7 => ("WharfPapers$Story", "holds", "[I", true)
  | 8 => ("WharfPapers$Story", "title", "[I", true)
  | 9 => ("WharfPapers$Story", "lender", "[I", true)
  | 10 => ("WharfPapers$Story", "sum", "[I", true)
  | 11 => ("WharfPapers$Story", "stopper", "[I", true)
  | 12 => ("WharfPapers$Story", "out", "[I", true)
  | 13 => ("WharfPapers$Story", "burnt", "[I", true)
  | 14 => ("WharfPapers$Story", "onPapers", "[I", true)
  | _ => ("WharfPapers$Story", "doubles", "I", false)
def tyX7 : Nat → FieldType := fun k => match k with
  | 0 => .object "WharfPapers$Lots"
  | 1 => .object "WharfPapers$Lines"
  | 2 => .object "WharfPapers$Terms"
  | 3 => .array .boolean
  | 4 => .array .boolean
  | 5 => .array .int
  | 6 => .array .int
  | 7 => .array .int
  | 8 => .array .int
  | 9 => .array .int
  | 10 => .array .int
  | 11 => .array .int
  | 12 => .array .int
  | 13 => .array .int
  | 14 => .array .int
  | _ => .int
def RX8 : String := "WharfPapers$Terms"
def TX8 : u_T := fun k => match k with
  | 0 => ("WharfPapers$Terms", "day", "[I", true)
  | 1 => ("WharfPapers$Terms", "clauses", "[I", true)
  | 2 => ("WharfPapers$Terms", "code", "[[I", true)
  | 3 => ("WharfPapers$Terms", "value", "[[I", true)
  | 4 => ("WharfPapers$Terms", "order", "[I", true)
  | 5 => ("WharfPapers$Terms", "isStruck", "[Z", true)
  | 6 => ("WharfPapers$Terms", "held", "[I", true)
  | 7 => ("WharfPapers$Terms", "heldOn", "I", false)
  | _ => ("WharfPapers$Terms", "count", "I", false)
def tyX8 : Nat → FieldType := fun k => match k with
  | 0 => .array .int
  | 1 => .array .int
  | 2 => .array (.array .int)
  | 3 => .array (.array .int)
  | 4 => .array .int
  | 5 => .array .boolean
  | 6 => .array .int
  | 7 => .int
  | _ => .int
def RX9 : String := "WharfPapers$Weighings"
def TX9 : u_T := fun k => match k with
  | 0 => ("WharfPapers$Weighings", "lot", "[I", true)
  | 1 => ("WharfPapers$Weighings", "casks", "[I", true)
  | 2 => ("WharfPapers$Weighings", "weight", "[I", true)
  | 3 => ("WharfPapers$Weighings", "day", "[I", true)
  | _ => ("WharfPapers$Weighings", "count", "I", false)
def tyX9 : Nat → FieldType := fun k => match k with
  | 0 => .array .int
  | 1 => .array .int
  | 2 => .array .int
  | 3 => .array .int
  | _ => .int
def RX10 : String := "WharfPapers"
def TX10 : u_T := fun k => match k with
  | 0 => ("WharfPapers", "now", "I", false)
  | 1 => ("WharfPapers", "lots", "LWharfPapers$Lots;", true)
  | 2 => ("WharfPapers", "lines", "LWharfPapers$Lines;", true)
  | 3 => ("WharfPapers", "terms", "LWharfPapers$Terms;", true)
  | 4 => ("WharfPapers", "reader", "LWharfPapers$Reader;", true)
  | 5 => ("WharfPapers", "story", "LWharfPapers$Story;", true)
  | 6 => ("WharfPapers", "earlier", "LWharfPapers$Story;", true)
  | 7 => ("WharfPapers", "doubt", "LWharfPapers$Doubt;", true)
  | 8 => ("WharfPapers", "weighings", "LWharfPapers$Weighings;", true)
  | 9 => ("WharfPapers", "unpaid", "[[I", true)
  | 10 => ("WharfPapers", "sales", "LWharfPapers$Sales;", true)
  | 11 => ("WharfPapers", "dues", "LWharfPapers$Dues;", true)
  | 12 => ("WharfPapers", "room", "[I", true)
  | 13 => ("WharfPapers", "partedFrom", "[I", true)
  | _ => ("WharfPapers", "plan", "LWharfPapers$Plan;", true)
def tyX10 : Nat → FieldType := fun k => match k with
  | 0 => .int
  | 1 => .object "WharfPapers$Lots"
  | 2 => .object "WharfPapers$Lines"
  | 3 => .object "WharfPapers$Terms"
  | 4 => .object "WharfPapers$Reader"
  | 5 => .object "WharfPapers$Story"
  | 6 => .object "WharfPapers$Story"
  | 7 => .object "WharfPapers$Doubt"
  | 8 => .object "WharfPapers$Weighings"
  | 9 => .array (.array .int)
  | 10 => .object "WharfPapers$Sales"
  | 11 => .object "WharfPapers$Dues"
  | 12 => .array .int
  | 13 => .array .int
  | _ => .object "WharfPapers$Plan"
def RX11 : String := "WharfPapersModel"
def TX11 : u_T := fun k => match k with
  | 0 => ("WharfPapersModel", "now", "I", false)
  | 1 => ("WharfPapersModel", "lots", "I", false)
  | 2 => ("WharfPapersModel", "sortOf", "[I", true)
  | 3 => ("WharfPapersModel", "casksOf", "[I", true)
  | 4 => ("WharfPapersModel", "weightOf", "[I", true)
  | 5 => ("WharfPapersModel", "owner", "[I", true)
  | 6 => ("WharfPapersModel", "floorOf", "[I", true)
  | 7 => ("WharfPapersModel", "lotDay", "[I", true)
  | 8 => ("WharfPapersModel", "room", "[I", true)
  | 9 => ("WharfPapersModel", "lines", "I", false)
  | 10 => ("WharfPapersModel", "kindOf", "[I", true)
  | 11 => ("WharfPapersModel", "dayOf", "[I", true)
  | 12 => ("WharfPapersModel", "toldOn", "[I", true)
  | 13 => ("WharfPapersModel", "target", "[I", true)
  | 14 => ("WharfPapersModel", "houseP", "[I", true)
  | 15 => ("WharfPapersModel", "houseQ", "[I", true)
  | 16 => ("WharfPapersModel", "many", "[I", true)
  | 17 => ("WharfPapersModel", "isVoid", "[Z", true)
  | 18 => ("WharfPapersModel", "isVain", "[Z", true)
  | 19 => ("WharfPapersModel", "isDouble", "[Z", true)
  | 20 => ("WharfPapersModel", "book", "[I", true)
  | 21 => ("WharfPapersModel", "bookSize", "I", false)
  | 22 => ("WharfPapersModel", "terms", "I", false)
  | 23 => ("WharfPapersModel", "inForce", "[I", true)
  | 24 => ("WharfPapersModel", "clauses", "[I", true)
  | 25 => ("WharfPapersModel", "clauseKind", "[I", true)
  | 26 => ("WharfPapersModel", "first", "[I", true)
  | 27 => ("WharfPapersModel", "second", "[I", true)
  | 28 => ("WharfPapersModel", "text", "[I", true)
  | 29 => ("WharfPapersModel", "textSize", "I", false)
  | 30 => ("WharfPapersModel", "at", "I", false)
  | 31 => ("WharfPapersModel", "faultOf", "I", false)
  | 32 => ("WharfPapersModel", "place", "I", false)
  | 33 => ("WharfPapersModel", "from", "I", false)
  | 34 => ("WharfPapersModel", "letters", "I", false)
  | 35 => ("WharfPapersModel", "isOn", "[Z", true)
  | 36 => ("WharfPapersModel", "row", "[I", true)
  | 37 => ("WharfPapersModel", "holds", "[I", true)
  | 38 => ("WharfPapersModel", "keys", "I", false)
  | 39 => ("WharfPapersModel", "keyMany", "I", false)
  | 40 => ("WharfPapersModel", "isThere", "[Z", true)
  | 41 => ("WharfPapersModel", "lotOf", "[I", true)
  | 42 => ("WharfPapersModel", "casks", "[I", true)
  | 43 => ("WharfPapersModel", "holder", "[I", true)
  | 44 => ("WharfPapersModel", "title", "[I", true)
  | 45 => ("WharfPapersModel", "lender", "[I", true)
  | 46 => ("WharfPapersModel", "lent", "[I", true)
  | 47 => ("WharfPapersModel", "stopper", "[I", true)
  | 48 => ("WharfPapersModel", "outOf", "[I", true)
  | 49 => ("WharfPapersModel", "burntOf", "[I", true)
  | 50 => ("WharfPapersModel", "own", "[I", true)
  | 51 => ("WharfPapersModel", "owns", "I", false)
  | 52 => ("WharfPapersModel", "wasHolder", "[I", true)
  | 53 => ("WharfPapersModel", "wasTitle", "[I", true)
  | 54 => ("WharfPapersModel", "weighings", "I", false)
  | 55 => ("WharfPapersModel", "weighLot", "[I", true)
  | 56 => ("WharfPapersModel", "weighMany", "[I", true)
  | 57 => ("WharfPapersModel", "weighed", "[I", true)
  | 58 => ("WharfPapersModel", "weighDay", "[I", true)
  | 59 => ("WharfPapersModel", "unpaid", "[I", true)
  | 60 => ("WharfPapersModel", "sales", "I", false)
  | 61 => ("WharfPapersModel", "netOf", "[I", true)
  | 62 => ("WharfPapersModel", "groups", "[I", true)
  | 63 => ("WharfPapersModel", "dues", "I", false)
  | 64 => ("WharfPapersModel", "dueFrom", "[I", true)
  | 65 => ("WharfPapersModel", "dueTo", "[I", true)
  | 66 => ("WharfPapersModel", "dueSum", "[I", true)
  | 67 => ("WharfPapersModel", "given", "[I", true)
  | 68 => ("WharfPapersModel", "next", "[I", true)
  | 69 => ("WharfPapersModel", "coin", "[I", true)
  | 70 => ("WharfPapersModel", "changes", "I", false)
  | 71 => ("WharfPapersModel", "isParted", "[Z", true)
  | 72 => ("WharfPapersModel", "laid", "[I", true)
  | 73 => ("WharfPapersModel", "bestLaid", "[I", true)
  | 74 => ("WharfPapersModel", "ofSet", "[I", true)
  | 75 => ("WharfPapersModel", "setSize", "I", false)
  | 76 => ("WharfPapersModel", "load", "[I", true)
  | 77 => ("WharfPapersModel", "sorts", "[I", true)
  | _ => ("WharfPapersModel", "moved", "[I", true)
def tyX11 : Nat → FieldType := fun k => match k with
  | 0 => .int
  | 1 => .int
  | 2 => .array .int
  | 3 => .array .int
  | 4 => .array .int
  | 5 => .array .int
  | 6 => .array .int
  | 7 => .array .int
  | 8 => .array .int
  | 9 => .int
  | 10 => .array .int
  | 11 => .array .int
  | 12 => .array .int
  | 13 => .array .int
  | 14 => .array .int
  | 15 => .array .int
  | 16 => .array .int
  | 17 => .array .boolean
  | 18 => .array .boolean
  | 19 => .array .boolean
  | 20 => .array .int
  | 21 => .int
  | 22 => .int
  | 23 => .array .int
  | 24 => .array .int
  | 25 => .array .int
  | 26 => .array .int
  | 27 => .array .int
  | 28 => .array .int
  | 29 => .int
  | 30 => .int
  | 31 => .int
  | 32 => .int
  | 33 => .int
  | 34 => .int
  | 35 => .array .boolean
  | 36 => .array .int
  | 37 => .array .int
  | 38 => .int
  | 39 => .int
  | 40 => .array .boolean
  | 41 => .array .int
  | 42 => .array .int
  | 43 => .array .int
  | 44 => .array .int
  | 45 => .array .int
  | 46 => .array .int
  | 47 => .array .int
  | 48 => .array .int
  | 49 => .array .int
  | 50 => .array .int
  | 51 => .int
  | 52 => .array .int
  | 53 => .array .int
  | 54 => .int
  | 55 => .array .int
  | 56 => .array .int
  | 57 => .array .int
  | 58 => .array .int
  | 59 => .array .int
  | 60 => .int
  | 61 => .array .int
  | 62 => .array .int
  | 63 => .int
  | 64 => .array .int
  | 65 => .array .int
  | 66 => .array .int
  | 67 => .array .int
  | 68 => .array .int
  | 69 => .array .int
  | 70 => .int
  | 71 => .array .boolean
  | 72 => .array .int
  | 73 => .array .int
  | 74 => .array .int
  | 75 => .int
  | 76 => .array .int
  | 77 => .array .int
  | _ => .array .int
abbrev vwCl : List vw_C := [(RX0, TX0, 3), (RX1, TX1, 10), (RX2, TX2, 11), (RX3, TX3, 6), (RX4, TX4, 7), (RX5, TX5, 9), (RX6, TX6, 8), (RX7, TX7, 16), (RX8, TX8, 9), (RX9, TX9, 5), (RX10, TX10, 15), (RX11, TX11, 79)]
/-- is field j of class ci a number? -/
def fI (ci j : Nat) : Bool := match ci with
  | 0 => [2].contains j
  | 1 => [4, 9].contains j
  | 2 => [9, 10].contains j
  | 3 => [5].contains j
  | 4 => [2].contains j
  | 5 => [1, 4, 5, 6, 7, 8].contains j
  | 6 => [7].contains j
  | 7 => [15].contains j
  | 8 => [7, 8].contains j
  | 9 => [4].contains j
  | 10 => [0].contains j
  | 11 => [0, 1, 9, 21, 22, 29, 30, 31, 32, 33, 34, 38, 39, 51, 54, 60, 63, 70, 75].contains j
  | _ => false
/-- the shape of cell k: its kind (below 12: an object of that class; 12 int[], 13 boolean[], 14 long[], 15 int[][]) and its length -/
def shp (k : Nat) : Nat × Nat := bif Nat.blt k 87 then (bif Nat.blt k 43 then (bif Nat.blt k 21 then (bif Nat.blt k 10 then (bif Nat.blt k 5 then (bif Nat.blt k 2 then (bif Nat.blt k 1 then ((10, 15)) else ((3, 6))) else (bif Nat.blt k 3 then ((12, 12)) else (bif Nat.blt k 4 then ((12, 12)) else ((12, 12))))) else (bif Nat.blt k 7 then (bif Nat.blt k 6 then ((12, 12)) else ((12, 12))) else (bif Nat.blt k 8 then ((2, 11)) else (bif Nat.blt k 9 then ((12, 120)) else ((12, 120)))))) else (bif Nat.blt k 15 then (bif Nat.blt k 12 then (bif Nat.blt k 11 then ((12, 120)) else ((12, 120))) else (bif Nat.blt k 13 then ((12, 120)) else (bif Nat.blt k 14 then ((12, 120)) else ((12, 120))))) else (bif Nat.blt k 18 then (bif Nat.blt k 16 then ((12, 120)) else (bif Nat.blt k 17 then ((13, 120)) else ((8, 9)))) else (bif Nat.blt k 19 then ((12, 8)) else (bif Nat.blt k 20 then ((12, 8)) else ((15, 8))))))) else (bif Nat.blt k 32 then (bif Nat.blt k 26 then (bif Nat.blt k 23 then (bif Nat.blt k 22 then ((12, 10)) else ((12, 10))) else (bif Nat.blt k 24 then ((12, 10)) else (bif Nat.blt k 25 then ((12, 10)) else ((12, 10))))) else (bif Nat.blt k 29 then (bif Nat.blt k 27 then ((12, 10)) else (bif Nat.blt k 28 then ((12, 10)) else ((12, 10)))) else (bif Nat.blt k 30 then ((15, 8)) else (bif Nat.blt k 31 then ((12, 10)) else ((12, 10)))))) else (bif Nat.blt k 37 then (bif Nat.blt k 34 then (bif Nat.blt k 33 then ((12, 10)) else ((12, 10))) else (bif Nat.blt k 35 then ((12, 10)) else (bif Nat.blt k 36 then ((12, 10)) else ((12, 10))))) else (bif Nat.blt k 40 then (bif Nat.blt k 38 then ((12, 10)) else (bif Nat.blt k 39 then ((12, 8)) else ((13, 8)))) else (bif Nat.blt k 41 then ((12, 10)) else (bif Nat.blt k 42 then ((5, 9)) else ((12, 160)))))))) else (bif Nat.blt k 65 then (bif Nat.blt k 54 then (bif Nat.blt k 48 then (bif Nat.blt k 45 then (bif Nat.blt k 44 then ((12, 10)) else ((12, 10))) else (bif Nat.blt k 46 then ((7, 16)) else (bif Nat.blt k 47 then ((13, 120)) else ((13, 120))))) else (bif Nat.blt k 51 then (bif Nat.blt k 49 then ((12, 120)) else (bif Nat.blt k 50 then ((12, 120)) else ((12, 120)))) else (bif Nat.blt k 52 then ((12, 120)) else (bif Nat.blt k 53 then ((12, 120)) else ((12, 120)))))) else (bif Nat.blt k 59 then (bif Nat.blt k 56 then (bif Nat.blt k 55 then ((12, 120)) else ((12, 12))) else (bif Nat.blt k 57 then ((12, 12)) else (bif Nat.blt k 58 then ((12, 12)) else ((7, 16))))) else (bif Nat.blt k 62 then (bif Nat.blt k 60 then ((13, 120)) else (bif Nat.blt k 61 then ((13, 120)) else ((12, 120)))) else (bif Nat.blt k 63 then ((12, 120)) else (bif Nat.blt k 64 then ((12, 120)) else ((12, 120))))))) else (bif Nat.blt k 76 then (bif Nat.blt k 70 then (bif Nat.blt k 67 then (bif Nat.blt k 66 then ((12, 120)) else ((12, 120))) else (bif Nat.blt k 68 then ((12, 120)) else (bif Nat.blt k 69 then ((12, 12)) else ((12, 12))))) else (bif Nat.blt k 73 then (bif Nat.blt k 71 then ((12, 12)) else (bif Nat.blt k 72 then ((0, 3)) else ((12, 201)))) else (bif Nat.blt k 74 then ((12, 120)) else (bif Nat.blt k 75 then ((9, 5)) else ((12, 40)))))) else (bif Nat.blt k 81 then (bif Nat.blt k 78 then (bif Nat.blt k 77 then ((12, 40)) else ((12, 40))) else (bif Nat.blt k 79 then ((12, 40)) else (bif Nat.blt k 80 then ((15, 8)) else ((12, 12))))) else (bif Nat.blt k 84 then (bif Nat.blt k 82 then ((12, 12)) else (bif Nat.blt k 83 then ((12, 12)) else ((12, 12)))) else (bif Nat.blt k 85 then ((12, 12)) else (bif Nat.blt k 86 then ((12, 12)) else ((12, 12))))))))) else (bif Nat.blt k 131 then (bif Nat.blt k 109 then (bif Nat.blt k 98 then (bif Nat.blt k 92 then (bif Nat.blt k 89 then (bif Nat.blt k 88 then ((12, 12)) else ((6, 8))) else (bif Nat.blt k 90 then ((12, 24)) else (bif Nat.blt k 91 then ((12, 24)) else ((12, 24))))) else (bif Nat.blt k 95 then (bif Nat.blt k 93 then ((12, 24)) else (bif Nat.blt k 94 then ((12, 8)) else ((12, 256)))) else (bif Nat.blt k 96 then ((12, 256)) else (bif Nat.blt k 97 then ((1, 10)) else ((12, 24)))))) else (bif Nat.blt k 103 then (bif Nat.blt k 100 then (bif Nat.blt k 99 then ((12, 24)) else ((12, 24))) else (bif Nat.blt k 101 then ((12, 24)) else (bif Nat.blt k 102 then ((12, 8)) else ((12, 8))))) else (bif Nat.blt k 106 then (bif Nat.blt k 104 then ((12, 8)) else (bif Nat.blt k 105 then ((13, 8)) else ((12, 6)))) else (bif Nat.blt k 107 then ((12, 4)) else (bif Nat.blt k 108 then ((4, 7)) else ((12, 12))))))) else (bif Nat.blt k 120 then (bif Nat.blt k 114 then (bif Nat.blt k 111 then (bif Nat.blt k 110 then ((12, 8)) else ((12, 256))) else (bif Nat.blt k 112 then ((12, 256)) else (bif Nat.blt k 113 then ((14, 256)) else ((14, 256))))) else (bif Nat.blt k 117 then (bif Nat.blt k 115 then ((11, 79)) else (bif Nat.blt k 116 then ((12, 12)) else ((12, 12)))) else (bif Nat.blt k 118 then ((12, 12)) else (bif Nat.blt k 119 then ((12, 12)) else ((12, 12)))))) else (bif Nat.blt k 125 then (bif Nat.blt k 122 then (bif Nat.blt k 121 then ((12, 12)) else ((12, 6))) else (bif Nat.blt k 123 then ((12, 120)) else (bif Nat.blt k 124 then ((12, 120)) else ((12, 120))))) else (bif Nat.blt k 128 then (bif Nat.blt k 126 then ((12, 120)) else (bif Nat.blt k 127 then ((12, 120)) else ((12, 120)))) else (bif Nat.blt k 129 then ((12, 120)) else (bif Nat.blt k 130 then ((13, 120)) else ((13, 120)))))))) else (bif Nat.blt k 153 then (bif Nat.blt k 142 then (bif Nat.blt k 136 then (bif Nat.blt k 133 then (bif Nat.blt k 132 then ((13, 120)) else ((12, 120))) else (bif Nat.blt k 134 then ((12, 8)) else (bif Nat.blt k 135 then ((12, 8)) else ((12, 80))))) else (bif Nat.blt k 139 then (bif Nat.blt k 137 then ((12, 80)) else (bif Nat.blt k 138 then ((12, 80)) else ((12, 160)))) else (bif Nat.blt k 140 then ((13, 8)) else (bif Nat.blt k 141 then ((12, 8)) else ((12, 9)))))) else (bif Nat.blt k 147 then (bif Nat.blt k 144 then (bif Nat.blt k 143 then ((13, 120)) else ((12, 120))) else (bif Nat.blt k 145 then ((12, 120)) else (bif Nat.blt k 146 then ((12, 120)) else ((12, 120))))) else (bif Nat.blt k 150 then (bif Nat.blt k 148 then ((12, 120)) else (bif Nat.blt k 149 then ((12, 120)) else ((12, 120)))) else (bif Nat.blt k 151 then ((12, 12)) else (bif Nat.blt k 152 then ((12, 12)) else ((12, 120))))))) else (bif Nat.blt k 164 then (bif Nat.blt k 158 then (bif Nat.blt k 155 then (bif Nat.blt k 154 then ((12, 120)) else ((12, 120))) else (bif Nat.blt k 156 then ((12, 40)) else (bif Nat.blt k 157 then ((12, 40)) else ((12, 40))))) else (bif Nat.blt k 161 then (bif Nat.blt k 159 then ((12, 40)) else (bif Nat.blt k 160 then ((12, 96)) else ((12, 32)))) else (bif Nat.blt k 162 then ((12, 256)) else (bif Nat.blt k 163 then ((12, 24)) else ((12, 24)))))) else (bif Nat.blt k 169 then (bif Nat.blt k 166 then (bif Nat.blt k 165 then ((12, 24)) else ((12, 24))) else (bif Nat.blt k 167 then ((12, 24)) else (bif Nat.blt k 168 then ((12, 8)) else ((13, 16))))) else (bif Nat.blt k 172 then (bif Nat.blt k 170 then ((12, 8)) else (bif Nat.blt k 171 then ((12, 8)) else ((12, 8)))) else (bif Nat.blt k 173 then ((12, 6)) else (bif Nat.blt k 174 then ((12, 24)) else ((12, 9)))))))))
/-- the reference in field (or row) j of cell k, once all is made -/
def ρ0 (k : Nat) (j : Int) : Option Nat := bif Nat.blt k 58 then (bif Nat.blt k 20 then (bif Nat.blt k 7 then (bif Nat.blt k 1 then (bif Nat.beq k 0 then (match j with | 1 => some 1 | 2 => some 7 | 3 => some 17 | 4 => some 41 | 5 => some 45 | 6 => some 58 | 7 => some 71 | 8 => some 74 | 9 => some 79 | 10 => some 88 | 11 => some 96 | 12 => some 105 | 13 => some 106 | 14 => some 107 | _ => none) else none) else (bif Nat.beq k 1 then (match j with | 0 => some 2 | 1 => some 3 | 2 => some 4 | 3 => some 5 | 4 => some 6 | _ => none) else none)) else (bif Nat.blt k 17 then (bif Nat.beq k 7 then (match j with | 0 => some 8 | 1 => some 9 | 2 => some 10 | 3 => some 11 | 4 => some 12 | 5 => some 13 | 6 => some 14 | 7 => some 15 | 8 => some 16 | _ => none) else none) else (bif Nat.beq k 17 then (match j with | 0 => some 18 | 1 => some 19 | 2 => some 20 | 3 => some 29 | 4 => some 38 | 5 => some 39 | 6 => some 40 | _ => none) else none))) else (bif Nat.blt k 41 then (bif Nat.blt k 29 then (bif Nat.beq k 20 && decide (0 ≤ j) && decide (j < 8) then some (21 + j.toNat) else none) else (bif Nat.beq k 29 && decide (0 ≤ j) && decide (j < 8) then some (30 + j.toNat) else none)) else (bif Nat.blt k 45 then (bif Nat.beq k 41 then (match j with | 0 => some 42 | 2 => some 43 | 3 => some 44 | _ => none) else none) else (bif Nat.beq k 45 then (match j with | 0 => some 1 | 1 => some 7 | 2 => some 17 | 3 => some 46 | 4 => some 47 | 5 => some 48 | 6 => some 49 | 7 => some 50 | 8 => some 51 | 9 => some 52 | 10 => some 53 | 11 => some 54 | 12 => some 55 | 13 => some 56 | 14 => some 57 | _ => none) else none)))) else (bif Nat.blt k 88 then (bif Nat.blt k 74 then (bif Nat.blt k 71 then (bif Nat.beq k 58 then (match j with | 0 => some 1 | 1 => some 7 | 2 => some 17 | 3 => some 59 | 4 => some 60 | 5 => some 61 | 6 => some 62 | 7 => some 63 | 8 => some 64 | 9 => some 65 | 10 => some 66 | 11 => some 67 | 12 => some 68 | 13 => some 69 | 14 => some 70 | _ => none) else none) else (bif Nat.beq k 71 then (match j with | 0 => some 72 | 1 => some 73 | _ => none) else none)) else (bif Nat.blt k 79 then (bif Nat.beq k 74 then (match j with | 0 => some 75 | 1 => some 76 | 2 => some 77 | 3 => some 78 | _ => none) else none) else (bif Nat.beq k 79 && decide (0 ≤ j) && decide (j < 8) then some (80 + j.toNat) else none))) else (bif Nat.blt k 107 then (bif Nat.blt k 96 then (bif Nat.beq k 88 then (match j with | 0 => some 89 | 1 => some 90 | 2 => some 91 | 3 => some 92 | 4 => some 93 | 5 => some 94 | 6 => some 95 | _ => none) else none) else (bif Nat.beq k 96 then (match j with | 0 => some 97 | 1 => some 98 | 2 => some 99 | 3 => some 100 | 5 => some 101 | 6 => some 102 | 7 => some 103 | 8 => some 104 | _ => none) else none)) else (bif Nat.blt k 114 then (bif Nat.beq k 107 then (match j with | 0 => some 108 | 1 => some 109 | 3 => some 110 | 4 => some 111 | 5 => some 112 | 6 => some 113 | _ => none) else none) else (bif Nat.beq k 114 then (match j with | 2 => some 115 | 3 => some 116 | 4 => some 117 | 5 => some 118 | 6 => some 119 | 7 => some 120 | 8 => some 121 | 10 => some 122 | 11 => some 123 | 12 => some 124 | 13 => some 125 | 14 => some 126 | 15 => some 127 | 16 => some 128 | 17 => some 129 | 18 => some 130 | 19 => some 131 | 20 => some 132 | 23 => some 133 | 24 => some 134 | 25 => some 135 | 26 => some 136 | 27 => some 137 | 28 => some 138 | 35 => some 139 | 36 => some 140 | 37 => some 141 | 40 => some 142 | 41 => some 143 | 42 => some 144 | 43 => some 145 | 44 => some 146 | 45 => some 147 | 46 => some 148 | 47 => some 149 | 48 => some 150 | 49 => some 151 | 50 => some 152 | 52 => some 153 | 53 => some 154 | 55 => some 155 | 56 => some 156 | 57 => some 157 | 58 => some 158 | 59 => some 159 | 61 => some 160 | 62 => some 161 | 64 => some 162 | 65 => some 163 | 66 => some 164 | 67 => some 165 | 68 => some 166 | 69 => some 167 | 71 => some 168 | 72 => some 169 | 73 => some 170 | 74 => some 171 | 76 => some 172 | 77 => some 173 | 78 => some 174 | _ => none) else none))))
/-- the numbers, once all is made -/
def σ0 (k : Nat) (j : Int) : Int := if (k = 17 ∧ j = 7) ∨ (k = 41 ∧ j = 6) ∨ (k = 114 ∧ j = 32) then -1 else if (k = 105 ∨ k = 121) ∧ 0 ≤ j ∧ j < 6 then 200 else 0
end
section
/-! OWN MACHINE. Numbers are Int, cells go by number (cell k lies at base + k; constants from 1000 on), their contents are functions. -/
abbrev AV : Type := Int ⊕ Int ⊕ Option Nat
abbrev vi (z : Int) : AV := Sum.inl z
abbrev vl (z : Int) : AV := Sum.inr (Sum.inl z)
abbrev vr (k : Nat) : AV := Sum.inr (Sum.inr (some k))
/-- base, the heap at the law's start, classes and slots, addresses of constants, the script's length and ints -/
abbrev GC : Type := Nat × Heap × va_G × (Nat → Nat) × Nat × (Nat → Int)
abbrev WS : Type := Nat × (Nat → Int → Option Nat) × (Nat → Int → Int)
abbrev MI : Type := MethodName × ByteArray × Nat × Option FieldType
def adr (G : GC) (k : Nat) : Nat := if k < 1000 then G.1 + k else G.2.2.2.1 (k - 1000)
def crf (G : GC) (r : Option Nat) : Value := match r with
  | none => .null
  | some k => .ref (adr G k)
def cvl (G : GC) (v : AV) : Value := match v with
  | .inl z => .int (Int32.ofInt z)
  | .inr (.inl z) => .long (Int64.ofInt z)
  | .inr (.inr r) => crf G r
def fvl (G : GC) (ci : Nat) (ρ : Nat → Int → Option Nat) (σ : Nat → Int → Int) (k j : Nat) : Value := if fI ci j = true then .int (Int32.ofInt (σ k j)) else crf G (ρ k j)
def upq {α : Type} (σ : Nat → Int → α) (k : Nat) (i : Int) (v : α) : Nat → Int → α := fun a => if a = k then (fun b => if b = i then v else σ k b) else σ a
theorem upq_ne {α : Type} {σ : Nat → Int → α} {k a : Nat} {i : Int} {v : α} (h : a ≠ k) : upq σ k i v a = σ a := if_neg h
theorem upq_eq {α : Type} {σ : Nat → Int → α} {k : Nat} {i b : Int} {v : α} : upq σ k i v k b = if b = i then v else σ k b := by unfold upq; rw [if_pos rfl]
def arrq (U : State) (H : Heap) (a : Nat) (ty : FieldType) (n : Nat) (f : Nat → Value) : Prop := ∃ cA : ClassId, H[a]? = some (arrV cA n f) ∧ ArrOfT U cA ty
/-- cell k holds what ρ and σ say -/
def cellq (G : GC) (ρ : Nat → Int → Option Nat) (σ : Nat → Int → Int) (U : State) (H : Heap) (k : Nat) : Prop := match shp k with
  | (12, n) => arrq U H (adr G k) .int n (fun j => .int (Int32.ofInt (σ k j)))
  | (13, n) => arrq U H (adr G k) .boolean n (fun j => .int (Int32.ofInt (σ k j)))
  | (14, n) => arrq U H (adr G k) .long n (fun j => .long (Int64.ofInt (σ k j)))
  | (15, n) => arrq U H (adr G k) (.array .int) n (fun j => crf G (ρ k j))
  | (ci, N) => t_OB (adr G k) (G.2.2.1.1 ci) N (G.2.2.1.2 ci) H (fun j => fvl G ci ρ σ k j)
def Invq (G : GC) (S : WS) (U : State) (H : Heap) : Prop := (H.size = G.1 + S.1 ∧ S.1 ≤ 175) ∧ (∀ q : Nat, q < G.1 → H[q]? = G.2.1[q]?) ∧ ∀ k : Nat, k < S.1 → cellq G S.2.1 S.2.2 U H k
/-- the words that hold on the way -/
def tbG : List Cond := lw_tbl.filter goodWord
/-- static arrays: class, name, length, contents (cells 1000, 1001 ..) -/
abbrev stq : List (String × String × List Int) := [("WharfPapers", "HAS_P", [1, 1, 0, 1, 0, 1, 0, 0, 0, 1, 0]), ("WharfPapers", "LEAST_N", [1, 0, 1, 1, -1, -1, -1, 1, 1, -1, -1]), ("WharfPapers", "MOST_N", [200, 1, 200, 9999, -1, -1, -1, 200, 200, -1, -1]), ("WharfPapers$Reader", "MOST_OF_NAME", [99, 1, 1, 999, 1]), ("WharfPapers$Terms", "AT_FIRST", [2, 1, 0, 10, 0, 0, 0, 0, 0, 2257]), ("WharfPapers$Plan", "OF_A_FLOOR", [279936, 46656, 7776, 1296, 216, 36, 6, 1])]
/-- texts: entry in the Reader's table, text (cells 1010 ..; their bytes 1030 ..) -/
abbrev txq : List (Nat × String × List Int32) := [(98, "rent", [114, 101, 110, 116]), (100, "title", [116, 105, 116, 108, 101]), (102, "stop", [115, 116, 111, 112]), (104, "bear", [98, 101, 97, 114]), (106, "beyond", [98, 101, 121, 111, 110, 100]), (108, "bank", [98, 97, 110, 107]), (110, "seller", [115, 101, 108, 108, 101, 114]), (112, "owner", [111, 119, 110, 101, 114]), (114, "let", [108, 101, 116]), (116, "dry", [100, 114, 121]), (118, "rank", [114, 97, 110, 107]), (120, "strike", [115, 116, 114, 105, 107, 101]), (122, "by", [98, 121])]
def lenq : List Nat := txq.map (fun q => q.2.2.length)
def bytq : List (List Int32) := txq.map (fun q => q.2.2)
abbrev sfmt : String := "Ljava/util/function/BiFunction;"
/-- what the tables give of any state on the way: classes, static arrays, texts, the script -/
def Kst (G : GC) (U : State) : Prop := va_K G.2.2.1 vwCl [] U ∧
  (∀ (i : Nat) (q : String × String × List Int), stq[i]? = some q → va_Z q.1 q.2.1 "[I" (.ref (adr G (1000 + i))) (fun a => G.1 ≤ a) U G.2.1 ∧ va_T .int (adr G (1000 + i)) q.2.2.length (fun j => .int (Int32.ofInt (q.2.2.getD j 0))) (fun a => G.1 ≤ a) U G.2.1) ∧
  (∀ (i : Nat) (q : Nat × String × List Int32), txq[i]? = some q → vk_R "WharfPapers$Reader" q.1 q.2.1 (adr G (1010 + i)) U) ∧
  vk_S 13 lenq bytq (fun i => adr G (1010 + i)) (fun i => adr G (1030 + i)) (fun a => G.1 ≤ a) U G.2.1 ∧
  va_Z "java/lang/String" "COMPACT_STRINGS" "Z" (.int 1) (fun a => G.1 ≤ a) U G.2.1 ∧
  (∃ r : Option Nat, va_Z "jdk/internal/util/Preconditions" "SIOOBE_FORMATTER" sfmt (crf G r) (fun a => G.1 ≤ a) U G.2.1) ∧
  va_T .int (adr G 1060) G.2.2.2.2.1 (fun j => .int (Int32.ofInt (G.2.2.2.2.2 j))) (fun a => G.1 ≤ a) U G.2.1
theorem Kst.warm {G : GC} {u U : State} (hW : u.WarmedH U.vm) (h : Kst G u) : Kst G U := by
  obtain ⟨h1, h2, h3, h4, h5, ⟨r, h6⟩, h7⟩ := h
  exact ⟨va_K.moved hW.alike h1, fun i q hq => ⟨(h2 i q hq).1.moved hW.alike, (h2 i q hq).2.moved hW.alike⟩, fun i q hq => (h3 i q hq).warm hW, h4.moved hW.alike, h5.moved hW.alike, ⟨r, h6.moved hW.alike⟩, h7.moved hW.alike⟩
theorem Kst.same {G : GC} {u U : State} (hv : U.vm = u.vm) (h : Kst G u) : Kst G U := by
  have ha : u.vm.Alike U.vm := by rw [hv]; exact Vm.Alike.refl _
  obtain ⟨h1, h2, h3, h4, h5, ⟨r, h6⟩, h7⟩ := h
  exact ⟨va_K.moved ha h1, fun i q hq => ⟨(h2 i q hq).1.moved ha, (h2 i q hq).2.moved ha⟩, fun i q hq => (h3 i q hq).same hv, h4.moved ha, h5.moved ha, ⟨r, h6.moved ha⟩, h7.moved ha⟩
theorem arrq.moved {u U : State} {H : Heap} {a : Nat} {ty : FieldType} {n : Nat} {f : Nat → Value} (hvm : u.vm.Alike U.vm) (h : arrq u H a ty n f) : arrq U H a ty n f := by
  obtain ⟨cA, h1, h2⟩ := h
  exact ⟨cA, h1, arrOfT_moved hvm h2⟩
theorem cellq.moved {G : GC} {ρ : Nat → Int → Option Nat} {σ : Nat → Int → Int} {u U : State} {H : Heap} {k : Nat} (hvm : u.vm.Alike U.vm) (h : cellq G ρ σ u H k) : cellq G ρ σ U H k := by
  unfold cellq at h ⊢
  split at h
  · exact arrq.moved hvm h
  · exact arrq.moved hvm h
  · exact arrq.moved hvm h
  · exact arrq.moved hvm h
  · exact h
theorem Invq.moved {G : GC} {S : WS} {u U : State} {H : Heap} (hvm : u.vm.Alike U.vm) (h : Invq G S u H) : Invq G S U H := ⟨h.1, h.2.1, fun k hk => (h.2.2 k hk).moved hvm⟩
theorem adr_lt {G : GC} {k : Nat} (h : k < 1000) : adr G k = G.1 + k := if_pos h
/-- a cell reads alike where heap, refs and numbers are alike there -/
theorem cellq.kept {G : GC} {ρ ρ' : Nat → Int → Option Nat} {σ σ' : Nat → Int → Int} {U : State} {H H' : Heap} {k : Nat} (h : cellq G ρ σ U H k) (hH : H'[adr G k]? = H[adr G k]?) (hρ : ρ' k = ρ k) (hσ : σ' k = σ k) : cellq G ρ' σ' U H' k := by
  unfold cellq at h ⊢
  split at h
  · obtain ⟨cA, h1, h2⟩ := h; exact ⟨cA, by rw [hH, h1, hσ], h2⟩
  · obtain ⟨cA, h1, h2⟩ := h; exact ⟨cA, by rw [hH, h1, hσ], h2⟩
  · obtain ⟨cA, h1, h2⟩ := h; exact ⟨cA, by rw [hH, h1, hσ], h2⟩
  · obtain ⟨cA, h1, h2⟩ := h; exact ⟨cA, by rw [hH, h1, hρ], h2⟩
  · refine t_OB.to (t_OB.kept h hH) (fun j _ => ?_)
    unfold fvl
    rw [hσ, hρ]
/-- one cell is written: the world behind it -/
theorem Invq.put {G : GC} {n : Nat} {ρ ρ' : Nat → Int → Option Nat} {σ σ' : Nat → Int → Int} {U : State} {H H' : Heap} {k : Nat} (h : Invq G (n, ρ, σ) U H) (hk : k < n) (hs : H'.size = H.size) (ho : ∀ q : Nat, q ≠ adr G k → H'[q]? = H[q]?) (hc : cellq G ρ' σ' U H' k) (hρ : ∀ a, a ≠ k → ρ' a = ρ a) (hσ : ∀ a, a ≠ k → σ' a = σ a) : Invq G (n, ρ', σ') U H' := by
  obtain ⟨⟨h1, h0⟩, h2, h3⟩ := h
  have hk9 : k < 1000 := Nat.lt_of_lt_of_le hk (Nat.le_trans h0 (by decide))
  refine ⟨⟨by rw [hs, h1], h0⟩, fun q hq => ?_, fun a ha => ?_⟩
  · rw [ho q (by rw [adr_lt hk9]; omega)]
    exact h2 q hq
  · by_cases e : a = k
    · subst e; exact hc
    · refine (h3 a ha).kept (ho _ ?_) (hρ a e) (hσ a e)
      have ha9 : a < 1000 := Nat.lt_of_lt_of_le ha (Nat.le_trans h0 (by decide))
      rw [adr_lt hk9, adr_lt ha9]
      omega
/-! locals -/
def hdL (l : List (Option AV)) : Option AV := match l with
  | [] => none
  | a :: _ => a
def noL (a : Option AV) : Option AV := match a with
  | some (.inr (.inl _)) => none
  | b => b
def sL : Nat → List (Option AV) → AV → List (Option AV)
  | 0, l, v => some v :: l.tail
  | 1, l, v => noL (hdL l) :: some v :: l.tail.tail
  | i + 2, l, v => hdL l :: sL (i + 1) l.tail v
/-- a long: the place behind it is gone too -/
def sLL : Nat → List (Option AV) → AV → List (Option AV)
  | 0, l, v => some v :: none :: l.tail.tail
  | 1, l, v => noL (hdL l) :: some v :: none :: l.tail.tail.tail
  | i + 2, l, v => hdL l :: sLL (i + 1) l.tail v
def prL (G : GC) : Nat → List (Option AV) → List (Nat × Value)
  | _, [] => []
  | n, none :: l => prL G (n + 1) l
  | n, some v :: l => (n, cvl G v) :: prL G (n + 1) l
def nthq {α : Type} : List α → Nat → Option α
  | [], _ => none
  | a :: _, 0 => some a
  | _ :: l, n + 1 => nthq l n
theorem prL_in {G : GC} : ∀ {L : List (Option AV)} {n i : Nat} {v : AV}, nthq L i = some (some v) → (n + i, cvl G v) ∈ prL G n L
  | [], n, i, v, h => by cases h
  | none :: l, n, 0, v, h => by cases h
  | none :: l, n, i + 1, v, h => by
    have := prL_in (G := G) (L := l) (n := n + 1) (i := i) (v := v) h
    show _ ∈ prL G (n + 1) l
    rw [show n + (i + 1) = n + 1 + i by omega]
    exact this
  | some w :: l, n, 0, v, h => by
    cases h
    exact List.mem_cons_self
  | some w :: l, n, i + 1, v, h => by
    have := prL_in (G := G) (L := l) (n := n + 1) (i := i) (v := v) h
    show _ ∈ _ :: prL G (n + 1) l
    rw [show n + (i + 1) = n + 1 + i by omega]
    exact List.mem_cons_of_mem _ this
theorem prL_of {G : GC} : ∀ {L : List (Option AV)} {n : Nat} {q : Nat × Value}, q ∈ prL G n L → ∃ (i : Nat) (v : AV), nthq L i = some (some v) ∧ q = (n + i, cvl G v)
  | [], n, q, h => by cases h
  | none :: l, n, q, h => by
    obtain ⟨i, v, h1, h2⟩ := prL_of (G := G) (L := l) (n := n + 1) h
    exact ⟨i + 1, v, h1, by rw [h2]; congr 1; omega⟩
  | some w :: l, n, q, h => by
    rcases List.mem_cons.mp h with h | h
    · exact ⟨0, w, rfl, h⟩
    · obtain ⟨i, v, h1, h2⟩ := prL_of (G := G) (L := l) (n := n + 1) h
      exact ⟨i + 1, v, h1, by rw [h2]; congr 1; omega⟩
def lh (G : GC) (ls : Array Slot) (nL : Nat) (L : List (Option AV)) : Prop := lv_has ls nL (prL G 0 L)
theorem lh.at {G : GC} {ls : Array Slot} {nL : Nat} {L : List (Option AV)} (h : lh G ls nL L) {i : Nat} {v : AV} (hi : nthq L i = some (some v)) : ls[i]? = some (.val (cvl G v)) := by
  have := h.2.2 _ (prL_in (G := G) (n := 0) hi)
  simpa using this
theorem nthq_hd {L : List (Option AV)} {v : AV} (h : hdL L = some v) : nthq L 0 = some (some v) := by
  cases L with
  | nil => cases h
  | cons a l => exact congrArg some h
theorem nthq_tl {α : Type} {L : List α} {i : Nat} {v : α} (h : nthq L.tail i = some v) : nthq L (i + 1) = some v := by
  cases L with
  | nil => cases h
  | cons a l => exact h
theorem noL_some {a : Option AV} {v : AV} (h : noL a = some v) : a = some v ∧ ∀ z, v ≠ vl z := by
  unfold noL at h
  split at h
  · cases h
  · rename_i hn
    refine ⟨h, fun z hz => ?_⟩
    subst hz
    exact hn z h
theorem sL_at : ∀ {i : Nat} {L : List (Option AV)} {v w : AV} {j : Nat}, nthq (sL i L v) j = some (some w) → (j = i ∧ w = v) ∨ (j ≠ i ∧ nthq L j = some (some w) ∧ (j + 1 = i → ∀ z, w ≠ vl z))
  | 0, L, v, w, 0, h => Or.inl ⟨rfl, by cases h; rfl⟩
  | 0, L, v, w, j + 1, h => Or.inr ⟨by omega, nthq_tl h, by omega⟩
  | 1, L, v, w, 0, h => by
    have h1 : noL (hdL L) = some w := Option.some.inj h
    obtain ⟨h2, h3⟩ := noL_some h1
    exact Or.inr ⟨by omega, nthq_hd h2, fun _ => h3⟩
  | 1, L, v, w, 1, h => Or.inl ⟨rfl, by cases h; rfl⟩
  | 1, L, v, w, j + 2, h => Or.inr ⟨by omega, nthq_tl (nthq_tl h), by omega⟩
  | i + 2, L, v, w, 0, h => Or.inr ⟨by omega, nthq_hd (Option.some.inj h), by omega⟩
  | i + 2, L, v, w, j + 1, h => by
    rcases sL_at (i := i + 1) (L := L.tail) (v := v) (w := w) (j := j) h with ⟨h1, h2⟩ | ⟨h1, h2, h3⟩
    · exact Or.inl ⟨by omega, h2⟩
    · exact Or.inr ⟨by omega, nthq_tl h2, fun e => h3 (by omega)⟩
theorem sLL_at : ∀ {i : Nat} {L : List (Option AV)} {v w : AV} {j : Nat}, nthq (sLL i L v) j = some (some w) → (j = i ∧ w = v) ∨ (j ≠ i ∧ j ≠ i + 1 ∧ nthq L j = some (some w) ∧ (j + 1 = i → ∀ z, w ≠ vl z))
  | 0, L, v, w, 0, h => Or.inl ⟨rfl, by cases h; rfl⟩
  | 0, L, v, w, 1, h => by cases h
  | 0, L, v, w, j + 2, h => Or.inr ⟨by omega, by omega, nthq_tl (nthq_tl h), by omega⟩
  | 1, L, v, w, 0, h => by
    have h1 : noL (hdL L) = some w := Option.some.inj h
    obtain ⟨h2, h3⟩ := noL_some h1
    exact Or.inr ⟨by omega, by omega, nthq_hd h2, fun _ => h3⟩
  | 1, L, v, w, 1, h => Or.inl ⟨rfl, by cases h; rfl⟩
  | 1, L, v, w, 2, h => by cases h
  | 1, L, v, w, j + 3, h => Or.inr ⟨by omega, by omega, nthq_tl (nthq_tl (nthq_tl h)), by omega⟩
  | i + 2, L, v, w, 0, h => Or.inr ⟨by omega, by omega, nthq_hd (Option.some.inj h), by omega⟩
  | i + 2, L, v, w, j + 1, h => by
    rcases sLL_at (i := i + 1) (L := L.tail) (v := v) (w := w) (j := j) h with ⟨h1, h2⟩ | ⟨h1, h0, h2, h3⟩
    · exact Or.inl ⟨by omega, h2⟩
    · exact Or.inr ⟨by omega, by omega, nthq_tl h2, fun e => h3 (by omega)⟩
theorem cvl_cat {G : GC} {w : AV} (h : (cvl G w).category = 2) : ∃ z, w = vl z := by
  match w with
  | .inl z => cases h
  | .inr (.inl z) => exact ⟨z, rfl⟩
  | .inr (.inr none) => cases h
  | .inr (.inr (some k)) => cases h
theorem lh.set {G : GC} {ls : Array Slot} {nL i : Nat} {L : List (Option AV)} {v : AV} {lv' : List (Nat × Value)} (hl : (i, cvl G v) :: (prL G 0 L).filter (fun q => !(q.1 == i) && !(q.1 + 1 == i && q.2.category == 2)) = lv') (h : lv_has ls nL lv') : lh G ls nL (sL i L v) := by
  refine ⟨h.1, h.2.1, fun q hq => h.2.2 q ?_⟩
  obtain ⟨j, w, h1, rfl⟩ := prL_of hq
  rw [← hl, Nat.zero_add]
  rcases sL_at h1 with ⟨rfl, rfl⟩ | ⟨h2, h3, h4⟩
  · exact List.mem_cons_self
  · refine List.mem_cons_of_mem _ (List.mem_filter.mpr ⟨by simpa using prL_in (G := G) (n := 0) h3, ?_⟩)
    have h5 : (j + 1 == i && (cvl G w).category == 2) = false := by
      by_cases e : j + 1 = i
      · have : ¬ (cvl G w).category = 2 := fun q => by
          obtain ⟨z, hz⟩ := cvl_cat q
          exact h4 e z hz
        simp [this]
      · simp [e]
    simp [h2, h5]
theorem lh.setL {G : GC} {ls : Array Slot} {nL i : Nat} {L : List (Option AV)} {v : AV} {lv' : List (Nat × Value)} (hl : (i, cvl G v) :: (prL G 0 L).filter (fun q => !(q.1 == i) && (!(q.1 == i + 1) && !(q.1 + 1 == i && q.2.category == 2))) = lv') (h : lv_has ls nL lv') : lh G ls nL (sLL i L v) := by
  refine ⟨h.1, h.2.1, fun q hq => h.2.2 q ?_⟩
  obtain ⟨j, w, h1, rfl⟩ := prL_of hq
  rw [← hl, Nat.zero_add]
  rcases sLL_at h1 with ⟨rfl, rfl⟩ | ⟨h2, h6, h3, h4⟩
  · exact List.mem_cons_self
  · refine List.mem_cons_of_mem _ (List.mem_filter.mpr ⟨by simpa using prL_in (G := G) (n := 0) h3, ?_⟩)
    have h5 : (j + 1 == i && (cvl G w).category == 2) = false := by
      by_cases e : j + 1 = i
      · have : ¬ (cvl G w).category = 2 := fun q => by
          obtain ⟨z, hz⟩ := cvl_cat q
          exact h4 e z hz
        simp [this]
      · simp [e]
    simp [h2, h5, h6]
end
section
/-! THE OWN MACHINE'S JUDGEMENT: from a frame at pc with locals L and stack st in the world S the method returns, and Q holds of answer and world. -/
abbrev En : Type := Nat × Instr × Nat × Nat × Nat
def jofq (i : Instr) : Option Int := match i with
  | .goto o => some o
  | .ifCond _ o => some o
  | .if_icmp _ o => some o
  | _ => none
/-- an entry of a code list: its place, instruction, length, the next place, the place that it jumps to -/
def dok (cc : ByteArray) (e : En) : Prop := decode cc e.1 = .ok (e.2.1, e.2.2.1) ∧ e.1 + e.2.2.1 = e.2.2.2.1 ∧ ∀ o, jofq e.2.1 = some o → (e.1 : Int) + o = (e.2.2.2.2 : Int)
def dokb (cc : ByteArray) (e : En) : Bool := decide (decode cc e.1 = .ok (e.2.1, e.2.2.1)) && (decide (e.1 + e.2.2.1 = e.2.2.2.1) && (match jofq e.2.1 with
  | some o => decide ((e.1 : Int) + o = (e.2.2.2.2 : Int))
  | none => true))
theorem dok_of {cc : ByteArray} {e : En} (h : dokb cc e = true) : dok cc e := by
  unfold dokb at h
  rw [Bool.and_eq_true, Bool.and_eq_true] at h
  refine ⟨of_decide_eq_true h.1, of_decide_eq_true h.2.1, fun o ho => ?_⟩
  have h3 := h.2.2
  rw [ho] at h3
  exact of_decide_eq_true h3
theorem dok_at {cc : ByteArray} {es : List En} (h : es.all (dokb cc) = true) : ∀ {e : En} (i : Nat), nthq es i = some e → dok cc e := by
  intro e i hi
  refine dok_of (List.all_eq_true.mp h e ?_)
  clear h
  induction es generalizing i with
  | nil => cases hi
  | cons a l ih =>
    cases i with
    | zero => cases hi; exact List.mem_cons_self
    | succ i => exact List.mem_cons_of_mem _ (ih i hi)
def rokq (ret : Option FieldType) (r : Option AV) : Prop := match ret, r with
  | none, none => True
  | some .int, some (.inl _) => True
  | some .boolean, some (.inl z) => z = 0 ∨ z = 1
  | some .byte, some (.inl z) => z = 0
  | some .char, some (.inl z) => 0 ≤ z ∧ z < 65536
  | some .long, some (.inr (.inl _)) => True
  | some (.object _), some (.inr (.inr (some _))) => True
  | _, _ => False
def rinq (r : Option AV) : Instr := match r with
  | none => .return_
  | some (.inl _) => .ireturn
  | some (.inr (.inl _)) => .lreturn
  | some (.inr (.inr _)) => .areturn
def RunX (l : Launch) (G : GC) (M : MI) (R : Room) (pc : Nat) (L : List (Option AV)) (st : List AV) (S : WS) (ca sl : Nat) (Q : Option AV → WS → Prop) : Prop :=
  ∀ (p : Program) (e : Env) (s : State) (m : MethodId) (args : Array Value) (below : List Frame) (meth : Method) (c : Code) (H : Heap) (locs : List Loc) (Z : State → Prop) (ls : Array Slot),
    CallFix p m c M.2.1 M.2.2.1 s args tbG M.1.cls → meth.name = M.1.name → Kst G s →
    (∀ (r : Option AV) (S' : WS) (pc' : Nat) (ls' : Array Slot) (H' : Heap) (locs' : List Loc) (ca' sl' : Nat), Q r S' → rokq M.2.2.2 r → decode M.2.1 pc' = .ok (rinq r, 1) → Invq G S' s H' → (∀ q ∈ locs', G.1 ≤ q.base) → ca' ≤ R.cells → sl' ≤ R.slots →
      W p l e R s m args below meth c H' locs' ca' sl' Z (F0 m pc' ls' (r.toList.map (cvl G)))) →
    Invq G S s H → (∀ q ∈ locs, G.1 ≤ q.base) → lh G ls M.2.2.1 L →
    W p l e R s m args below meth c H locs ca sl Z (F0 m pc ls (st.map (cvl G)))
/-! numbers -/
abbrev rgi (z : Int) : Prop := -2147483648 ≤ z ∧ z < 2147483648
abbrev rgl (z : Int) : Prop := -9223372036854775808 ≤ z ∧ z < 9223372036854775808
theorem o32 {z : Int} (h : rgi z) : (Int32.ofInt z).toInt = z := by
  have q : (Int32.size : Int) = 4294967296 := rfl
  rw [Int32.toInt_ofInt, Int.bmod_eq_of_le (by omega) (by omega)]
theorem o64 {z : Int} (h : rgl z) : (Int64.ofInt z).toInt = z := by
  have q : (Int64.size : Int) = 18446744073709551616 := rfl
  rw [Int64.toInt_ofInt, Int.bmod_eq_of_le (by omega) (by omega)]
theorem o32_lt {x y : Int} (hx : rgi x) (hy : rgi y) : Int32.ofInt x < Int32.ofInt y ↔ x < y := by rw [Int32.lt_iff_toInt_lt, o32 hx, o32 hy]
theorem o32_le {x y : Int} (hx : rgi x) (hy : rgi y) : Int32.ofInt x ≤ Int32.ofInt y ↔ x ≤ y := by rw [Int32.le_iff_toInt_le, o32 hx, o32 hy]
theorem o32_eq {x y : Int} (hx : rgi x) (hy : rgi y) : Int32.ofInt x = Int32.ofInt y ↔ x = y := by rw [← Int32.toInt_inj, o32 hx, o32 hy]
theorem o64_lt {x y : Int} (hx : rgl x) (hy : rgl y) : Int64.ofInt x < Int64.ofInt y ↔ x < y := by rw [Int64.lt_iff_toInt_lt, o64 hx, o64 hy]
theorem o64_eq {x y : Int} (hx : rgl x) (hy : rgl y) : Int64.ofInt x = Int64.ofInt y ↔ x = y := by rw [← Int64.toInt_inj, o64 hx, o64 hy]
theorem o32_0 : (0 : Int32) = Int32.ofInt 0 := rfl
theorem o32_ix {i : Int} (h0 : 0 ≤ i) (h1 : i < 2147483648) : (Int32.ofInt i).toNatClampNeg = i.toNat := by
  rw [Int32.toNatClampNeg, o32 ⟨by omega, h1⟩]
theorem o32_in {i : Int} {n : Nat} (h : 0 ≤ i ∧ i < n) (hn : n ≤ 100000) : ¬ (Int32.ofInt i < 0 ∨ n ≤ (Int32.ofInt i).toNatClampNeg) := by
  rw [o32_0, o32_lt (by omega) (by decide), o32_ix h.1 (by omega)]
  omega
theorem o32_div {x y : Int} (hx : 0 ≤ x ∧ x < 2147483648) (hy : 0 < y ∧ y < 2147483648) : Int32.ofInt x / Int32.ofInt y = Int32.ofInt (x / y) := by
  rw [← Int32.toInt_inj, Int32.toInt_div, o32 (by omega), o32 (by omega), Int.tdiv_eq_ediv_of_nonneg hx.1]
  have h1 : x / y ≤ x := Int.ediv_le_self _ hx.1
  have h2 : 0 ≤ x / y := Int.ediv_nonneg hx.1 (by omega)
  rw [o32 (by omega), Int.bmod_eq_of_le (by omega) (by omega)]
theorem o64_div {x y : Int} (hx : 0 ≤ x ∧ x < 9223372036854775808) (hy : 0 < y ∧ y < 9223372036854775808) : Int64.ofInt x / Int64.ofInt y = Int64.ofInt (x / y) := by
  rw [← Int64.toInt_inj, Int64.toInt_div, o64 (by omega), o64 (by omega), Int.tdiv_eq_ediv_of_nonneg hx.1]
  have h1 : x / y ≤ x := Int.ediv_le_self _ hx.1
  have h2 : 0 ≤ x / y := Int.ediv_nonneg hx.1 (by omega)
  rw [o64 (by omega), Int.bmod_eq_of_le (by omega) (by omega)]
/-- the bits' own words; lemmas on small numbers come later -/
def bAnd (x y : Int) : Int := (Int32.ofInt x &&& Int32.ofInt y).toInt
def bOr (x y : Int) : Int := (Int32.ofInt x ||| Int32.ofInt y).toInt
def bXor (x y : Int) : Int := (Int32.ofInt x ^^^ Int32.ofInt y).toInt
def bShl (x y : Int) : Int := (Int32.ofInt x <<< (Int32.ofInt y &&& 31)).toInt
def bShr (x y : Int) : Int := (Int32.ofInt x >>> (Int32.ofInt y &&& 31)).toInt
def bUsh (x y : Int) : Int := ((Int32.ofInt x).toUInt32 >>> ((Int32.ofInt y).toUInt32 &&& Int32.toUInt32 31)).toInt32.toInt
def lAnd (x y : Int) : Int := (Int64.ofInt x &&& Int64.ofInt y).toInt
def lOr (x y : Int) : Int := (Int64.ofInt x ||| Int64.ofInt y).toInt
def lShl (x y : Int) : Int := (Int64.ofInt x <<< ((Int32.ofInt y).toInt64 &&& 63)).toInt
def lShr (x y : Int) : Int := (Int64.ofInt x >>> ((Int32.ofInt y).toInt64 &&& 63)).toInt
def lUsh (x y : Int) : Int := ((Int64.ofInt x).toUInt64 >>> ((Int32.ofInt y).toInt64.toUInt64 &&& Int64.toUInt64 63)).toInt64.toInt
def lCmp (x y : Int) : Int := if y < x then 1 else if x = y then 0 else -1
def l2iq (x : Int) : Int := (Int64.ofInt x).toInt32.toInt
theorem shp_le : ∀ k, k < 175 → (shp k).2 ≤ 256 := by decide +kernel
section XR
variable {l : Launch} {G : GC} {M : MI} {R : Room} {pc nx tg : Nat} {L : List (Option AV)} {st : List AV} {S : WS} {ca sl : Nat} {Q : Option AV → WS → Prop}
theorem x_iconst {z : Int} (hd : dok M.2.1 (pc, .iconst z, 1, nx, tg)) (k : RunX l G M R nx L (vi z :: st) S ca sl Q) : RunX l G M R pc L (st) S ca sl Q := by
  intro p e s m args below meth c H locs Z ls hc hn hks hr hi hlo hl
  obtain ⟨hd1, hd2, hd3⟩ := hd
  dsimp only at hd1 hd2 hd3
  subst hd2
  have k1 := k p e s m args below meth c H locs Z ls hc hn hks hr hi hlo hl
  refine lv_iconst hc.1 hc.2.1 hd1 rfl ?_
  exact k1
theorem x_bipush {z w : Int} (hd : dok M.2.1 (pc, .bipush w, 2, nx, tg)) (hz : (Int8.ofInt w).toInt32 = Int32.ofInt z) (k : RunX l G M R nx L (vi z :: st) S ca sl Q) : RunX l G M R pc L (st) S ca sl Q := by
  intro p e s m args below meth c H locs Z ls hc hn hks hr hi hlo hl
  obtain ⟨hd1, hd2, hd3⟩ := hd
  dsimp only at hd1 hd2 hd3
  subst hd2
  have k1 := k p e s m args below meth c H locs Z ls hc hn hks hr hi hlo hl
  refine lv_bipush hc.1 hc.2.1 hd1 hz ?_
  exact k1
theorem x_sipush {z w : Int} (hd : dok M.2.1 (pc, .sipush w, 3, nx, tg)) (hz : (Int16.ofInt w).toInt32 = Int32.ofInt z) (k : RunX l G M R nx L (vi z :: st) S ca sl Q) : RunX l G M R pc L (st) S ca sl Q := by
  intro p e s m args below meth c H locs Z ls hc hn hks hr hi hlo hl
  obtain ⟨hd1, hd2, hd3⟩ := hd
  dsimp only at hd1 hd2 hd3
  subst hd2
  have k1 := k p e s m args below meth c H locs Z ls hc hn hks hr hi hlo hl
  refine lv_sipush hc.1 hc.2.1 hd1 hz ?_
  exact k1
theorem x_lconst {n : Fin 2} {z : Int} (hd : dok M.2.1 (pc, .lconst n, 1, nx, tg)) (hz : Int64.ofNat (n : Nat) = Int64.ofInt z) (k : RunX l G M R nx L (vl z :: st) S ca sl Q) : RunX l G M R pc L (st) S ca sl Q := by
  intro p e s m args below meth c H locs Z ls hc hn hks hr hi hlo hl
  obtain ⟨hd1, hd2, hd3⟩ := hd
  dsimp only at hd1 hd2 hd3
  subst hd2
  have k1 := k p e s m args below meth c H locs Z ls hc hn hks hr hi hlo hl
  refine lv_lconst hc.1 hc.2.1 hd1 hz ?_
  exact k1
theorem x_ldc {z : Int} {v : Int32} {idx : Nat} (hd : dok M.2.1 (pc, .ldc idx, 2, nx, tg)) (hw : Jvm.Cond.constant M.1.cls idx v ∈ tbG) (hz : v = Int32.ofInt z) (k : RunX l G M R nx L (vi z :: st) S ca sl Q) : RunX l G M R pc L (st) S ca sl Q := by
  intro p e s m args below meth c H locs Z ls hc hn hks hr hi hlo hl
  obtain ⟨hd1, hd2, hd3⟩ := hd
  dsimp only at hd1 hd2 hd3
  subst hd2
  have k1 := k p e s m args below meth c H locs Z ls hc hn hks hr hi hlo hl
  refine lv_ldc hc.1 hc.2.1 hc.2.2.2.1 (hc.2.2.2.2 _ hw) hd1 ?_
  rw [hz]
  exact k1
theorem x_ldc2 {z : Int} {v : Int64} {idx : Nat} (hd : dok M.2.1 (pc, .ldc2_w idx, 3, nx, tg)) (hw : Jvm.Cond.constantLong M.1.cls idx v ∈ tbG) (hz : v = Int64.ofInt z) (k : RunX l G M R nx L (vl z :: st) S ca sl Q) : RunX l G M R pc L (st) S ca sl Q := by
  intro p e s m args below meth c H locs Z ls hc hn hks hr hi hlo hl
  obtain ⟨hd1, hd2, hd3⟩ := hd
  dsimp only at hd1 hd2 hd3
  subst hd2
  have k1 := k p e s m args below meth c H locs Z ls hc hn hks hr hi hlo hl
  refine lv_ldc2 hc.1 hc.2.1 hc.2.2.2.1 (hc.2.2.2.2 _ hw) hd1 ?_
  rw [hz]
  exact k1
theorem x_iload_n {i : Fin 4} {z : Int} (hd : dok M.2.1 (pc, .iload_n i, 1, nx, tg)) (hv : nthq L (i : Nat) = some (some (vi z))) (k : RunX l G M R nx L (vi z :: st) S ca sl Q) : RunX l G M R pc L (st) S ca sl Q := by
  intro p e s m args below meth c H locs Z ls hc hn hks hr hi hlo hl
  obtain ⟨hd1, hd2, hd3⟩ := hd
  dsimp only at hd1 hd2 hd3
  subst hd2
  have k1 := k p e s m args below meth c H locs Z ls hc hn hks hr hi hlo hl
  refine lv_iload_n hc.1 hc.2.1 hd1 rfl (hl.at hv) ?_
  exact k1
theorem x_iload {i : Nat} {z : Int} (hd : dok M.2.1 (pc, .iload i, 2, nx, tg)) (hv : nthq L i = some (some (vi z))) (k : RunX l G M R nx L (vi z :: st) S ca sl Q) : RunX l G M R pc L (st) S ca sl Q := by
  intro p e s m args below meth c H locs Z ls hc hn hks hr hi hlo hl
  obtain ⟨hd1, hd2, hd3⟩ := hd
  dsimp only at hd1 hd2 hd3
  subst hd2
  have k1 := k p e s m args below meth c H locs Z ls hc hn hks hr hi hlo hl
  refine lv_iload hc.1 hc.2.1 hd1 (hl.at hv) ?_
  exact k1
theorem x_lload_n {i : Fin 4} {z : Int} (hd : dok M.2.1 (pc, .lload_n i, 1, nx, tg)) (hv : nthq L (i : Nat) = some (some (vl z))) (k : RunX l G M R nx L (vl z :: st) S ca sl Q) : RunX l G M R pc L (st) S ca sl Q := by
  intro p e s m args below meth c H locs Z ls hc hn hks hr hi hlo hl
  obtain ⟨hd1, hd2, hd3⟩ := hd
  dsimp only at hd1 hd2 hd3
  subst hd2
  have k1 := k p e s m args below meth c H locs Z ls hc hn hks hr hi hlo hl
  refine lv_lload_n hc.1 hc.2.1 hd1 rfl (hl.at hv) ?_
  exact k1
theorem x_lload {i : Nat} {z : Int} (hd : dok M.2.1 (pc, .lload i, 2, nx, tg)) (hv : nthq L i = some (some (vl z))) (k : RunX l G M R nx L (vl z :: st) S ca sl Q) : RunX l G M R pc L (st) S ca sl Q := by
  intro p e s m args below meth c H locs Z ls hc hn hks hr hi hlo hl
  obtain ⟨hd1, hd2, hd3⟩ := hd
  dsimp only at hd1 hd2 hd3
  subst hd2
  have k1 := k p e s m args below meth c H locs Z ls hc hn hks hr hi hlo hl
  refine lv_lload hc.1 hc.2.1 hd1 (hl.at hv) ?_
  exact k1
theorem x_aload_n {i : Fin 4} {z : Nat} (hd : dok M.2.1 (pc, .aload_n i, 1, nx, tg)) (hv : nthq L (i : Nat) = some (some (vr z))) (k : RunX l G M R nx L (vr z :: st) S ca sl Q) : RunX l G M R pc L (st) S ca sl Q := by
  intro p e s m args below meth c H locs Z ls hc hn hks hr hi hlo hl
  obtain ⟨hd1, hd2, hd3⟩ := hd
  dsimp only at hd1 hd2 hd3
  subst hd2
  have k1 := k p e s m args below meth c H locs Z ls hc hn hks hr hi hlo hl
  refine lv_aload_n hc.1 hc.2.1 hd1 rfl (hl.at hv) ?_
  exact k1
theorem x_aload {i : Nat} {z : Nat} (hd : dok M.2.1 (pc, .aload i, 2, nx, tg)) (hv : nthq L i = some (some (vr z))) (k : RunX l G M R nx L (vr z :: st) S ca sl Q) : RunX l G M R pc L (st) S ca sl Q := by
  intro p e s m args below meth c H locs Z ls hc hn hks hr hi hlo hl
  obtain ⟨hd1, hd2, hd3⟩ := hd
  dsimp only at hd1 hd2 hd3
  subst hd2
  have k1 := k p e s m args below meth c H locs Z ls hc hn hks hr hi hlo hl
  refine lv_aload hc.1 hc.2.1 hd1 (hl.at hv) ?_
  exact k1
theorem x_istore_n {i : Fin 4} {z : Int} (hd : dok M.2.1 (pc, .istore_n i, 1, nx, tg)) (hi9 : Nat.blt ((i : Nat)) M.2.2.1 = true) (k : RunX l G M R nx (sL (i : Nat) L (vi z)) st S ca sl Q) : RunX l G M R pc L (vi z :: st) S ca sl Q := by
  intro p e s m args below meth c H locs Z ls hc hn hks hr hi hlo hl
  obtain ⟨hd1, hd2, hd3⟩ := hd
  dsimp only at hd1 hd2 hd3
  subst hd2
  exact lv_istore_n hc.1 hc.2.1 hd1 rfl hl (by simpa using hi9) rfl (fun ls1 hl1 => k p e s m args below meth c H locs Z ls1 hc hn hks hr hi hlo (lh.set (v := vi z) rfl hl1))
theorem x_istore {i : Nat} {z : Int} (hd : dok M.2.1 (pc, .istore i, 2, nx, tg)) (hi9 : Nat.blt ((i : Nat)) M.2.2.1 = true) (k : RunX l G M R nx (sL (i : Nat) L (vi z)) st S ca sl Q) : RunX l G M R pc L (vi z :: st) S ca sl Q := by
  intro p e s m args below meth c H locs Z ls hc hn hks hr hi hlo hl
  obtain ⟨hd1, hd2, hd3⟩ := hd
  dsimp only at hd1 hd2 hd3
  subst hd2
  exact lv_istore hc.1 hc.2.1 hd1 hl (by simpa using hi9) rfl (fun ls1 hl1 => k p e s m args below meth c H locs Z ls1 hc hn hks hr hi hlo (lh.set (v := vi z) rfl hl1))
theorem x_lstore_n {i : Fin 4} {z : Int} (hd : dok M.2.1 (pc, .lstore_n i, 1, nx, tg)) (hi9 : Nat.blt ((i : Nat) + 1) M.2.2.1 = true) (k : RunX l G M R nx (sLL (i : Nat) L (vl z)) st S ca sl Q) : RunX l G M R pc L (vl z :: st) S ca sl Q := by
  intro p e s m args below meth c H locs Z ls hc hn hks hr hi hlo hl
  obtain ⟨hd1, hd2, hd3⟩ := hd
  dsimp only at hd1 hd2 hd3
  subst hd2
  exact lv_lstore_n hc.1 hc.2.1 hd1 rfl hl (by simpa using hi9) rfl (fun ls1 hl1 => k p e s m args below meth c H locs Z ls1 hc hn hks hr hi hlo (lh.setL (v := vl z) rfl hl1))
theorem x_lstore {i : Nat} {z : Int} (hd : dok M.2.1 (pc, .lstore i, 2, nx, tg)) (hi9 : Nat.blt ((i : Nat) + 1) M.2.2.1 = true) (k : RunX l G M R nx (sLL (i : Nat) L (vl z)) st S ca sl Q) : RunX l G M R pc L (vl z :: st) S ca sl Q := by
  intro p e s m args below meth c H locs Z ls hc hn hks hr hi hlo hl
  obtain ⟨hd1, hd2, hd3⟩ := hd
  dsimp only at hd1 hd2 hd3
  subst hd2
  exact lv_lstore hc.1 hc.2.1 hd1 hl (by simpa using hi9) rfl (fun ls1 hl1 => k p e s m args below meth c H locs Z ls1 hc hn hks hr hi hlo (lh.setL (v := vl z) rfl hl1))
theorem x_astore_n {i : Fin 4} {z : Nat} (hd : dok M.2.1 (pc, .astore_n i, 1, nx, tg)) (hi9 : Nat.blt ((i : Nat)) M.2.2.1 = true) (k : RunX l G M R nx (sL (i : Nat) L (vr z)) st S ca sl Q) : RunX l G M R pc L (vr z :: st) S ca sl Q := by
  intro p e s m args below meth c H locs Z ls hc hn hks hr hi hlo hl
  obtain ⟨hd1, hd2, hd3⟩ := hd
  dsimp only at hd1 hd2 hd3
  subst hd2
  exact lv_astore_n hc.1 hc.2.1 hd1 rfl hl (by simpa using hi9) rfl (fun ls1 hl1 => k p e s m args below meth c H locs Z ls1 hc hn hks hr hi hlo (lh.set (v := vr z) rfl hl1))
theorem x_astore {i : Nat} {z : Nat} (hd : dok M.2.1 (pc, .astore i, 2, nx, tg)) (hi9 : Nat.blt ((i : Nat)) M.2.2.1 = true) (k : RunX l G M R nx (sL (i : Nat) L (vr z)) st S ca sl Q) : RunX l G M R pc L (vr z :: st) S ca sl Q := by
  intro p e s m args below meth c H locs Z ls hc hn hks hr hi hlo hl
  obtain ⟨hd1, hd2, hd3⟩ := hd
  dsimp only at hd1 hd2 hd3
  subst hd2
  exact lv_astore hc.1 hc.2.1 hd1 hl (by simpa using hi9) rfl (fun ls1 hl1 => k p e s m args below meth c H locs Z ls1 hc hn hks hr hi hlo (lh.set (v := vr z) rfl hl1))
theorem x_iinc {i : Nat} {z w : Int} (hd : dok M.2.1 (pc, .iinc i w, 3, nx, tg)) (hv : nthq L i = some (some (vi z))) (hi9 : Nat.blt i M.2.2.1 = true) (k : RunX l G M R nx (sL i L (vi (z + w))) st S ca sl Q) : RunX l G M R pc L st S ca sl Q := by
  intro p e s m args below meth c H locs Z ls hc hn hks hr hi hlo hl
  obtain ⟨hd1, hd2, hd3⟩ := hd
  dsimp only at hd1 hd2 hd3
  subst hd2
  obtain ⟨q, hq⟩ := List.mem_iff_getElem?.mp (prL_in (G := G) (n := 0) hv)
  rw [Nat.zero_add] at hq
  exact lv_iinc hc.1 hc.2.1 hd1 hl hq (v := Int32.ofInt (z + w)) (by rw [Int32.ofInt_add]) (by simpa using hi9) rfl (fun ls1 hl1 => k p e s m args below meth c H locs Z ls1 hc hn hks hr hi hlo (lh.set (v := vi (z + w)) rfl hl1))
theorem x_iadd {x y : Int} (hd : dok M.2.1 (pc, .iadd, 1, nx, tg)) (k : RunX l G M R nx L (vi (x + y) :: st) S ca sl Q) : RunX l G M R pc L (vi y :: vi x :: st) S ca sl Q := by
  intro p e s m args below meth c H locs Z ls hc hn hks hr hi hlo hl
  obtain ⟨hd1, hd2, hd3⟩ := hd
  dsimp only at hd1 hd2 hd3
  subst hd2
  have k1 := k p e s m args below meth c H locs Z ls hc hn hks hr hi hlo hl
  refine lv_iadd hc.1 hc.2.1 hd1 ?_
  rw [← Int32.ofInt_add]
  exact k1
theorem x_isub {x y : Int} (hd : dok M.2.1 (pc, .isub, 1, nx, tg)) (k : RunX l G M R nx L (vi (x - y) :: st) S ca sl Q) : RunX l G M R pc L (vi y :: vi x :: st) S ca sl Q := by
  intro p e s m args below meth c H locs Z ls hc hn hks hr hi hlo hl
  obtain ⟨hd1, hd2, hd3⟩ := hd
  dsimp only at hd1 hd2 hd3
  subst hd2
  have k1 := k p e s m args below meth c H locs Z ls hc hn hks hr hi hlo hl
  refine lv_isub hc.1 hc.2.1 hd1 ?_
  rw [← Int32.ofInt_sub]
  exact k1
theorem x_imul {x y : Int} (hd : dok M.2.1 (pc, .imul, 1, nx, tg)) (k : RunX l G M R nx L (vi (x * y) :: st) S ca sl Q) : RunX l G M R pc L (vi y :: vi x :: st) S ca sl Q := by
  intro p e s m args below meth c H locs Z ls hc hn hks hr hi hlo hl
  obtain ⟨hd1, hd2, hd3⟩ := hd
  dsimp only at hd1 hd2 hd3
  subst hd2
  have k1 := k p e s m args below meth c H locs Z ls hc hn hks hr hi hlo hl
  refine lv_imul hc.1 hc.2.1 hd1 ?_
  rw [← Int32.ofInt_mul]
  exact k1
theorem x_ladd {x y : Int} (hd : dok M.2.1 (pc, .ladd, 1, nx, tg)) (k : RunX l G M R nx L (vl (x + y) :: st) S ca sl Q) : RunX l G M R pc L (vl y :: vl x :: st) S ca sl Q := by
  intro p e s m args below meth c H locs Z ls hc hn hks hr hi hlo hl
  obtain ⟨hd1, hd2, hd3⟩ := hd
  dsimp only at hd1 hd2 hd3
  subst hd2
  have k1 := k p e s m args below meth c H locs Z ls hc hn hks hr hi hlo hl
  refine lv_ladd hc.1 hc.2.1 hd1 ?_
  rw [← Int64.ofInt_add]
  exact k1
theorem x_lmul {x y : Int} (hd : dok M.2.1 (pc, .lmul, 1, nx, tg)) (k : RunX l G M R nx L (vl (x * y) :: st) S ca sl Q) : RunX l G M R pc L (vl y :: vl x :: st) S ca sl Q := by
  intro p e s m args below meth c H locs Z ls hc hn hks hr hi hlo hl
  obtain ⟨hd1, hd2, hd3⟩ := hd
  dsimp only at hd1 hd2 hd3
  subst hd2
  have k1 := k p e s m args below meth c H locs Z ls hc hn hks hr hi hlo hl
  refine lv_lmul hc.1 hc.2.1 hd1 ?_
  rw [← Int64.ofInt_mul]
  exact k1
theorem o32_ne0 {y : Int} (h : 0 < y ∧ y < 2147483648) : ¬ Int32.ofInt y = 0 := by
  rw [o32_0, o32_eq (by omega) (by decide)]
  omega
theorem o64_ne0 {y : Int} (h : 0 < y ∧ y < 9223372036854775808) : ¬ Int64.ofInt y = 0 := by
  rw [show (0 : Int64) = Int64.ofInt 0 from rfl, o64_eq (by omega) (by decide)]
  omega
theorem o32_rem {x y : Int} (hx : 0 ≤ x ∧ x < 2147483648) (hy : 0 < y ∧ y < 2147483648) : Int32.ofInt x - Int32.ofInt x / Int32.ofInt y * Int32.ofInt y = Int32.ofInt (x % y) := by
  rw [o32_div hx hy, ← Int32.ofInt_mul, ← Int32.ofInt_sub, Int.emod_def, Int.mul_comm]
theorem o64_rem {x y : Int} (hx : 0 ≤ x ∧ x < 9223372036854775808) (hy : 0 < y ∧ y < 9223372036854775808) : Int64.ofInt x - Int64.ofInt x / Int64.ofInt y * Int64.ofInt y = Int64.ofInt (x % y) := by
  rw [o64_div hx hy, ← Int64.ofInt_mul, ← Int64.ofInt_sub, Int.emod_def, Int.mul_comm]
theorem x_idiv {x y : Int} (hd : dok M.2.1 (pc, .idiv, 1, nx, tg)) (hx : 0 ≤ x ∧ x < 2147483648) (hy : 0 < y ∧ y < 2147483648) (k : RunX l G M R nx L (vi (x / y) :: st) S ca sl Q) : RunX l G M R pc L (vi y :: vi x :: st) S ca sl Q := by
  intro p e s m args below meth c H locs Z ls hc hn hks hr hi hlo hl
  obtain ⟨hd1, hd2, hd3⟩ := hd
  dsimp only at hd1 hd2 hd3
  subst hd2
  have k1 := k p e s m args below meth c H locs Z ls hc hn hks hr hi hlo hl
  refine lv_idiv hc.1 hc.2.1 hd1 (o32_ne0 hy) ?_
  rw [o32_div hx hy]
  exact k1
theorem x_irem {x y : Int} (hd : dok M.2.1 (pc, .irem, 1, nx, tg)) (hx : 0 ≤ x ∧ x < 2147483648) (hy : 0 < y ∧ y < 2147483648) (k : RunX l G M R nx L (vi (x % y) :: st) S ca sl Q) : RunX l G M R pc L (vi y :: vi x :: st) S ca sl Q := by
  intro p e s m args below meth c H locs Z ls hc hn hks hr hi hlo hl
  obtain ⟨hd1, hd2, hd3⟩ := hd
  dsimp only at hd1 hd2 hd3
  subst hd2
  have k1 := k p e s m args below meth c H locs Z ls hc hn hks hr hi hlo hl
  refine lv_irem hc.1 hc.2.1 hd1 (o32_ne0 hy) ?_
  rw [o32_rem hx hy]
  exact k1
theorem x_ldiv {x y : Int} (hd : dok M.2.1 (pc, .ldiv, 1, nx, tg)) (hx : 0 ≤ x ∧ x < 9223372036854775808) (hy : 0 < y ∧ y < 9223372036854775808) (k : RunX l G M R nx L (vl (x / y) :: st) S ca sl Q) : RunX l G M R pc L (vl y :: vl x :: st) S ca sl Q := by
  intro p e s m args below meth c H locs Z ls hc hn hks hr hi hlo hl
  obtain ⟨hd1, hd2, hd3⟩ := hd
  dsimp only at hd1 hd2 hd3
  subst hd2
  have k1 := k p e s m args below meth c H locs Z ls hc hn hks hr hi hlo hl
  refine lv_ldiv hc.1 hc.2.1 hd1 (o64_ne0 hy) ?_
  rw [o64_div hx hy]
  exact k1
theorem x_lrem {x y : Int} (hd : dok M.2.1 (pc, .lrem, 1, nx, tg)) (hx : 0 ≤ x ∧ x < 9223372036854775808) (hy : 0 < y ∧ y < 9223372036854775808) (k : RunX l G M R nx L (vl (x % y) :: st) S ca sl Q) : RunX l G M R pc L (vl y :: vl x :: st) S ca sl Q := by
  intro p e s m args below meth c H locs Z ls hc hn hks hr hi hlo hl
  obtain ⟨hd1, hd2, hd3⟩ := hd
  dsimp only at hd1 hd2 hd3
  subst hd2
  have k1 := k p e s m args below meth c H locs Z ls hc hn hks hr hi hlo hl
  refine lv_lrem hc.1 hc.2.1 hd1 (o64_ne0 hy) ?_
  rw [o64_rem hx hy]
  exact k1
theorem x_iand {x y : Int} (hd : dok M.2.1 (pc, .iand, 1, nx, tg)) (k : RunX l G M R nx L (vi (bAnd x y) :: st) S ca sl Q) : RunX l G M R pc L (vi y :: vi x :: st) S ca sl Q := by
  intro p e s m args below meth c H locs Z ls hc hn hks hr hi hlo hl
  obtain ⟨hd1, hd2, hd3⟩ := hd
  dsimp only at hd1 hd2 hd3
  subst hd2
  have k1 := k p e s m args below meth c H locs Z ls hc hn hks hr hi hlo hl
  refine lv_iand hc.1 hc.2.1 hd1 ?_
  change W _ _ _ _ _ _ _ _ _ _ _ _ _ _ _ (F0 _ _ _ (.int (Int32.ofInt (bAnd x y)) :: _)) at k1
  rw [bAnd, Int32.ofInt_toInt] at k1
  exact k1
theorem x_ior {x y : Int} (hd : dok M.2.1 (pc, .ior, 1, nx, tg)) (k : RunX l G M R nx L (vi (bOr x y) :: st) S ca sl Q) : RunX l G M R pc L (vi y :: vi x :: st) S ca sl Q := by
  intro p e s m args below meth c H locs Z ls hc hn hks hr hi hlo hl
  obtain ⟨hd1, hd2, hd3⟩ := hd
  dsimp only at hd1 hd2 hd3
  subst hd2
  have k1 := k p e s m args below meth c H locs Z ls hc hn hks hr hi hlo hl
  refine lv_ior hc.1 hc.2.1 hd1 ?_
  change W _ _ _ _ _ _ _ _ _ _ _ _ _ _ _ (F0 _ _ _ (.int (Int32.ofInt (bOr x y)) :: _)) at k1
  rw [bOr, Int32.ofInt_toInt] at k1
  exact k1
theorem x_ixor {x y : Int} (hd : dok M.2.1 (pc, .ixor, 1, nx, tg)) (k : RunX l G M R nx L (vi (bXor x y) :: st) S ca sl Q) : RunX l G M R pc L (vi y :: vi x :: st) S ca sl Q := by
  intro p e s m args below meth c H locs Z ls hc hn hks hr hi hlo hl
  obtain ⟨hd1, hd2, hd3⟩ := hd
  dsimp only at hd1 hd2 hd3
  subst hd2
  have k1 := k p e s m args below meth c H locs Z ls hc hn hks hr hi hlo hl
  refine lv_ixor hc.1 hc.2.1 hd1 ?_
  change W _ _ _ _ _ _ _ _ _ _ _ _ _ _ _ (F0 _ _ _ (.int (Int32.ofInt (bXor x y)) :: _)) at k1
  rw [bXor, Int32.ofInt_toInt] at k1
  exact k1
theorem x_ishl {x y : Int} (hd : dok M.2.1 (pc, .ishl, 1, nx, tg)) (k : RunX l G M R nx L (vi (bShl x y) :: st) S ca sl Q) : RunX l G M R pc L (vi y :: vi x :: st) S ca sl Q := by
  intro p e s m args below meth c H locs Z ls hc hn hks hr hi hlo hl
  obtain ⟨hd1, hd2, hd3⟩ := hd
  dsimp only at hd1 hd2 hd3
  subst hd2
  have k1 := k p e s m args below meth c H locs Z ls hc hn hks hr hi hlo hl
  refine lv_ishl hc.1 hc.2.1 hd1 ?_
  change W _ _ _ _ _ _ _ _ _ _ _ _ _ _ _ (F0 _ _ _ (.int (Int32.ofInt (bShl x y)) :: _)) at k1
  rw [bShl, Int32.ofInt_toInt] at k1
  exact k1
theorem x_ishr {x y : Int} (hd : dok M.2.1 (pc, .ishr, 1, nx, tg)) (k : RunX l G M R nx L (vi (bShr x y) :: st) S ca sl Q) : RunX l G M R pc L (vi y :: vi x :: st) S ca sl Q := by
  intro p e s m args below meth c H locs Z ls hc hn hks hr hi hlo hl
  obtain ⟨hd1, hd2, hd3⟩ := hd
  dsimp only at hd1 hd2 hd3
  subst hd2
  have k1 := k p e s m args below meth c H locs Z ls hc hn hks hr hi hlo hl
  refine lv_ishr hc.1 hc.2.1 hd1 ?_
  change W _ _ _ _ _ _ _ _ _ _ _ _ _ _ _ (F0 _ _ _ (.int (Int32.ofInt (bShr x y)) :: _)) at k1
  rw [bShr, Int32.ofInt_toInt] at k1
  exact k1
theorem x_land {x y : Int} (hd : dok M.2.1 (pc, .land, 1, nx, tg)) (k : RunX l G M R nx L (vl (lAnd x y) :: st) S ca sl Q) : RunX l G M R pc L (vl y :: vl x :: st) S ca sl Q := by
  intro p e s m args below meth c H locs Z ls hc hn hks hr hi hlo hl
  obtain ⟨hd1, hd2, hd3⟩ := hd
  dsimp only at hd1 hd2 hd3
  subst hd2
  have k1 := k p e s m args below meth c H locs Z ls hc hn hks hr hi hlo hl
  refine lv_land hc.1 hc.2.1 hd1 ?_
  change W _ _ _ _ _ _ _ _ _ _ _ _ _ _ _ (F0 _ _ _ (.long (Int64.ofInt (lAnd x y)) :: _)) at k1
  rw [lAnd, Int64.ofInt_toInt] at k1
  exact k1
theorem x_lor {x y : Int} (hd : dok M.2.1 (pc, .lor, 1, nx, tg)) (k : RunX l G M R nx L (vl (lOr x y) :: st) S ca sl Q) : RunX l G M R pc L (vl y :: vl x :: st) S ca sl Q := by
  intro p e s m args below meth c H locs Z ls hc hn hks hr hi hlo hl
  obtain ⟨hd1, hd2, hd3⟩ := hd
  dsimp only at hd1 hd2 hd3
  subst hd2
  have k1 := k p e s m args below meth c H locs Z ls hc hn hks hr hi hlo hl
  refine lv_lor hc.1 hc.2.1 hd1 ?_
  change W _ _ _ _ _ _ _ _ _ _ _ _ _ _ _ (F0 _ _ _ (.long (Int64.ofInt (lOr x y)) :: _)) at k1
  rw [lOr, Int64.ofInt_toInt] at k1
  exact k1
theorem x_iushr {x y : Int} (hd : dok M.2.1 (pc, .iushr, 1, nx, tg)) (k : RunX l G M R nx L (vi (bUsh x y) :: st) S ca sl Q) : RunX l G M R pc L (vi y :: vi x :: st) S ca sl Q := by
  intro p e s m args below meth c H locs Z ls hc hn hks hr hi hlo hl
  obtain ⟨hd1, hd2, hd3⟩ := hd
  dsimp only at hd1 hd2 hd3
  subst hd2
  have k1 := k p e s m args below meth c H locs Z ls hc hn hks hr hi hlo hl
  refine lv_iushr hc.1 hc.2.1 hd1 (v := Int32.ofInt (bUsh x y)) (by rw [bUsh, Int32.ofInt_toInt]) ?_
  exact k1
theorem x_lshl {x y : Int} (hd : dok M.2.1 (pc, .lshl, 1, nx, tg)) (k : RunX l G M R nx L (vl (lShl x y) :: st) S ca sl Q) : RunX l G M R pc L (vi y :: vl x :: st) S ca sl Q := by
  intro p e s m args below meth c H locs Z ls hc hn hks hr hi hlo hl
  obtain ⟨hd1, hd2, hd3⟩ := hd
  dsimp only at hd1 hd2 hd3
  subst hd2
  have k1 := k p e s m args below meth c H locs Z ls hc hn hks hr hi hlo hl
  refine lv_lshl hc.1 hc.2.1 hd1 (v := Int64.ofInt (lShl x y)) (by rw [lShl, Int64.ofInt_toInt]) ?_
  exact k1
theorem x_lshr {x y : Int} (hd : dok M.2.1 (pc, .lshr, 1, nx, tg)) (k : RunX l G M R nx L (vl (lShr x y) :: st) S ca sl Q) : RunX l G M R pc L (vi y :: vl x :: st) S ca sl Q := by
  intro p e s m args below meth c H locs Z ls hc hn hks hr hi hlo hl
  obtain ⟨hd1, hd2, hd3⟩ := hd
  dsimp only at hd1 hd2 hd3
  subst hd2
  have k1 := k p e s m args below meth c H locs Z ls hc hn hks hr hi hlo hl
  refine lv_lshr hc.1 hc.2.1 hd1 (v := Int64.ofInt (lShr x y)) (by rw [lShr, Int64.ofInt_toInt]) ?_
  exact k1
theorem x_lushr {x y : Int} (hd : dok M.2.1 (pc, .lushr, 1, nx, tg)) (k : RunX l G M R nx L (vl (lUsh x y) :: st) S ca sl Q) : RunX l G M R pc L (vi y :: vl x :: st) S ca sl Q := by
  intro p e s m args below meth c H locs Z ls hc hn hks hr hi hlo hl
  obtain ⟨hd1, hd2, hd3⟩ := hd
  dsimp only at hd1 hd2 hd3
  subst hd2
  have k1 := k p e s m args below meth c H locs Z ls hc hn hks hr hi hlo hl
  refine lv_lushr hc.1 hc.2.1 hd1 (v := Int64.ofInt (lUsh x y)) (by rw [lUsh, Int64.ofInt_toInt]) ?_
  exact k1
theorem o_i2l {x : Int} (hx : rgi x) : (Int32.ofInt x).toInt64 = Int64.ofInt x := by
  rw [← Int64.toInt_inj, Int32.toInt_toInt64, o32 hx, o64 (by omega)]
theorem o_l2i (x : Int) : (Int64.ofInt x).toInt32 = Int32.ofInt (l2iq x) := by rw [l2iq, Int32.ofInt_toInt]
theorem o_cmp {x y : Int} (hx : rgl x) (hy : rgl y) : lg_cmp (Int64.ofInt x) (Int64.ofInt y) = Int32.ofInt (lCmp x y) := by
  unfold lg_cmp lCmp
  have h1 : Int64.ofInt x > Int64.ofInt y ↔ y < x := o64_lt hy hx
  by_cases a : y < x
  · rw [if_pos a, if_pos (h1.mpr a)]; rfl
  · rw [if_neg a, if_neg (fun q => a (h1.mp q))]
    by_cases b : x = y
    · rw [if_pos b, if_pos (by rw [b])]; rfl
    · rw [if_neg b, if_neg (fun q => b ((o64_eq hx hy).mp q))]; rfl
theorem x_i2l {x : Int} (hd : dok M.2.1 (pc, .i2l, 1, nx, tg)) (hx : rgi x) (k : RunX l G M R nx L (vl x :: st) S ca sl Q) : RunX l G M R pc L (vi x :: st) S ca sl Q := by
  intro p e s m args below meth c H locs Z ls hc hn hks hr hi hlo hl
  obtain ⟨hd1, hd2, hd3⟩ := hd
  dsimp only at hd1 hd2 hd3
  subst hd2
  have k1 := k p e s m args below meth c H locs Z ls hc hn hks hr hi hlo hl
  refine lv_i2l hc.1 hc.2.1 hd1 (o_i2l hx) ?_
  exact k1
theorem x_l2i {x : Int} (hd : dok M.2.1 (pc, .l2i, 1, nx, tg)) (k : RunX l G M R nx L (vi (l2iq x) :: st) S ca sl Q) : RunX l G M R pc L (vl x :: st) S ca sl Q := by
  intro p e s m args below meth c H locs Z ls hc hn hks hr hi hlo hl
  obtain ⟨hd1, hd2, hd3⟩ := hd
  dsimp only at hd1 hd2 hd3
  subst hd2
  have k1 := k p e s m args below meth c H locs Z ls hc hn hks hr hi hlo hl
  refine lv_l2i hc.1 hc.2.1 hd1 (o_l2i x) ?_
  exact k1
theorem x_lcmp {x y : Int} (hd : dok M.2.1 (pc, .lcmp, 1, nx, tg)) (hx : rgl x) (hy : rgl y) (k : RunX l G M R nx L (vi (lCmp x y) :: st) S ca sl Q) : RunX l G M R pc L (vl y :: vl x :: st) S ca sl Q := by
  intro p e s m args below meth c H locs Z ls hc hn hks hr hi hlo hl
  obtain ⟨hd1, hd2, hd3⟩ := hd
  dsimp only at hd1 hd2 hd3
  subst hd2
  have k1 := k p e s m args below meth c H locs Z ls hc hn hks hr hi hlo hl
  refine W.lcmp hc.1 hc.2.1 hd1 ?_
  rw [o_cmp hx hy]
  exact k1
theorem cvl_i {G : GC} {z : Int} : (cvl G (vi z)).category = 1 := rfl
theorem cvl_r {G : GC} {k : Nat} : (cvl G (vr k)).category = 1 := rfl
theorem x_dupi {x : Int} (hd : dok M.2.1 (pc, .dup, 1, nx, tg)) (k : RunX l G M R nx L (vi x :: vi x :: st) S ca sl Q) : RunX l G M R pc L (vi x :: st) S ca sl Q := by
  intro p e s m args below meth c H locs Z ls hc hn hks hr hi hlo hl
  obtain ⟨hd1, hd2, hd3⟩ := hd
  dsimp only at hd1 hd2 hd3
  subst hd2
  have k1 := k p e s m args below meth c H locs Z ls hc hn hks hr hi hlo hl
  refine lv_dup hc.1 hc.2.1 hd1 cvl_i ?_
  exact k1
theorem x_dupr {x : Nat} (hd : dok M.2.1 (pc, .dup, 1, nx, tg)) (k : RunX l G M R nx L (vr x :: vr x :: st) S ca sl Q) : RunX l G M R pc L (vr x :: st) S ca sl Q := by
  intro p e s m args below meth c H locs Z ls hc hn hks hr hi hlo hl
  obtain ⟨hd1, hd2, hd3⟩ := hd
  dsimp only at hd1 hd2 hd3
  subst hd2
  have k1 := k p e s m args below meth c H locs Z ls hc hn hks hr hi hlo hl
  refine lv_dup hc.1 hc.2.1 hd1 cvl_r ?_
  exact k1
theorem x_dup2 {x : Int} {y : Nat} (hd : dok M.2.1 (pc, .dup2, 1, nx, tg)) (k : RunX l G M R nx L (vi x :: vr y :: vi x :: vr y :: st) S ca sl Q) : RunX l G M R pc L (vi x :: vr y :: st) S ca sl Q := by
  intro p e s m args below meth c H locs Z ls hc hn hks hr hi hlo hl
  obtain ⟨hd1, hd2, hd3⟩ := hd
  dsimp only at hd1 hd2 hd3
  subst hd2
  have k1 := k p e s m args below meth c H locs Z ls hc hn hks hr hi hlo hl
  refine lv_dup2_11 hc.1 hc.2.1 hd1 cvl_i cvl_r ?_
  exact k1
theorem x_pop {x : Int} (hd : dok M.2.1 (pc, .pop, 1, nx, tg)) (k : RunX l G M R nx L (st) S ca sl Q) : RunX l G M R pc L (vi x :: st) S ca sl Q := by
  intro p e s m args below meth c H locs Z ls hc hn hks hr hi hlo hl
  obtain ⟨hd1, hd2, hd3⟩ := hd
  dsimp only at hd1 hd2 hd3
  subst hd2
  have k1 := k p e s m args below meth c H locs Z ls hc hn hks hr hi hlo hl
  refine lv_pop hc.1 hc.2.1 hd1 cvl_i ?_
  exact k1
theorem x_goto {off : Int} (hd : dok M.2.1 (pc, .goto off, 3, nx, tg)) (k : RunX l G M R tg L st S ca sl Q) : RunX l G M R pc L st S ca sl Q := by
  intro p e s m args below meth c H locs Z ls hc hn hks hr hi hlo hl
  exact lv_goto hc.1 hc.2.1 hd.1 (hd.2.2 off rfl) (k p e s m args below meth c H locs Z ls hc hn hks hr hi hlo hl)
theorem x_icmp_eq {x y off : Int} (hd : dok M.2.1 (pc, .if_icmp .eq off, 3, nx, tg)) (hx : rgi x) (hy : rgi y) (kt : x = y → RunX l G M R tg L st S ca sl Q) (kf : ¬ (x = y) → RunX l G M R nx L st S ca sl Q) : RunX l G M R pc L (vi y :: vi x :: st) S ca sl Q := by
  intro p e s m args below meth c H locs Z ls hc hn hks hr hi hlo hl
  obtain ⟨hd1, hd2, hd3⟩ := hd
  dsimp only at hd1 hd2 hd3
  subst hd2
  have iff := o32_eq hx hy
  exact lv_icmp_eq hc.1 hc.2.1 hd1 (hd3 off rfl) (fun q => kt (iff.mp q) p e s m args below meth c H locs Z ls hc hn hks hr hi hlo hl) (fun q => kf (fun q2 => q (iff.mpr q2)) p e s m args below meth c H locs Z ls hc hn hks hr hi hlo hl)
theorem x_if_eq {x off : Int} (hd : dok M.2.1 (pc, .ifCond .eq off, 3, nx, tg)) (hx : rgi x) (kt : x = 0 → RunX l G M R tg L st S ca sl Q) (kf : ¬ (x = 0) → RunX l G M R nx L st S ca sl Q) : RunX l G M R pc L (vi x :: st) S ca sl Q := by
  intro p e s m args below meth c H locs Z ls hc hn hks hr hi hlo hl
  obtain ⟨hd1, hd2, hd3⟩ := hd
  dsimp only at hd1 hd2 hd3
  subst hd2
  have hy : rgi 0 := by decide
  have iff := o32_eq hx hy
  exact lv_if_eq hc.1 hc.2.1 hd1 (hd3 off rfl) (fun q => kt (iff.mp q) p e s m args below meth c H locs Z ls hc hn hks hr hi hlo hl) (fun q => kf (fun q2 => q (iff.mpr q2)) p e s m args below meth c H locs Z ls hc hn hks hr hi hlo hl)
theorem x_icmp_ne {x y off : Int} (hd : dok M.2.1 (pc, .if_icmp .ne off, 3, nx, tg)) (hx : rgi x) (hy : rgi y) (kt : x ≠ y → RunX l G M R tg L st S ca sl Q) (kf : x = y → RunX l G M R nx L st S ca sl Q) : RunX l G M R pc L (vi y :: vi x :: st) S ca sl Q := by
  intro p e s m args below meth c H locs Z ls hc hn hks hr hi hlo hl
  obtain ⟨hd1, hd2, hd3⟩ := hd
  dsimp only at hd1 hd2 hd3
  subst hd2
  have iff := not_congr (o32_eq hx hy)
  exact lv_icmp_ne hc.1 hc.2.1 hd1 (hd3 off rfl) (fun q => kt (iff.mp q) p e s m args below meth c H locs Z ls hc hn hks hr hi hlo hl) (fun q => kf ((o32_eq hx hy).mp q) p e s m args below meth c H locs Z ls hc hn hks hr hi hlo hl)
theorem x_if_ne {x off : Int} (hd : dok M.2.1 (pc, .ifCond .ne off, 3, nx, tg)) (hx : rgi x) (kt : x ≠ 0 → RunX l G M R tg L st S ca sl Q) (kf : x = 0 → RunX l G M R nx L st S ca sl Q) : RunX l G M R pc L (vi x :: st) S ca sl Q := by
  intro p e s m args below meth c H locs Z ls hc hn hks hr hi hlo hl
  obtain ⟨hd1, hd2, hd3⟩ := hd
  dsimp only at hd1 hd2 hd3
  subst hd2
  have hy : rgi 0 := by decide
  have iff := not_congr (o32_eq hx hy)
  exact lv_if_ne hc.1 hc.2.1 hd1 (hd3 off rfl) (fun q => kt (iff.mp q) p e s m args below meth c H locs Z ls hc hn hks hr hi hlo hl) (fun q => kf ((o32_eq hx hy).mp q) p e s m args below meth c H locs Z ls hc hn hks hr hi hlo hl)
theorem x_icmp_lt {x y off : Int} (hd : dok M.2.1 (pc, .if_icmp .lt off, 3, nx, tg)) (hx : rgi x) (hy : rgi y) (kt : x < y → RunX l G M R tg L st S ca sl Q) (kf : ¬ (x < y) → RunX l G M R nx L st S ca sl Q) : RunX l G M R pc L (vi y :: vi x :: st) S ca sl Q := by
  intro p e s m args below meth c H locs Z ls hc hn hks hr hi hlo hl
  obtain ⟨hd1, hd2, hd3⟩ := hd
  dsimp only at hd1 hd2 hd3
  subst hd2
  have iff := o32_lt hx hy
  exact lv_icmp_lt hc.1 hc.2.1 hd1 (hd3 off rfl) (fun q => kt (iff.mp q) p e s m args below meth c H locs Z ls hc hn hks hr hi hlo hl) (fun q => kf (fun q2 => q (iff.mpr q2)) p e s m args below meth c H locs Z ls hc hn hks hr hi hlo hl)
theorem x_if_lt {x off : Int} (hd : dok M.2.1 (pc, .ifCond .lt off, 3, nx, tg)) (hx : rgi x) (kt : x < 0 → RunX l G M R tg L st S ca sl Q) (kf : ¬ (x < 0) → RunX l G M R nx L st S ca sl Q) : RunX l G M R pc L (vi x :: st) S ca sl Q := by
  intro p e s m args below meth c H locs Z ls hc hn hks hr hi hlo hl
  obtain ⟨hd1, hd2, hd3⟩ := hd
  dsimp only at hd1 hd2 hd3
  subst hd2
  have hy : rgi 0 := by decide
  have iff := o32_lt hx hy
  exact lv_if_lt hc.1 hc.2.1 hd1 (hd3 off rfl) (fun q => kt (iff.mp q) p e s m args below meth c H locs Z ls hc hn hks hr hi hlo hl) (fun q => kf (fun q2 => q (iff.mpr q2)) p e s m args below meth c H locs Z ls hc hn hks hr hi hlo hl)
theorem x_icmp_ge {x y off : Int} (hd : dok M.2.1 (pc, .if_icmp .ge off, 3, nx, tg)) (hx : rgi x) (hy : rgi y) (kt : y ≤ x → RunX l G M R tg L st S ca sl Q) (kf : ¬ (y ≤ x) → RunX l G M R nx L st S ca sl Q) : RunX l G M R pc L (vi y :: vi x :: st) S ca sl Q := by
  intro p e s m args below meth c H locs Z ls hc hn hks hr hi hlo hl
  obtain ⟨hd1, hd2, hd3⟩ := hd
  dsimp only at hd1 hd2 hd3
  subst hd2
  have iff := o32_le hy hx
  exact lv_icmp_ge hc.1 hc.2.1 hd1 (hd3 off rfl) (fun q => kt (iff.mp q) p e s m args below meth c H locs Z ls hc hn hks hr hi hlo hl) (fun q => kf (fun q2 => q (iff.mpr q2)) p e s m args below meth c H locs Z ls hc hn hks hr hi hlo hl)
theorem x_if_ge {x off : Int} (hd : dok M.2.1 (pc, .ifCond .ge off, 3, nx, tg)) (hx : rgi x) (kt : 0 ≤ x → RunX l G M R tg L st S ca sl Q) (kf : ¬ (0 ≤ x) → RunX l G M R nx L st S ca sl Q) : RunX l G M R pc L (vi x :: st) S ca sl Q := by
  intro p e s m args below meth c H locs Z ls hc hn hks hr hi hlo hl
  obtain ⟨hd1, hd2, hd3⟩ := hd
  dsimp only at hd1 hd2 hd3
  subst hd2
  have hy : rgi 0 := by decide
  have iff := o32_le hy hx
  exact lv_if_ge hc.1 hc.2.1 hd1 (hd3 off rfl) (fun q => kt (iff.mp q) p e s m args below meth c H locs Z ls hc hn hks hr hi hlo hl) (fun q => kf (fun q2 => q (iff.mpr q2)) p e s m args below meth c H locs Z ls hc hn hks hr hi hlo hl)
theorem x_icmp_gt {x y off : Int} (hd : dok M.2.1 (pc, .if_icmp .gt off, 3, nx, tg)) (hx : rgi x) (hy : rgi y) (kt : y < x → RunX l G M R tg L st S ca sl Q) (kf : ¬ (y < x) → RunX l G M R nx L st S ca sl Q) : RunX l G M R pc L (vi y :: vi x :: st) S ca sl Q := by
  intro p e s m args below meth c H locs Z ls hc hn hks hr hi hlo hl
  obtain ⟨hd1, hd2, hd3⟩ := hd
  dsimp only at hd1 hd2 hd3
  subst hd2
  have iff := o32_lt hy hx
  exact lv_icmp_gt hc.1 hc.2.1 hd1 (hd3 off rfl) (fun q => kt (iff.mp q) p e s m args below meth c H locs Z ls hc hn hks hr hi hlo hl) (fun q => kf (fun q2 => q (iff.mpr q2)) p e s m args below meth c H locs Z ls hc hn hks hr hi hlo hl)
theorem x_if_gt {x off : Int} (hd : dok M.2.1 (pc, .ifCond .gt off, 3, nx, tg)) (hx : rgi x) (kt : 0 < x → RunX l G M R tg L st S ca sl Q) (kf : ¬ (0 < x) → RunX l G M R nx L st S ca sl Q) : RunX l G M R pc L (vi x :: st) S ca sl Q := by
  intro p e s m args below meth c H locs Z ls hc hn hks hr hi hlo hl
  obtain ⟨hd1, hd2, hd3⟩ := hd
  dsimp only at hd1 hd2 hd3
  subst hd2
  have hy : rgi 0 := by decide
  have iff := o32_lt hy hx
  exact lv_if_gt hc.1 hc.2.1 hd1 (hd3 off rfl) (fun q => kt (iff.mp q) p e s m args below meth c H locs Z ls hc hn hks hr hi hlo hl) (fun q => kf (fun q2 => q (iff.mpr q2)) p e s m args below meth c H locs Z ls hc hn hks hr hi hlo hl)
theorem x_icmp_le {x y off : Int} (hd : dok M.2.1 (pc, .if_icmp .le off, 3, nx, tg)) (hx : rgi x) (hy : rgi y) (kt : x ≤ y → RunX l G M R tg L st S ca sl Q) (kf : ¬ (x ≤ y) → RunX l G M R nx L st S ca sl Q) : RunX l G M R pc L (vi y :: vi x :: st) S ca sl Q := by
  intro p e s m args below meth c H locs Z ls hc hn hks hr hi hlo hl
  obtain ⟨hd1, hd2, hd3⟩ := hd
  dsimp only at hd1 hd2 hd3
  subst hd2
  have iff := o32_le hx hy
  exact lv_icmp_le hc.1 hc.2.1 hd1 (hd3 off rfl) (fun q => kt (iff.mp q) p e s m args below meth c H locs Z ls hc hn hks hr hi hlo hl) (fun q => kf (fun q2 => q (iff.mpr q2)) p e s m args below meth c H locs Z ls hc hn hks hr hi hlo hl)
theorem x_if_le {x off : Int} (hd : dok M.2.1 (pc, .ifCond .le off, 3, nx, tg)) (hx : rgi x) (kt : x ≤ 0 → RunX l G M R tg L st S ca sl Q) (kf : ¬ (x ≤ 0) → RunX l G M R nx L st S ca sl Q) : RunX l G M R pc L (vi x :: st) S ca sl Q := by
  intro p e s m args below meth c H locs Z ls hc hn hks hr hi hlo hl
  obtain ⟨hd1, hd2, hd3⟩ := hd
  dsimp only at hd1 hd2 hd3
  subst hd2
  have hy : rgi 0 := by decide
  have iff := o32_le hx hy
  exact lv_if_le hc.1 hc.2.1 hd1 (hd3 off rfl) (fun q => kt (iff.mp q) p e s m args below meth c H locs Z ls hc hn hks hr hi hlo hl) (fun q => kf (fun q2 => q (iff.mpr q2)) p e s m args below meth c H locs Z ls hc hn hks hr hi hlo hl)
/-- the table of a switch: the offset for x -/
def swq (dflt lo hi : Int) (offs : Array Int) (x : Int) : Int := if x < lo ∨ hi < x then dflt else (offs[(x - lo).toNat]?).getD dflt
theorem x_tsw {dflt lo hi x : Int} {offs : Array Int} {len : Nat} (hd : dok M.2.1 (pc, .tableswitch dflt lo hi offs, len, nx, tg)) (hx : rgi x) (hsz : hi - lo < offs.size) {t : Nat} (ht : (pc : Int) + swq dflt lo hi offs x = (t : Int)) (k : RunX l G M R t L st S ca sl Q) : RunX l G M R pc L (vi x :: st) S ca sl Q := by
  intro p e s m args below meth c H locs Z ls hc hn hks hr hi9 hlo hl
  have k1 := k p e s m args below meth c H locs Z ls hc hn hks hr hi9 hlo hl
  unfold swq at ht
  by_cases h : x < lo ∨ hi < x
  · rw [if_pos h] at ht
    exact lv_tableOut hc.1 hc.2.1 hd.1 (by rw [o32 hx]; exact h) ht k1
  · rw [if_neg h] at ht
    have hlt : (x - lo).toNat < offs.size := by omega
    have he : offs[(x - lo).toNat]? = some (offs[(x - lo).toNat]'hlt) := Array.getElem?_eq_getElem hlt
    rw [he] at ht
    exact lv_tableIn hc.1 hc.2.1 hd.1 (by rw [o32 hx]; omega) (by rw [o32 hx]; omega) (by rw [o32 hx]; exact he) ht k1
theorem x_iald {n0 n k : Nat} {ρ : Nat → Int → Option Nat} {σ : Nat → Int → Int} {i : Int} (hd : dok M.2.1 (pc, .iaload, 1, nx, tg)) (hs : shp k = (12, n)) (hk : k < n0) (hix : 0 ≤ i ∧ i < n) (kk : RunX l G M R nx L (vi (σ k i) :: st) (n0, ρ, σ) ca sl Q) : RunX l G M R pc L (vi i :: vr k :: st) (n0, ρ, σ) ca sl Q := by
  intro p e s m args below meth c H locs Z ls hc hn hks hr hi hlo hl
  obtain ⟨hd1, hd2, hd3⟩ := hd
  dsimp only at hd1 hd2 hd3
  subst hd2
  have k1 := kk p e s m args below meth c H locs Z ls hc hn hks hr hi hlo hl
  have hcl := hi.2.2 k hk
  have hle := shp_le k (Nat.lt_of_lt_of_le hk hi.1.2)
  unfold cellq at hcl
  rw [hs] at hcl hle
  obtain ⟨cA, h1, h2⟩ := hcl
  have hle : n ≤ 256 := hle
  have hnn := o32_in hix (by omega)
  have hcn := o32_ix (i := i) hix.1 (by omega)
  have hin : ((i.toNat : Nat) : Int) = i := Int.toNat_of_nonneg hix.1
  refine W.iald (v := Value.int (Int32.ofInt (σ k i))) hc.1 hc.2.1 h1 (h2 _ _) (fun q => by cases q) (by rw [arrV_size]; exact hnn) (by rw [hcn, arrV_read _ _ (by omega)]; show some _ = _; rw [hin]) rfl rfl hd1 k1
theorem x_zald {n0 n k : Nat} {ρ : Nat → Int → Option Nat} {σ : Nat → Int → Int} {i : Int} (hd : dok M.2.1 (pc, .baload, 1, nx, tg)) (hs : shp k = (13, n)) (hk : k < n0) (hix : 0 ≤ i ∧ i < n) (kk : RunX l G M R nx L (vi (σ k i) :: st) (n0, ρ, σ) ca sl Q) : RunX l G M R pc L (vi i :: vr k :: st) (n0, ρ, σ) ca sl Q := by
  intro p e s m args below meth c H locs Z ls hc hn hks hr hi hlo hl
  obtain ⟨hd1, hd2, hd3⟩ := hd
  dsimp only at hd1 hd2 hd3
  subst hd2
  have k1 := kk p e s m args below meth c H locs Z ls hc hn hks hr hi hlo hl
  have hcl := hi.2.2 k hk
  have hle := shp_le k (Nat.lt_of_lt_of_le hk hi.1.2)
  unfold cellq at hcl
  rw [hs] at hcl hle
  obtain ⟨cA, h1, h2⟩ := hcl
  have hle : n ≤ 256 := hle
  have hnn := o32_in hix (by omega)
  have hcn := o32_ix (i := i) hix.1 (by omega)
  have hin : ((i.toNat : Nat) : Int) = i := Int.toNat_of_nonneg hix.1
  refine W.zald (v := Value.int (Int32.ofInt (σ k i))) hc.1 hc.2.1 h1 (h2 _ _) (fun q => by cases q) (by rw [arrV_size]; exact hnn) (by rw [hcn, arrV_read _ _ (by omega)]; show some _ = _; rw [hin]) rfl rfl hd1 k1
theorem x_lald {n0 n k : Nat} {ρ : Nat → Int → Option Nat} {σ : Nat → Int → Int} {i : Int} (hd : dok M.2.1 (pc, .laload, 1, nx, tg)) (hs : shp k = (14, n)) (hk : k < n0) (hix : 0 ≤ i ∧ i < n) (kk : RunX l G M R nx L (vl (σ k i) :: st) (n0, ρ, σ) ca sl Q) : RunX l G M R pc L (vi i :: vr k :: st) (n0, ρ, σ) ca sl Q := by
  intro p e s m args below meth c H locs Z ls hc hn hks hr hi hlo hl
  obtain ⟨hd1, hd2, hd3⟩ := hd
  dsimp only at hd1 hd2 hd3
  subst hd2
  have k1 := kk p e s m args below meth c H locs Z ls hc hn hks hr hi hlo hl
  have hcl := hi.2.2 k hk
  have hle := shp_le k (Nat.lt_of_lt_of_le hk hi.1.2)
  unfold cellq at hcl
  rw [hs] at hcl hle
  obtain ⟨cA, h1, h2⟩ := hcl
  have hle : n ≤ 256 := hle
  have hnn := o32_in hix (by omega)
  have hcn := o32_ix (i := i) hix.1 (by omega)
  have hin : ((i.toNat : Nat) : Int) = i := Int.toNat_of_nonneg hix.1
  refine W.lald (v := Value.long (Int64.ofInt (σ k i))) hc.1 hc.2.1 h1 (h2 _ _) (fun q => by cases q) (by rw [arrV_size]; exact hnn) (by rw [hcn, arrV_read _ _ (by omega)]; show some _ = _; rw [hin]) rfl rfl hd1 k1
theorem x_aald {n0 n k r : Nat} {ρ : Nat → Int → Option Nat} {σ : Nat → Int → Int} {i : Int} (hd : dok M.2.1 (pc, .aaload, 1, nx, tg)) (hs : shp k = (15, n)) (hk : k < n0) (hix : 0 ≤ i ∧ i < n) (hρ : ρ k i = some r) (kk : RunX l G M R nx L (vr r :: st) (n0, ρ, σ) ca sl Q) : RunX l G M R pc L (vi i :: vr k :: st) (n0, ρ, σ) ca sl Q := by
  intro p e s m args below meth c H locs Z ls hc hn hks hr hi hlo hl
  obtain ⟨hd1, hd2, hd3⟩ := hd
  dsimp only at hd1 hd2 hd3
  subst hd2
  have k1 := kk p e s m args below meth c H locs Z ls hc hn hks hr hi hlo hl
  have hcl := hi.2.2 k hk
  have hle := shp_le k (Nat.lt_of_lt_of_le hk hi.1.2)
  unfold cellq at hcl
  rw [hs] at hcl hle
  obtain ⟨cA, h1, h2⟩ := hcl
  have hle : n ≤ 256 := hle
  have hnn := o32_in hix (by omega)
  have hcn := o32_ix (i := i) hix.1 (by omega)
  have hin : ((i.toNat : Nat) : Int) = i := Int.toNat_of_nonneg hix.1
  refine W.aald (v := crf G (some r)) hc.1 hc.2.1 h1 (h2 _ _) rfl (fun q => by cases q) (by rw [arrV_size]; exact hnn) (by rw [hcn, arrV_read _ _ (by omega)]; show some (crf G (ρ k _)) = _; rw [hin, hρ]) rfl rfl hd1 k1
theorem x_iast {n0 n k : Nat} {ρ : Nat → Int → Option Nat} {σ : Nat → Int → Int} {i v : Int} (hd : dok M.2.1 (pc, .iastore, 1, nx, tg)) (hs : shp k = (12, n)) (hk : k < n0) (hix : 0 ≤ i ∧ i < n) (kk : RunX l G M R nx L st (n0, ρ, upq σ k i v) ca sl Q) : RunX l G M R pc L (vi v :: vi i :: vr k :: st) (n0, ρ, σ) ca sl Q := by
  intro p e s m args below meth c H locs Z ls hc hn hks hr hi hlo hl
  obtain ⟨hd1, hd2, hd3⟩ := hd
  dsimp only at hd1 hd2 hd3
  subst hd2
  have hcl := hi.2.2 k hk
  have hle := shp_le k (Nat.lt_of_lt_of_le hk hi.1.2)
  unfold cellq at hcl
  rw [hs] at hcl hle
  obtain ⟨cA, h1, h2⟩ := hcl
  have hle : n ≤ 256 := hle
  have hnn := o32_in hix (by omega)
  have hcn := o32_ix (i := i) hix.1 (by omega)
  have hin : ((i.toNat : Nat) : Int) = i := Int.toNat_of_nonneg hix.1
  refine W.iast hc.1 hc.2.1 h1 (h2 _ _) (fun q => by cases q) (by rw [arrV_size]; exact hnn) rfl rfl hd1 (fun H1 e1 e2 e3 => ?_)
  have hI : Invq G (n0, ρ, upq σ k i v) s H1 := by
    refine hi.put hk e2 e3 ?_ (fun _ _ => rfl) (fun a ha => upq_ne ha)
    unfold cellq
    rw [hs]
    refine ⟨cA, ?_, h2⟩
    rw [e1, hcn, arrV_store]
    refine congrArg some (congrArg (arrV cA n) (funext fun j => ?_))
    show updV _ _ _ j = Value.int (Int32.ofInt (upq σ k i v k j))
    rw [upq_eq]
    by_cases q : j = i.toNat
    · subst q
      rw [if_pos hin]
      simp [updV]
    · rw [if_neg (by omega)]
      simp [updV, q]
  refine kk p e s m args below meth c H1 _ Z ls hc hn hks hr hI (fun q hq => ?_) hl
  rcases List.mem_append.mp hq with q1 | q1
  · exact hlo q q1
  · rw [List.mem_singleton] at q1
    subst q1
    show G.1 ≤ adr G k
    rw [adr_lt (Nat.lt_of_lt_of_le hk (Nat.le_trans hi.1.2 (by decide)))]
    omega
theorem x_zast {n0 n k : Nat} {ρ : Nat → Int → Option Nat} {σ : Nat → Int → Int} {i v : Int} (hd : dok M.2.1 (pc, .bastore, 1, nx, tg)) (hs : shp k = (13, n)) (hk : k < n0) (hix : 0 ≤ i ∧ i < n) (hz : v = 0 ∨ v = 1) (kk : RunX l G M R nx L st (n0, ρ, upq σ k i v) ca sl Q) : RunX l G M R pc L (vi v :: vi i :: vr k :: st) (n0, ρ, σ) ca sl Q := by
  intro p e s m args below meth c H locs Z ls hc hn hks hr hi hlo hl
  obtain ⟨hd1, hd2, hd3⟩ := hd
  dsimp only at hd1 hd2 hd3
  subst hd2
  have hcl := hi.2.2 k hk
  have hle := shp_le k (Nat.lt_of_lt_of_le hk hi.1.2)
  unfold cellq at hcl
  rw [hs] at hcl hle
  obtain ⟨cA, h1, h2⟩ := hcl
  have hle : n ≤ 256 := hle
  have hnn := o32_in hix (by omega)
  have hcn := o32_ix (i := i) hix.1 (by omega)
  have hin : ((i.toNat : Nat) : Int) = i := Int.toNat_of_nonneg hix.1
  refine W.zast hc.1 hc.2.1 h1 (h2 _ _) (fun q => by cases q) (by rw [arrV_size]; exact hnn) rfl rfl hd1 (fun H1 e1 e2 e3 => ?_)
  have hI : Invq G (n0, ρ, upq σ k i v) s H1 := by
    refine hi.put hk e2 e3 ?_ (fun _ _ => rfl) (fun a ha => upq_ne ha)
    unfold cellq
    rw [hs]
    refine ⟨cA, ?_, h2⟩
    rw [show narrow .boolean (.int (Int32.ofInt v)) = .int (Int32.ofInt v) by rcases hz with rfl | rfl <;> rfl] at e1
    rw [e1, hcn, arrV_store]
    refine congrArg some (congrArg (arrV cA n) (funext fun j => ?_))
    show updV _ _ _ j = Value.int (Int32.ofInt (upq σ k i v k j))
    rw [upq_eq]
    by_cases q : j = i.toNat
    · subst q
      rw [if_pos hin]
      simp [updV]
    · rw [if_neg (by omega)]
      simp [updV, q]
  refine kk p e s m args below meth c H1 _ Z ls hc hn hks hr hI (fun q hq => ?_) hl
  rcases List.mem_append.mp hq with q1 | q1
  · exact hlo q q1
  · rw [List.mem_singleton] at q1
    subst q1
    show G.1 ≤ adr G k
    rw [adr_lt (Nat.lt_of_lt_of_le hk (Nat.le_trans hi.1.2 (by decide)))]
    omega
theorem x_last {n0 n k : Nat} {ρ : Nat → Int → Option Nat} {σ : Nat → Int → Int} {i v : Int} (hd : dok M.2.1 (pc, .lastore, 1, nx, tg)) (hs : shp k = (14, n)) (hk : k < n0) (hix : 0 ≤ i ∧ i < n) (kk : RunX l G M R nx L st (n0, ρ, upq σ k i v) ca sl Q) : RunX l G M R pc L (vl v :: vi i :: vr k :: st) (n0, ρ, σ) ca sl Q := by
  intro p e s m args below meth c H locs Z ls hc hn hks hr hi hlo hl
  obtain ⟨hd1, hd2, hd3⟩ := hd
  dsimp only at hd1 hd2 hd3
  subst hd2
  have hcl := hi.2.2 k hk
  have hle := shp_le k (Nat.lt_of_lt_of_le hk hi.1.2)
  unfold cellq at hcl
  rw [hs] at hcl hle
  obtain ⟨cA, h1, h2⟩ := hcl
  have hle : n ≤ 256 := hle
  have hnn := o32_in hix (by omega)
  have hcn := o32_ix (i := i) hix.1 (by omega)
  have hin : ((i.toNat : Nat) : Int) = i := Int.toNat_of_nonneg hix.1
  refine W.last hc.1 hc.2.1 h1 (h2 _ _) (fun q => by cases q) (by rw [arrV_size]; exact hnn) rfl rfl hd1 (fun H1 e1 e2 e3 => ?_)
  have hI : Invq G (n0, ρ, upq σ k i v) s H1 := by
    refine hi.put hk e2 e3 ?_ (fun _ _ => rfl) (fun a ha => upq_ne ha)
    unfold cellq
    rw [hs]
    refine ⟨cA, ?_, h2⟩
    rw [e1, hcn, arrV_store]
    refine congrArg some (congrArg (arrV cA n) (funext fun j => ?_))
    show updV _ _ _ j = Value.long (Int64.ofInt (upq σ k i v k j))
    rw [upq_eq]
    by_cases q : j = i.toNat
    · subst q
      rw [if_pos hin]
      simp [updV]
    · rw [if_neg (by omega)]
      simp [updV, q]
  refine kk p e s m args below meth c H1 _ Z ls hc hn hks hr hI (fun q hq => ?_) hl
  rcases List.mem_append.mp hq with q1 | q1
  · exact hlo q q1
  · rw [List.mem_singleton] at q1
    subst q1
    show G.1 ≤ adr G k
    rw [adr_lt (Nat.lt_of_lt_of_le hk (Nat.le_trans hi.1.2 (by decide)))]
    omega
end XR
end
section
/-! fields, returns, calls, contracts -/
theorem cellq_obj {G : GC} {ρ : Nat → Int → Option Nat} {σ : Nat → Int → Int} {U : State} {H : Heap} {k ci N : Nat} (hci : ci < 12) (hs : shp k = (ci, N)) : cellq G ρ σ U H k = t_OB (adr G k) (G.2.2.1.1 ci) N (G.2.2.1.2 ci) H (fun j => fvl G ci ρ σ k j) := by
  unfold cellq
  rw [hs]
  split
  · rename_i h; cases h; omega
  · rename_i h; cases h; omega
  · rename_i h; cases h; omega
  · rename_i h; cases h; omega
  · rename_i h; cases h; rfl
def clkq (ci : Nat) (C : String) (T : u_T) (N : Nat) (ty : Nat → FieldType) : Prop := vwCl[ci]? = some (C, T, N) ∧ (∀ w ∈ u_ws C T N, w ∈ tbG) ∧ (∀ k, k < N → parseFieldDescriptor (T k).2.2.1 = some (ty k)) ∧ (∀ a, a < N → ∀ b, b < N → a ≠ b → (T a).2.1 ≠ (T b).2.1) ∧ ci < 12
/-- field j of class ci, by entry idx of class own; z is j as an Int; int or not; final or not -/
def flq (own : String) (idx ci N j : Nat) (z : Int) (isI fin : Bool) : Prop := ∃ (C : String) (T : u_T) (ty : Nat → FieldType), clkq ci C T N ty ∧ j < N ∧ (j : Int) = z ∧ Cond.fieldLink own idx (T j).1 (T j).2.1 (T j).2.2.1 ∈ tbG ∧ fI ci j = isI ∧ (T j).2.2.2 = fin ∧ (T j).1 = C ∧ (if isI = true then ty j = .int else (∃ n, ty j = .object n) ∨ ∃ t, ty j = .array t)
section XF
variable {l : Launch} {G : GC} {M : MI} {R : Room} {pc nx tg : Nat} {L : List (Option AV)} {st : List AV} {S : WS} {ca sl : Nat} {Q : Option AV → WS → Prop}
variable {n0 k idx ci N j : Nat} {ρ : Nat → Int → Option Nat} {σ : Nat → Int → Int} {z : Int} {fin : Bool}
theorem x_getI (hd : dok M.2.1 (pc, .getfield idx, 3, nx, tg)) (hf : flq M.1.cls idx ci N j z true fin) (hs : shp k = (ci, N)) (hk : k < n0) (kk : RunX l G M R nx L (vi (σ k z) :: st) (n0, ρ, σ) ca sl Q) : RunX l G M R pc L (vr k :: st) (n0, ρ, σ) ca sl Q := by
  intro p e s m args below meth c H locs Z ls hc hn hks hr hi hlo hl
  obtain ⟨hd1, hd2, hd3⟩ := hd
  dsimp only at hd1 hd2 hd3
  subst hd2
  have k1 := kk p e s m args below meth c H locs Z ls hc hn hks hr hi hlo hl
  obtain ⟨C, T, ty, ⟨hcl, hin, hty, hnm, hci⟩, hj, hz, hlk, hI, -, -, -⟩ := hf
  subst hz
  have hce := hi.2.2 k hk
  rw [cellq_obj hci hs] at hce
  obtain ⟨cell, q1, q2, q3, q4⟩ := hce
  obtain ⟨hS, hfc, kC, hkC, hkind⟩ := hks.1.1 ci _ hcl
  obtain ⟨cf, kf, fi, f, hff, hsl⟩ := hS j hj
  refine W.getf hc.1 hc.2.1 hc.2.2.2.1 (hc.2.2.2.2 _ hlk) hff (u_facts hfc hkC (u_lays hc.2.2.2.2 hin hj) hff).1 q1 (by rw [q3]; exact fun h => by cases h) (v := .int (Int32.ofInt (σ k j))) ?_ rfl rfl hd1 k1
  rw [hsl, q4 j hj]
  show some (fvl G ci ρ σ k j) = _
  rw [fvl, if_pos hI]
theorem x_getR {r : Nat} (hd : dok M.2.1 (pc, .getfield idx, 3, nx, tg)) (hf : flq M.1.cls idx ci N j z false fin) (hs : shp k = (ci, N)) (hk : k < n0) (hρ : ρ k z = some r) (kk : RunX l G M R nx L (vr r :: st) (n0, ρ, σ) ca sl Q) : RunX l G M R pc L (vr k :: st) (n0, ρ, σ) ca sl Q := by
  intro p e s m args below meth c H locs Z ls hc hn hks hr hi hlo hl
  obtain ⟨hd1, hd2, hd3⟩ := hd
  dsimp only at hd1 hd2 hd3
  subst hd2
  have k1 := kk p e s m args below meth c H locs Z ls hc hn hks hr hi hlo hl
  obtain ⟨C, T, ty, ⟨hcl, hin, hty, hnm, hci⟩, hj, hz, hlk, hI, -, -, -⟩ := hf
  subst hz
  have hce := hi.2.2 k hk
  rw [cellq_obj hci hs] at hce
  obtain ⟨cell, q1, q2, q3, q4⟩ := hce
  obtain ⟨hS, hfc, kC, hkC, hkind⟩ := hks.1.1 ci _ hcl
  obtain ⟨cf, kf, fi, f, hff, hsl⟩ := hS j hj
  refine W.getf hc.1 hc.2.1 hc.2.2.2.1 (hc.2.2.2.2 _ hlk) hff (u_facts hfc hkC (u_lays hc.2.2.2.2 hin hj) hff).1 q1 (by rw [q3]; exact fun h => by cases h) (v := crf G (some r)) ?_ rfl rfl hd1 k1
  rw [hsl, q4 j hj]
  show some (fvl G ci ρ σ k j) = _
  rw [fvl, if_neg (by rw [hI]; decide), hρ]
theorem locs_add {locs : List Loc} {G : GC} {i : Nat} (hlo : ∀ q ∈ locs, G.1 ≤ q.base) (hk : k < 1000) : ∀ q ∈ locs ++ [⟨adr G k, i⟩], G.1 ≤ q.base := by
  intro q hq
  rcases List.mem_append.mp hq with q1 | q1
  · exact hlo q q1
  · rw [List.mem_singleton] at q1
    subst q1
    show G.1 ≤ adr G k
    rw [adr_lt hk]
    omega
theorem x_putI {v : Int} (hd : dok M.2.1 (pc, .putfield idx, 3, nx, tg)) (hf : flq M.1.cls idx ci N j z true false) (hs : shp k = (ci, N)) (hk : k < n0) (kk : RunX l G M R nx L st (n0, ρ, upq σ k z v) ca sl Q) : RunX l G M R pc L (vi v :: vr k :: st) (n0, ρ, σ) ca sl Q := by
  intro p e s m args below meth c H locs Z ls hc hn hks hr hi hlo hl
  obtain ⟨hd1, hd2, hd3⟩ := hd
  dsimp only at hd1 hd2 hd3
  subst hd2
  obtain ⟨C, T, ty, ⟨hcl, hin, hty, hnm, hci⟩, hj, hz, hlk, hI, hfin, -, ht⟩ := hf
  subst hz
  have ht : ty j = .int := ht
  have hap := va_apart (own := M.1.cls) hc.2.2.2.2 hin ty hty hnm hks.1 hcl
  have hce := hi.2.2 k hk
  rw [cellq_obj hci hs] at hce
  obtain ⟨cell, q1, q2, q3, q4⟩ := hce
  obtain ⟨hS, hfc, kC, hkC, hkind⟩ := hks.1.1 ci _ hcl
  obtain ⟨cf, kf, fi, f, hff, hsl⟩ := hS j hj
  have hlay := hc.2.2.2.2 _ (hin _ (u_in_lay hj))
  unfold u_lay at hlay
  rw [if_neg (by rw [hfin]; decide)] at hlay
  have hst := (u_facts hfc hkC (u_lays hc.2.2.2.2 hin hj) hff).1
  have h6 := u_store hfc hkC hkind hlay hff (hty j hj) (v := .int (Int32.ofInt v)) (by rw [ht]; rfl) (by rw [ht]; rfl)
  have hk9 : k < 1000 := Nat.lt_of_lt_of_le hk (Nat.le_trans hi.1.2 (by decide))
  refine W.putK hc.1 hc.2.1 (f := f) ⟨hc.2.2.2.1, hc.2.2.2.2 _ hlk, ⟨_, _, _, hff⟩, hst⟩ (by rw [q2]; exact h6) q1 q3 (by rw [hsl]; exact k2_hasslot (q4 j hj)) rfl rfl hd1 (fun H1 e1 e2 e3 => ?_)
  rw [hsl] at e1 ⊢
  have hI1 : Invq G (n0, ρ, upq σ k j v) s H1 := by
    refine hi.put hk e2 e3 ?_ (fun _ _ => rfl) (fun a ha => upq_ne ha)
    rw [cellq_obj hci hs]
    refine t_OB.to (V := updV (fun j => fvl G ci ρ σ k j) j (.int (Int32.ofInt v))) ⟨_, e1, q2, q3, t_set q4 hap hj _⟩ (fun i _ => ?_)
    unfold fvl
    rw [upq_eq]
    by_cases q : i = j
    · subst q
      rw [if_pos hI, if_pos rfl]
      simp [updV]
    · rw [if_neg (show ¬ (i : Int) = (j : Int) by omega)]
      simp [updV, q]
  exact kk p e s m args below meth c H1 _ Z ls hc hn hks hr hI1 (locs_add hlo hk9) hl
theorem x_putR {r : Nat} (hd : dok M.2.1 (pc, .putfield idx, 3, nx, tg)) (hf : flq M.1.cls idx ci N j z false true) (hs : shp k = (ci, N)) (hk : k < n0) (hin2 : M.1.name = "<init>") (hown : vwCl[ci]?.map (·.1) = some M.1.cls) (kk : RunX l G M R nx L st (n0, upq ρ k z (some r), σ) ca sl Q) : RunX l G M R pc L (vr r :: vr k :: st) (n0, ρ, σ) ca sl Q := by
  intro p e s m args below meth c H locs Z ls hc hn hks hr hi hlo hl
  obtain ⟨hd1, hd2, hd3⟩ := hd
  dsimp only at hd1 hd2 hd3
  subst hd2
  obtain ⟨C, T, ty, ⟨hcl, hin, hty, hnm, hci⟩, hj, hz, hlk, hI, hfin, hTC, ht⟩ := hf
  subst hz
  rw [hcl] at hown
  have hown : C = M.1.cls := Option.some.inj hown
  have ht : (∃ n, ty j = .object n) ∨ ∃ t, ty j = .array t := ht
  have hap := va_apart (own := M.1.cls) hc.2.2.2.2 hin ty hty hnm hks.1 hcl
  have hce := hi.2.2 k hk
  rw [cellq_obj hci hs] at hce
  obtain ⟨cell, q1, q2, q3, q4⟩ := hce
  obtain ⟨hS, hfc, kC, hkC, hkind⟩ := hks.1.1 ci _ hcl
  obtain ⟨cf, kf, fi, f, hff, hsl⟩ := hS j hj
  have hlay := hc.2.2.2.2 _ (hin _ (u_in_lay hj))
  unfold u_lay at hlay
  rw [if_pos hfin] at hlay
  have hst := (u_facts hfc hkC (u_lays hc.2.2.2.2 hin hj) hff).1
  have hcf : m.cls = cf := by
    obtain ⟨_, _, c', _, _, _, -, -, hf', -, -, -, hown2, -⟩ := Cond.laysFinal_spec hlay
    have e1 : c' = cf := by have := hff.symm.trans hf'; simp at this; exact this.1.symm
    rw [hTC, hown] at hown2
    rw [← e1]; exact Option.some.inj (hc.2.2.2.1.symm.trans hown2)
  have h6 := u_fits hfc hkC hkind (Or.inr hlay) hff (hty j hj) (v := .ref (adr G r)) (by rcases ht with ⟨n, h⟩ | ⟨n, h⟩ <;> rw [h] <;> rfl) (by rcases ht with ⟨n, h⟩ | ⟨n, h⟩ <;> rw [h] <;> rfl)
  have hk9 : k < 1000 := Nat.lt_of_lt_of_le hk (Nat.le_trans hi.1.2 (by decide))
  refine W.putFinK hc.1 hc.2.1 hc.2.2.2.1 (hc.2.2.2.2 _ hlk) hff hst hcf (hn.trans hin2) (by rw [q2]; exact h6) q1 q3 (by rw [hsl]; exact k2_hasslot (q4 j hj)) rfl rfl hd1 (fun H1 e1 e2 e3 => ?_)
  rw [hsl] at e1 ⊢
  have hI1 : Invq G (n0, upq ρ k j (some r), σ) s H1 := by
    refine hi.put hk e2 e3 ?_ (fun a ha => upq_ne ha) (fun _ _ => rfl)
    rw [cellq_obj hci hs]
    refine t_OB.to (V := updV (fun j => fvl G ci ρ σ k j) j (.ref (adr G r))) ⟨_, e1, q2, q3, t_set q4 hap hj _⟩ (fun i _ => ?_)
    unfold fvl
    rw [upq_eq]
    by_cases q : i = j
    · subst q
      rw [if_neg (by rw [hI]; decide), if_pos rfl]
      simp [updV, crf]
    · rw [if_neg (show ¬ (i : Int) = (j : Int) by omega)]
      simp [updV, q]
  exact kk p e s m args below meth c H1 _ Z ls hc hn hks hr hI1 (locs_add hlo hk9) hl
theorem x_ret {r : Option AV} (hd : dok M.2.1 (pc, rinq r, 1, nx, tg)) (hok : rokq M.2.2.2 r) (h1 : ca ≤ R.cells) (h2 : sl ≤ R.slots) (hq : Q r S) : RunX l G M R pc L r.toList S ca sl Q := by
  intro p e s m args below meth c H locs Z ls hc hn hks hr hi hlo hl
  exact hr r S pc ls H locs ca sl hq hok hd.1 hi hlo h1 h2
theorem x_iret {z : Int} (hd : dok M.2.1 (pc, .ireturn, 1, nx, tg)) (hok : rokq M.2.2.2 (some (vi z))) (hq : Q (some (vi z)) S) : RunX l G M R pc L [vi z] S 0 0 Q := x_ret (r := some (vi z)) hd hok (Nat.zero_le _) (Nat.zero_le _) hq
theorem x_aret {z : Nat} (hd : dok M.2.1 (pc, .areturn, 1, nx, tg)) (hok : rokq M.2.2.2 (some (vr z))) (hq : Q (some (vr z)) S) : RunX l G M R pc L [vr z] S 0 0 Q := x_ret (r := some (vr z)) hd hok (Nat.zero_le _) (Nat.zero_le _) hq
theorem x_vret (hd : dok M.2.1 (pc, .return_, 1, nx, tg)) (hok : rokq M.2.2.2 none) (h1 : ca ≤ R.cells) (h2 : sl ≤ R.slots) (hq : Q none S) : RunX l G M R pc L [] S ca sl Q := x_ret (r := none) hd hok h1 h2 hq
/-- what follows may be asked of less -/
theorem RunX.mono {Q' : Option AV → WS → Prop} (h : RunX l G M R pc L st S ca sl Q) (hQ : ∀ r S', Q r S' → Q' r S') : RunX l G M R pc L st S ca sl Q' := by
  intro p e s m args below meth c H locs Z ls hc hn hks hr hi hlo hl
  exact h p e s m args below meth c H locs Z ls hc hn hks (fun r S' pc' ls' H' locs' ca' sl' hq => hr r S' pc' ls' H' locs' ca' sl' (hQ r S' hq)) hi hlo hl
end XF
/-! contracts -/
def rmq (d mc ms : Nat) : Room := { frames := d, cells := mc, slots := ms, locals := 40 * d }
def Cwq (M : MI) : List Cond := Cond.code M.1 M.2.1 M.2.2.1 M.2.2.2 :: tbG
def Qcq (G : GC) (Q : Option AV → WS → Prop) : Array Value → State → Outcome → State → Prop := fun _ _ o t => ∃ (r : Option AV) (S' : WS), o = .returned (r.map (cvl G)) ∧ Q r S' ∧ Invq G S' t t.heap
def Ct (l : Launch) (G : GC) (M : MI) (d mc ms : Nat) (As : List AV) (S : WS) (Q : Option AV → WS → Prop) : Prop := Met l M.1 (Cwq M) (rmq d mc ms) (va_Pc (As.map (cvl G)) (fun U => Invq G S U U.heap ∧ Kst G U)) (Qcq G Q) mc ms (fun q => G.1 ≤ q)
def eLq : List AV → List (Option AV)
  | [] => []
  | .inr (.inl z) :: vs => some (vl z) :: none :: eLq vs
  | v :: vs => some v :: eLq vs
theorem eLq_pr {G : GC} : ∀ (vs : List AV) (n : Nat), prL G n (eLq vs) = lv_args n (vs.map (cvl G))
  | [], n => rfl
  | .inr (.inl z) :: vs, n => by
    show (n, cvl G (vl z)) :: prL G (n + 2) (eLq vs) = _
    rw [eLq_pr vs]; rfl
  | .inl z :: vs, n => by
    show (n, cvl G (vi z)) :: prL G (n + 1) (eLq vs) = _
    rw [eLq_pr vs]; rfl
  | .inr (.inr none) :: vs, n => by
    show (n, _) :: prL G (n + 1) (eLq vs) = _
    rw [eLq_pr vs]; rfl
  | .inr (.inr (some k)) :: vs, n => by
    show (n, _) :: prL G (n + 1) (eLq vs) = _
    rw [eLq_pr vs]; rfl
theorem eLq_len {G : GC} : ∀ (vs : List AV), (lg_sl (vs.map (cvl G))).length = (eLq vs).length
  | [] => rfl
  | .inr (.inl z) :: vs => by
    have := eLq_len (G := G) vs
    show (Slot.val _ :: Slot.second :: lg_sl (vs.map (cvl G))).length = _
    simp [eLq, this]
  | .inl z :: vs => by
    have := eLq_len (G := G) vs
    show (Slot.val _ :: lg_sl (vs.map (cvl G))).length = _
    simp [eLq, this]
  | .inr (.inr none) :: vs => by
    have := eLq_len (G := G) vs
    show (Slot.val _ :: lg_sl (vs.map (cvl G))).length = _
    simp [eLq, this]
  | .inr (.inr (some k)) :: vs => by
    have := eLq_len (G := G) vs
    show (Slot.val _ :: lg_sl (vs.map (cvl G))).length = _
    simp [eLq, this]
theorem Ct.of {l : Launch} {G : GC} {M : MI} {d mc ms : Nat} {As : List AV} {S : WS} {Q : Option AV → WS → Prop} (hy : plainName M.1.cls = true) (hlen : (eLq As).length ≤ M.2.2.1) (h : RunX l G M (rmq d mc ms) 0 (eLq As) [] S 0 0 Q) : Ct l G M d mc ms As S Q := by
  refine Met.ofW (cc := M.2.1) (maxL := M.2.2.1) (ret := M.2.2.2) hy rfl ?_
  intro p e s m args below meth c s₁ B hml hv
  obtain ⟨rfl, hI, hK⟩ := hv
  have hts := atoms_spec (ws := Cwq M) B.pre
  have hown : s.vm.findClass M.1.cls = some m.cls := findClass_of_methodNamed B.named
  have hlocks := B.notSynchronized
  have hin : meth.name = M.1.name := (name_of_methodNamed B.named B.method).1
  have hr := B.returns
  have hl0 := lv_entry (As.map (cvl G)) (n := M.2.2.1) (by rw [eLq_len]; exact hlen)
  rw [lg_entry_eq]
  generalize (lg_sl (As.map (cvl G)) ++ List.replicate (M.2.2.1 - (lg_sl (As.map (cvl G))).length) Slot.unset).toArray = ls at hl0 ⊢
  have hl : lh G ls M.2.2.1 (eLq As) := by
    unfold lh
    rw [eLq_pr]
    exact hl0
  refine h p e s m _ below meth c s.heap [] _ ls ⟨B.exec, B.bytes, hml, hown, fun w hw => hts w (List.mem_cons_of_mem _ hw)⟩ hin hK ?_ hI (fun q hq => by cases hq) hl
  intro r S' pc' ls' H' locs' ca' sl' hq hok hdec hI' hlo h1 h2
  have h1 : ca' ≤ mc := h1
  have h2 : sl' ≤ ms := h2
  refine W.widen h1 h2 ?_
  have hpost : ∀ t : State, t.heap = H' → s.WarmedH t.vm → Qcq G Q (As.map (cvl G)).toArray s (.returned (r.map (cvl G))) t := fun t ht hW => ⟨r, S', rfl, hq, by rw [ht]; exact hI'.moved hW.alike⟩
  match hM : M.2.2.2, r, hok, hdec, hpost with
  | none, none, _, hdec, hpost => exact W.vret B.exec B.bytes (hr.trans hM) hpost hlo hdec
  | some .int, some (.inl z), _, hdec, hpost => exact W.iret (v := Int32.ofInt z) B.exec B.bytes (hr.trans hM) hpost hlo hdec
  | some .boolean, some (.inl z), hok, hdec, hpost =>
    have hok : z = 0 ∨ z = 1 := hok
    exact W.zret (v := Int32.ofInt z) B.exec B.bytes (hr.trans hM) (by rcases hok with rfl | rfl <;> rfl) hpost hlo hdec
  | some .byte, some (.inl z), hok, hdec, hpost =>
    have hok : z = 0 := hok
    exact W.zret (v := Int32.ofInt z) B.exec B.bytes (hr.trans hM) (by rw [hok]; rfl) hpost hlo hdec
  | some .char, some (.inl z), hok, hdec, hpost =>
    have hok : 0 ≤ z ∧ z < 65536 := hok
    refine W.zret (v := Int32.ofInt z) B.exec B.bytes (hr.trans hM) ?_ hpost hlo hdec
    have := (pk_charN (q := z.toNat) (by omega)).1
    rw [show nI z.toNat = Int32.ofInt z by unfold nI; rw [← Int32.ofInt_eq_ofNat, Int.toNat_of_nonneg hok.1]] at this
    exact this
  | some .long, some (.inr (.inl z)), _, hdec, hpost => exact W.lret (v := Int64.ofInt z) B.exec B.bytes (hr.trans hM) hpost hlo hdec
  | some (.object n), some (.inr (.inr (some k))), _, hdec, hpost => exact W.aret (v := .ref (adr G k)) B.exec B.bytes (hr.trans hM) (Or.inl ⟨n, rfl⟩) (Or.inr ⟨_, rfl⟩) hpost hlo hdec
theorem tbl_good : tbG.all goodWord = true := List.all_eq_true.mpr fun w hw => (List.mem_filter.mp hw).2
theorem Cwq_good {M : MI} (h : Cond.code M.1 M.2.1 M.2.2.1 M.2.2.2 ∈ tbG) : GoodIn tbG (Cwq M) := by
  intro w hw
  have hm : w ∈ tbG := by
    rcases List.mem_cons.mp hw with rfl | h1
    · exact h
    · exact h1
  exact ⟨hm, good_of_word (List.all_eq_true.mp tbl_good w hm)⟩
theorem good_in {w : Cond} (h : w ∈ tbG) : w ∈ tbG ∧ ((w.onTables && w.keeps) = true ∨ ∃ ty, w = .arrayClass ty) := ⟨h, good_of_word (List.all_eq_true.mp tbl_good w h)⟩
/-- what a call needs of the one that is called -/
def mokq (M : MI) (n : Nat) : Prop := Cond.code M.1 M.2.1 M.2.2.1 M.2.2.2 ∈ tbG ∧ Cond.initialized M.1.cls ∈ tbG ∧ (M.1.cls ≠ "java/lang/invoke/MethodHandle" ∧ M.1.cls ≠ "java/lang/invoke/VarHandle" ∧ (parseMethodDescriptor M.1.desc).map (fun d => d.parameters.length) = some n)
def mvq (M : MI) (n : Nat) : Prop := mokq M n ∧ Cond.instanceMethod M.1 ∈ tbG ∧ Cond.selects M.1.cls M.1 M.1 ∈ tbG
def msq (M : MI) (n : Nat) : Prop := mokq M n ∧ Cond.static M.1 ∈ tbG
def miq (M : MI) (n : Nat) : Prop := mokq M n ∧ Cond.instanceMethod M.1 ∈ tbG ∧ M.1.name = "<init>" ∧ M.2.2.2 = none
theorem Invq.blind {G : GC} {S : WS} {av : List Value} : FrameBlind (va_Pc av (fun U => Invq G S U U.heap ∧ Kst G U)) := by
  intro a U g mk q
  obtain ⟨q0, q1, q2⟩ := q
  exact ⟨q0, Invq.moved (u := U) (U := U.calling g mk a) (Vm.Alike.refl U.vm) q1, Kst.same rfl q2⟩
section XC
variable {l : Launch} {G : GC} {M : MI} {R : Room} {pc nx tg : Nat} {L : List (Option AV)} {st rest : List AV} {S : WS} {ca sl : Nat} {Q : Option AV → WS → Prop}
variable {K : MI} {d mc ms n idx : Nat} {As : List AV} {Q1 : Option AV → WS → Prop}
def catq (st : List AV) : Nat := match st with
  | [] => 0
  | .inr (.inl _) :: r => 2 + catq r
  | _ :: r => 1 + catq r
theorem catq_sum {G : GC} : ∀ st : List AV, ((st.map (cvl G)).map fun v => v.category).sum = catq st
  | [] => rfl
  | .inr (.inl z) :: r => by
    rw [List.map_cons, List.map_cons, List.sum_cons, catq_sum r]; rfl
  | .inl z :: r => by
    rw [List.map_cons, List.map_cons, List.sum_cons, catq_sum r]; rfl
  | .inr (.inr none) :: r => by
    rw [List.map_cons, List.map_cons, List.sum_cons, catq_sum r]; rfl
  | .inr (.inr (some k)) :: r => by
    rw [List.map_cons, List.map_cons, List.sum_cons, catq_sum r]; rfl
/-- a call that has run: the caller goes on -/
theorem x_back {p : Program} {e : Env} {s : State} {m : MethodId} {args a : Array Value} {below : List Frame} {meth : Method} {c : Code} {H : Heap} {locs : List Loc} {Z : State → Prop} {ls : Array Slot} {st0 : List Value}
    (hrun : va_Run p l e R s m args below meth c H locs ca sl mc ms (F0 m pc ls st0) (rest.map (cvl G)) (Qcq G Q1 a) (fun q => G.1 ≤ q)) (hlo : ∀ q ∈ locs, G.1 ≤ q.base)
    (kk : ∀ (r : Option AV) (S' : WS) (H1 : Heap) (locs1 : List Loc), Q1 r S' → Invq G S' s H1 → (∀ q ∈ locs1, G.1 ≤ q.base) → W p l e R s m args below meth c H1 locs1 (ca + mc) (sl + ms) Z (F0 m (pc + 3) ls ((r.toList ++ rest).map (cvl G)))) : W p l e R s m args below meth c H locs ca sl Z (F0 m pc ls st0) := by
  intro T hT X
  obtain ⟨v, st₀, t, T', L, h0, X', hL, e1, e2, ⟨r, S', hv, hq, hI⟩, st⟩ := hrun T hT X
  cases hv
  have hI2 : Invq G S' s T'.heap := by
    rw [e1]
    exact hI.moved (by rw [← e2]; exact X'.warmed.alike.symm)
  obtain ⟨t2, a1, b1⟩ := kk r S' T'.heap (locs ++ L) hq hI2 (fun q hq => by
    rcases List.mem_append.mp hq with h | h
    · exact hlo q h
    · exact hL q h) T' rfl X'
  refine ⟨t2, st t2 ?_, b1⟩
  have hst : (r.map (cvl G)).toList ++ rest.map (cvl G) = (r.toList ++ rest).map (cvl G) := by cases r <;> simp
  show Steps p.tables e below (T'.setTop { (F0 m pc ls st0) with pc := pc + 3, stack := (r.map (cvl G)).toList ++ rest.map (cvl G) }) t2
  rw [hst]
  exact a1
theorem x_callV {k ci N : Nat} (hd : dok M.2.1 (pc, .invokevirtual idx, 3, nx, tg)) (hlk : Cond.methodLink M.1.cls idx K.1 ∈ tbG) (hm : mvq K n) (hs : shp k = (ci, N)) (hk : k < S.1) (hcc : ci < 12 ∧ vwCl[ci]?.map (·.1) = some K.1.cls) (hct : Ct l G K d mc ms (vr k :: As) S Q1) (hR : d + 1 ≤ R.frames ∧ 8 + (K.2.2.1 + 11) + 40 * d ≤ R.locals) (hca : ca + mc ≤ R.cells ∧ sl + ms ≤ R.slots) (hst : st = As.reverse ++ vr k :: rest) (hn : As.length = n) (hcat : catq rest ≤ 8)
    (kk : ∀ (r : Option AV) (S' : WS), Q1 r S' → RunX l G M R nx L (r.toList ++ rest) S' (ca + mc) (sl + ms) Q) : RunX l G M R pc L st S ca sl Q := by
  intro p e s m args below meth c H locs Z ls hc hnm hks hr hi hlo hl
  obtain ⟨hd1, hd2, hd3⟩ := hd
  dsimp only at hd1 hd2 hd3
  subst hd2
  subst hst
  obtain ⟨⟨m1, m2, m3⟩, m4, m5⟩ := hm
  obtain ⟨hci, hcls⟩ := hcc
  have hT : GoodIn tbG (wsV M.1.cls idx K.1.cls K.1 (Cwq K)) := by
    intro w hw
    rcases List.mem_append.mp hw with h | h
    · simp only [List.mem_cons, List.not_mem_nil, or_false] at h
      rcases h with rfl | rfl | rfl | rfl
      · exact good_in hlk
      · exact good_in m4
      · exact good_in m5
      · exact good_in m2
    · exact Cwq_good m1 w h
  have hce := hi.2.2 k hk
  rw [cellq_obj hci hs] at hce
  obtain ⟨cell, q1, q2, q3, q4⟩ := hce
  refine x_back (rest := rest) (hrun := va_runV (As := As.map (cvl G)) hc hct (cwV (bytes := K.2.1) (maxL := K.2.2.1) (ret := K.2.2.2) n hc.2.2.2.2 hT rfl rfl rfl ⟨rfl, m3⟩ hR) (b := adr G k) ⟨Invq.blind, ?_, fun U hU hW => ⟨rfl, by rw [hU]; exact hi.moved hW.alike, hks.warm hW⟩⟩ rfl (by rw [List.length_map]; exact hn) hl.1 (by show List.map (cvl G) (As.reverse ++ vr k :: rest) = _; rw [List.map_append, List.map_reverse]; rfl) (lv_room (by rw [catq_sum]; exact hcat)) hd1 hca) hlo ?_
  · cases hv : vwCl[ci]? with
    | none => rw [hv] at hcls; cases hcls
    | some q =>
      rw [hv] at hcls
      obtain ⟨-, hfc, -⟩ := hks.1.1 ci q hv
      refine ⟨cell, q1, by rw [q3]; rfl, ?_⟩
      rw [q2, ← hfc, show K.1.cls = q.1 from (Option.some.inj hcls).symm]
  · intro r S' H1 locs1 hq hI hlo1
    exact kk r S' hq p e s m args below meth c H1 locs1 Z ls hc hnm hks hr hI hlo1 hl
theorem x_callS (hd : dok M.2.1 (pc, .invokestatic idx, 3, nx, tg)) (hlk : Cond.methodLink M.1.cls idx K.1 ∈ tbG) (hm : msq K n) (hct : Ct l G K d mc ms As S Q1) (hR : d + 1 ≤ R.frames ∧ 8 + (K.2.2.1 + 11) + 40 * d ≤ R.locals) (hca : ca + mc ≤ R.cells ∧ sl + ms ≤ R.slots) (hst : st = As.reverse ++ rest) (hn : As.length = n) (hcat : catq rest ≤ 8)
    (kk : ∀ (r : Option AV) (S' : WS), Q1 r S' → RunX l G M R nx L (r.toList ++ rest) S' (ca + mc) (sl + ms) Q) : RunX l G M R pc L st S ca sl Q := by
  intro p e s m args below meth c H locs Z ls hc hnm hks hr hi hlo hl
  obtain ⟨hd1, hd2, hd3⟩ := hd
  dsimp only at hd1 hd2 hd3
  subst hd2
  subst hst
  obtain ⟨⟨m1, m2, m3⟩, m4⟩ := hm
  have hT : GoodIn tbG (va_wsS M.1.cls idx K.1 (Cwq K)) := by
    intro w hw
    rcases List.mem_append.mp hw with h | h
    · simp only [List.mem_cons, List.not_mem_nil, or_false] at h
      rcases h with rfl | rfl | rfl
      · exact good_in hlk
      · exact good_in m4
      · exact good_in m2
    · exact Cwq_good m1 w h
  refine x_back (rest := rest) (hrun := va_runS (As := As.map (cvl G)) hc hct (va_cwS (bytes := K.2.1) (maxL := K.2.2.1) (ret := K.2.2.2) n hc.2.2.2.2 hT rfl rfl rfl m3 hR) ⟨Invq.blind, fun U hU hW => ⟨rfl, by rw [hU]; exact hi.moved hW.alike, hks.warm hW⟩⟩ rfl (by rw [List.length_map]; exact hn) hl.1 (by show List.map (cvl G) (As.reverse ++ rest) = _; rw [List.map_append, List.map_reverse]) (lv_room (by rw [catq_sum]; exact hcat)) hd1 hca) hlo ?_
  intro r S' H1 locs1 hq hI hlo1
  exact kk r S' hq p e s m args below meth c H1 locs1 Z ls hc hnm hks hr hI hlo1 hl
theorem x_callSN {host : String} (hd : dok M.2.1 (pc, .invokestatic idx, 3, nx, tg)) (hlk : Cond.methodLinkNest M.1.cls idx K.1 host ∈ tbG) (hm : msq K n) (hct : Ct l G K d mc ms As S Q1) (hR : d + 1 ≤ R.frames ∧ 8 + (K.2.2.1 + 11) + 40 * d ≤ R.locals) (hca : ca + mc ≤ R.cells ∧ sl + ms ≤ R.slots) (hst : st = As.reverse ++ rest) (hn : As.length = n) (hcat : catq rest ≤ 8)
    (kk : ∀ (r : Option AV) (S' : WS), Q1 r S' → RunX l G M R nx L (r.toList ++ rest) S' (ca + mc) (sl + ms) Q) : RunX l G M R pc L st S ca sl Q := by
  intro p e s m args below meth c H locs Z ls hc hnm hks hr hi hlo hl
  obtain ⟨hd1, hd2, hd3⟩ := hd
  dsimp only at hd1 hd2 hd3
  subst hd2
  subst hst
  obtain ⟨⟨m1, m2, m3⟩, m4⟩ := hm
  have hnw : va_Nw (.methodLinkNest M.1.cls idx K.1 host) s := hc.2.2.2.2 _ hlk
  refine x_back (rest := rest) (hrun := va_runSN (As := As.map (cvl G)) (host := host) hc hct ⟨va_cnB (bytes := K.2.1) (maxL := K.2.2.1) (ret := K.2.2.2) n hc.2.2.2.2 (Cwq_good m1) rfl rfl rfl hnw (hc.2.2.2.2 _ m2) m3 hR, hc.2.2.2.2 _ m4, trivial⟩ ⟨Invq.blind, fun U hU hW => ⟨rfl, by rw [hU]; exact hi.moved hW.alike, hks.warm hW⟩⟩ rfl (by rw [List.length_map]; exact hn) hl.1 (by show List.map (cvl G) (As.reverse ++ rest) = _; rw [List.map_append, List.map_reverse]) (lv_room (by rw [catq_sum]; exact hcat)) hd1 hca) hlo ?_
  intro r S' H1 locs1 hq hI hlo1
  exact kk r S' hq p e s m args below meth c H1 locs1 Z ls hc hnm hks hr hI hlo1 hl
theorem x_callI {k : Nat} (hd : dok M.2.1 (pc, .invokespecial idx, 3, nx, tg)) (hlk : Cond.methodLink M.1.cls idx K.1 ∈ tbG) (hm : miq K n) (hct : Ct l G K d mc ms (vr k :: As) S Q1) (hR : d + 1 ≤ R.frames ∧ 8 + (K.2.2.1 + 11) + 40 * d ≤ R.locals) (hca : ca + mc ≤ R.cells ∧ sl + ms ≤ R.slots) (hst : st = As.reverse ++ vr k :: rest) (hn : As.length = n) (hcat : catq rest ≤ 8)
    (kk : ∀ (r : Option AV) (S' : WS), Q1 r S' → RunX l G M R nx L (r.toList ++ rest) S' (ca + mc) (sl + ms) Q) : RunX l G M R pc L st S ca sl Q := by
  intro p e s m args below meth c H locs Z ls hc hnm hks hr hi hlo hl
  obtain ⟨hd1, hd2, hd3⟩ := hd
  dsimp only at hd1 hd2 hd3
  subst hd2
  subst hst
  obtain ⟨⟨m1, m2, m3⟩, m4, m5, m6⟩ := hm
  have m1' := m1
  rw [m6] at m1'
  refine x_back (rest := rest) (hrun := va_runI (As := As.map (cvl G)) (b := adr G k) hc hct (cwI (bytes := K.2.1) (maxL := K.2.2.1) n hc.2.2.2.2 (Cwq_good m1) (by unfold Cwq; rw [m6]) rfl rfl (hc.2.2.2.2 _ m2) (hc.2.2.2.2 _ hlk) (hc.2.2.2.2 _ m4) m5 m3 hR) ⟨Invq.blind, fun U hU hW => ⟨rfl, by rw [hU]; exact hi.moved hW.alike, hks.warm hW⟩⟩ rfl (by rw [List.length_map]; exact hn) hl.1 (by show List.map (cvl G) (As.reverse ++ vr k :: rest) = _; rw [List.map_append, List.map_reverse]; rfl) (lv_room (by rw [catq_sum]; exact hcat)) hd1 hca) hlo ?_
  intro r S' H1 locs1 hq hI hlo1
  exact kk r S' hq p e s m args below meth c H1 locs1 Z ls hc hnm hks hr hI hlo1 hl
theorem x_callIN {k : Nat} {host : String} (hd : dok M.2.1 (pc, .invokespecial idx, 3, nx, tg)) (hlk : Cond.methodLinkNest M.1.cls idx K.1 host ∈ tbG) (hm : miq K n) (hct : Ct l G K d mc ms (vr k :: As) S Q1) (hR : d + 1 ≤ R.frames ∧ 8 + (K.2.2.1 + 11) + 40 * d ≤ R.locals) (hca : ca + mc ≤ R.cells ∧ sl + ms ≤ R.slots) (hst : st = As.reverse ++ vr k :: rest) (hn : As.length = n) (hcat : catq rest ≤ 8)
    (kk : ∀ (r : Option AV) (S' : WS), Q1 r S' → RunX l G M R nx L (r.toList ++ rest) S' (ca + mc) (sl + ms) Q) : RunX l G M R pc L st S ca sl Q := by
  intro p e s m args below meth c H locs Z ls hc hnm hks hr hi hlo hl
  obtain ⟨hd1, hd2, hd3⟩ := hd
  dsimp only at hd1 hd2 hd3
  subst hd2
  subst hst
  obtain ⟨⟨m1, m2, m3⟩, m4, m5, m6⟩ := hm
  have hnw : va_Nw (.methodLinkNest M.1.cls idx K.1 host) s := hc.2.2.2.2 _ hlk
  refine x_back (rest := rest) (hrun := va_runIN (As := As.map (cvl G)) (host := host) (b := adr G k) hc hct ⟨va_cnB (bytes := K.2.1) (maxL := K.2.2.1) n hc.2.2.2.2 (Cwq_good m1) (by unfold Cwq; rw [m6]) rfl rfl hnw (hc.2.2.2.2 _ m2) m3 hR, m5, hc.2.2.2.2 _ m4⟩ ⟨Invq.blind, fun U hU hW => ⟨rfl, by rw [hU]; exact hi.moved hW.alike, hks.warm hW⟩⟩ rfl (by rw [List.length_map]; exact hn) hl.1 (by show List.map (cvl G) (As.reverse ++ vr k :: rest) = _; rw [List.map_append, List.map_reverse]; rfl) (lv_room (by rw [catq_sum]; exact hcat)) hd1 hca) hlo ?_
  intro r S' H1 locs1 hq hI hlo1
  exact kk r S' hq p e s m args below meth c H1 locs1 Z ls hc hnm hks hr hI hlo1 hl
end XC
end
section
/-! constants, texts, the script; what is made -/
section XS
variable {l : Launch} {G : GC} {M : MI} {R : Room} {pc nx tg : Nat} {L : List (Option AV)} {st : List AV} {S : WS} {ca sl : Nat} {Q : Option AV → WS → Prop}
theorem o_nat (n : Nat) : Int32.ofNat n = Int32.ofInt (n : Int) := Int32.ofInt_eq_ofNat.symm
/-- a constant's cell lies below the base -/
theorem x_below {U : State} {H : Heap} (hi : Invq G S U H) {a : Nat} {cell : Cell} (h : G.2.1[a]? = some cell) (ha : ¬ G.1 ≤ a) : H[a]? = some cell := by rw [hi.2.1 a (Nat.not_le.mp ha)]; exact h
theorem x_gets {i idx : Nat} {q : String × String × List Int} (hd : dok M.2.1 (pc, .getstatic idx, 3, nx, tg)) (hq : stq[i]? = some q) (hlk : Cond.fieldLink M.1.cls idx q.1 q.2.1 "[I" ∈ tbG) (kk : RunX l G M R nx L (vr (1000 + i) :: st) S ca sl Q) : RunX l G M R pc L st S ca sl Q := by
  intro p e s m args below meth c H locs Z ls hc hn hks hr hi hlo hl
  obtain ⟨hd1, hd2, hd3⟩ := hd
  dsimp only at hd1 hd2 hd3
  subst hd2
  obtain ⟨⟨cf, kf, fi, f, a, cell, h1, h2, h3, h4, h5, h6, h7, h8⟩, -⟩ := hks.2.1 i q hq
  exact W.gets hc.1 hc.2.1 hc.2.2.2.1 (hc.2.2.2.2 _ hlk) h1 h2 h3 h4 (x_below hi h5 h8) (fun e => by rw [e] at h6; cases h6) h7 rfl hd1 (kk p e s m args below meth c H locs Z ls hc hn hks hr hi hlo hl)
theorem x_getsZ {idx : Nat} (hd : dok M.2.1 (pc, .getstatic idx, 3, nx, tg)) (hlk : Cond.fieldLink M.1.cls idx "java/lang/String" "COMPACT_STRINGS" "Z" ∈ tbG) (kk : RunX l G M R nx L (vi 1 :: st) S ca sl Q) : RunX l G M R pc L st S ca sl Q := by
  intro p e s m args below meth c H locs Z ls hc hn hks hr hi hlo hl
  obtain ⟨hd1, hd2, hd3⟩ := hd
  dsimp only at hd1 hd2 hd3
  subst hd2
  obtain ⟨cf, kf, fi, f, a, cell, h1, h2, h3, h4, h5, h6, h7, h8⟩ := hks.2.2.2.2.1
  exact W.gets hc.1 hc.2.1 hc.2.2.2.1 (hc.2.2.2.2 _ hlk) h1 h2 h3 h4 (x_below hi h5 h8) (fun e => by rw [e] at h6; cases h6) h7 rfl hd1 (kk p e s m args below meth c H locs Z ls hc hn hks hr hi hlo hl)
theorem x_getsF {idx : Nat} (hd : dok M.2.1 (pc, .getstatic idx, 3, nx, tg)) (hlk : Cond.fieldLink M.1.cls idx "jdk/internal/util/Preconditions" "SIOOBE_FORMATTER" sfmt ∈ tbG) (kk : ∀ r : Option Nat, RunX l G M R nx L (.inr (.inr r) :: st) S ca sl Q) : RunX l G M R pc L st S ca sl Q := by
  intro p e s m args below meth c H locs Z ls hc hn hks hr hi hlo hl
  obtain ⟨hd1, hd2, hd3⟩ := hd
  dsimp only at hd1 hd2 hd3
  subst hd2
  obtain ⟨r, cf, kf, fi, f, a, cell, h1, h2, h3, h4, h5, h6, h7, h8⟩ := hks.2.2.2.2.2.1
  exact W.gets hc.1 hc.2.1 hc.2.2.2.1 (hc.2.2.2.2 _ hlk) h1 h2 h3 h4 (x_below hi h5 h8) (fun e => by rw [e] at h6; cases h6) h7 rfl hd1 (kk r p e s m args below meth c H locs Z ls hc hn hks hr hi hlo hl)
theorem x_Tin {i : Int} {N n : Nat} (h : 0 ≤ i ∧ i < N) (hN : N ≤ n) (hs : N < 2147483648) : ¬ (Int32.ofInt i < 0 ∨ n ≤ (Int32.ofInt i).toNatClampNeg) := by
  rw [o32_0, o32_lt (by omega) (by decide), o32_ix h.1 (by omega)]
  omega
/-- a static array is read -/
theorem x_ialdS {i : Nat} {z : Int} {q : String × String × List Int} (hd : dok M.2.1 (pc, .iaload, 1, nx, tg)) (hq : stq[i]? = some q) (hz : 0 ≤ z ∧ z < q.2.2.length) (hln : q.2.2.length < 100) (kk : RunX l G M R nx L (vi (q.2.2.getD z.toNat 0) :: st) S ca sl Q) : RunX l G M R pc L (vi z :: vr (1000 + i) :: st) S ca sl Q := by
  intro p e s m args below meth c H locs Z ls hc hn hks hr hi hlo hl
  obtain ⟨hd1, hd2, hd3⟩ := hd
  dsimp only at hd1 hd2 hd3
  subst hd2
  obtain ⟨-, cell, h1, h2, h3, h4, h5, h6, h7⟩ := hks.2.1 i q hq
  refine W.iald (v := .int (Int32.ofInt (q.2.2.getD z.toNat 0))) hc.1 hc.2.1 (x_below hi h1 h7) h2 h3 (x_Tin hz h4 (by omega)) ?_ rfl rfl hd1 (kk p e s m args below meth c H locs Z ls hc hn hks hr hi hlo hl)
  rw [o32_ix hz.1 (by omega)]
  exact h6 _ (by omega)
/-- the script is read -/
theorem x_sld {z : Int} (hd : dok M.2.1 (pc, .iaload, 1, nx, tg)) (hz : 0 ≤ z ∧ z < G.2.2.2.2.1) (hln : G.2.2.2.2.1 < 100000) (kk : RunX l G M R nx L (vi (G.2.2.2.2.2 z.toNat) :: st) S ca sl Q) : RunX l G M R pc L (vi z :: vr 1060 :: st) S ca sl Q := by
  intro p e s m args below meth c H locs Z ls hc hn hks hr hi hlo hl
  obtain ⟨hd1, hd2, hd3⟩ := hd
  dsimp only at hd1 hd2 hd3
  subst hd2
  obtain ⟨cell, h1, h2, h3, h4, h5, h6, h7⟩ := hks.2.2.2.2.2.2
  refine W.iald (v := .int (Int32.ofInt (G.2.2.2.2.2 z.toNat))) hc.1 hc.2.1 (x_below hi h1 h7) h2 h3 (x_Tin hz h4 (by omega)) ?_ rfl rfl hd1 (kk p e s m args below meth c H locs Z ls hc hn hks hr hi hlo hl)
  rw [o32_ix hz.1 (by omega)]
  exact h6 _ (by omega)
theorem x_slen (hd : dok M.2.1 (pc, .arraylength, 1, nx, tg)) (kk : RunX l G M R nx L (vi G.2.2.2.2.1 :: st) S ca sl Q) : RunX l G M R pc L (vr 1060 :: st) S ca sl Q := by
  intro p e s m args below meth c H locs Z ls hc hn hks hr hi hlo hl
  obtain ⟨hd1, hd2, hd3⟩ := hd
  dsimp only at hd1 hd2 hd3
  subst hd2
  obtain ⟨cell, h1, h2, h3, h4, h5, h6, h7⟩ := hks.2.2.2.2.2.2
  exact W.alen (n := Int32.ofInt G.2.2.2.2.1) hc.1 hc.2.1 (x_below hi h1 h7) h2 (by rw [h5, o_nat]) rfl rfl hd1 (kk p e s m args below meth c H locs Z ls hc hn hks hr hi hlo hl)
/-- a text constant -/
theorem x_ldcS {i : Nat} {q : Nat × String × List Int32} (hd : dok M.2.1 (pc, .ldc q.1, 2, nx, tg)) (hM : M.1.cls = "WharfPapers$Reader") (hq : txq[i]? = some q) (kk : RunX l G M R nx L (vr (1010 + i) :: st) S ca sl Q) : RunX l G M R pc L st S ca sl Q := by
  intro p e s m args below meth c H locs Z ls hc hn hks hr hi hlo hl
  obtain ⟨hd1, hd2, hd3⟩ := hd
  dsimp only at hd1 hd2 hd3
  subst hd2
  have ho := hc.2.2.2.1
  rw [hM] at ho
  exact va_ldcS hc.1 hc.2.1 ho (hks.2.2.1 i q hq) hd1 (kk p e s m args below meth c H locs Z ls hc hn hks hr hi hlo hl)
theorem x_strV {i idx : Nat} (hd : dok M.2.1 (pc, .getfield idx, 3, nx, tg)) (hi9 : i < 13) (hlk : Cond.fieldLink M.1.cls idx "java/lang/String" "value" "[B" ∈ tbG) (kk : RunX l G M R nx L (vr (1030 + i) :: st) S ca sl Q) : RunX l G M R pc L (vr (1010 + i) :: st) S ca sl Q := by
  intro p e s m args below meth c H locs Z ls hc hn hks hr hi hlo hl
  obtain ⟨hd1, hd2, hd3⟩ := hd
  dsimp only at hd1 hd2 hd3
  subst hd2
  obtain ⟨cf, k, fi, f, cell, h1, h2, h3, h4, h5, h6⟩ := (hks.2.2.2.1.1 i hi9).2.2.1
  exact W.getf hc.1 hc.2.1 hc.2.2.2.1 (hc.2.2.2.2 _ hlk) h1 h2 (x_below hi h3 h6) h4 h5 rfl rfl hd1 (kk p e s m args below meth c H locs Z ls hc hn hks hr hi hlo hl)
theorem x_strC {i idx : Nat} (hd : dok M.2.1 (pc, .getfield idx, 3, nx, tg)) (hi9 : i < 13) (hlk : Cond.fieldLink M.1.cls idx "java/lang/String" "coder" "B" ∈ tbG) (kk : RunX l G M R nx L (vi 0 :: st) S ca sl Q) : RunX l G M R pc L (vr (1010 + i) :: st) S ca sl Q := by
  intro p e s m args below meth c H locs Z ls hc hn hks hr hi hlo hl
  obtain ⟨hd1, hd2, hd3⟩ := hd
  dsimp only at hd1 hd2 hd3
  subst hd2
  obtain ⟨cf, k, fi, f, cell, h1, h2, h3, h4, h5, h6⟩ := (hks.2.2.2.1.1 i hi9).2.1
  exact W.getf hc.1 hc.2.1 hc.2.2.2.1 (hc.2.2.2.2 _ hlk) h1 h2 (x_below hi h3 h6) h4 h5 rfl rfl hd1 (kk p e s m args below meth c H locs Z ls hc hn hks hr hi hlo hl)
theorem x_strL {i n : Nat} (hd : dok M.2.1 (pc, .arraylength, 1, nx, tg)) (hi9 : i < 13) (hn9 : lenq.getD i 0 = n) (kk : RunX l G M R nx L (vi n :: st) S ca sl Q) : RunX l G M R pc L (vr (1030 + i) :: st) S ca sl Q := by
  intro p e s m args below meth c H locs Z ls hc hn hks hr hi hlo hl
  obtain ⟨hd1, hd2, hd3⟩ := hd
  dsimp only at hd1 hd2 hd3
  subst hd2
  subst hn9
  obtain ⟨cell, h1, h2, h3, h4, h5, h6, h7⟩ := (hks.2.2.2.1.1 i hi9).2.2.2
  exact W.alen (n := Int32.ofInt (lenq.getD i 0)) hc.1 hc.2.1 (x_below hi h1 h7) h2 (by rw [h5, o_nat]) rfl rfl hd1 (kk p e s m args below meth c H locs Z ls hc hn hks hr hi hlo hl)
theorem x_strB {i : Nat} {z v : Int} (hd : dok M.2.1 (pc, .baload, 1, nx, tg)) (hi9 : i < 13) (hz : 0 ≤ z ∧ z < lenq.getD i 0) (hln : lenq.getD i 0 < 100) (hv : (bytq.getD i []).getD z.toNat 0 = Int32.ofInt v) (kk : RunX l G M R nx L (vi v :: st) S ca sl Q) : RunX l G M R pc L (vi z :: vr (1030 + i) :: st) S ca sl Q := by
  intro p e s m args below meth c H locs Z ls hc hn hks hr hi hlo hl
  obtain ⟨hd1, hd2, hd3⟩ := hd
  dsimp only at hd1 hd2 hd3
  subst hd2
  obtain ⟨cell, h1, h2, h3, h4, h5, h6, h7⟩ := (hks.2.2.2.1.1 i hi9).2.2.2
  refine W.bald (v := .int (Int32.ofInt v)) hc.1 hc.2.1 (x_below hi h1 h7) h2 h3 (x_Tin hz h4 (by omega)) ?_ rfl rfl hd1 (kk p e s m args below meth c H locs Z ls hc hn hks hr hi hlo hl)
  rw [o32_ix hz.1 (by omega), ← hv]
  exact h6 _ (by omega)
theorem x_i2c {z : Int} (hd : dok M.2.1 (pc, .i2c, 1, nx, tg)) (hz : 0 ≤ z ∧ z < 65536) (kk : RunX l G M R nx L (vi z :: st) S ca sl Q) : RunX l G M R pc L (vi z :: st) S ca sl Q := by
  intro p e s m args below meth c H locs Z ls hc hn hks hr hi hlo hl
  obtain ⟨hd1, hd2, hd3⟩ := hd
  dsimp only at hd1 hd2 hd3
  subst hd2
  refine lv_i2c hc.1 hc.2.1 hd1 (v := Int32.ofInt z) ?_ (kk p e s m args below meth c H locs Z ls hc hn hks hr hi hlo hl)
  rw [pk_char, show (Int32.ofInt z).toBitVec.toNat = z.toNat by
    rw [show Int32.ofInt z = nI z.toNat by unfold nI; rw [← Int32.ofInt_eq_ofNat, Int.toNat_of_nonneg hz.1]]
    exact pk_tn (by omega), Nat.mod_eq_of_lt (by omega)]
  unfold nI
  rw [← Int32.ofInt_eq_ofNat, Int.toNat_of_nonneg hz.1]
theorem x_ldcw {z : Int} {v : Int32} {idx : Nat} (hd : dok M.2.1 (pc, .ldc_w idx, 3, nx, tg)) (hw : Jvm.Cond.constant M.1.cls idx v ∈ tbG) (hz : v = Int32.ofInt z) (kk : RunX l G M R nx L (vi z :: st) S ca sl Q) : RunX l G M R pc L st S ca sl Q := by
  intro p e s m args below meth c H locs Z ls hc hn hks hr hi hlo hl
  obtain ⟨hd1, hd2, hd3⟩ := hd
  dsimp only at hd1 hd2 hd3
  subst hd2
  refine lv_ldcw hc.1 hc.2.1 hc.2.2.2.1 (hc.2.2.2.2 _ hw) hd1 ?_
  rw [hz]
  exact kk p e s m args below meth c H locs Z ls hc hn hks hr hi hlo hl
theorem x_lret {z : Int} (hd : dok M.2.1 (pc, .lreturn, 1, nx, tg)) (hok : rokq M.2.2.2 (some (vl z))) (hq : Q (some (vl z)) S) : RunX l G M R pc L [vl z] S 0 0 Q := x_ret (r := some (vl z)) hd hok (Nat.zero_le _) (Nat.zero_le _) hq
theorem x_popr {r : Option Nat} (hd : dok M.2.1 (pc, .pop, 1, nx, tg)) (kk : RunX l G M R nx L st S ca sl Q) : RunX l G M R pc L (.inr (.inr r) :: st) S ca sl Q := by
  intro p e s m args below meth c H locs Z ls hc hn hks hr hi hlo hl
  obtain ⟨hd1, hd2, hd3⟩ := hd
  dsimp only at hd1 hd2 hd3
  subst hd2
  exact lv_pop hc.1 hc.2.1 hd1 (by cases r <;> rfl) (kk p e s m args below meth c H locs Z ls hc hn hks hr hi hlo hl)
/-- a method of a text constant is called -/
theorem x_callVS {K : MI} {d n idx i : Nat} {As rest : List AV} {Q1 : Option AV → WS → Prop} (hd : dok M.2.1 (pc, .invokevirtual idx, 3, nx, tg)) (hlk : Cond.methodLink M.1.cls idx K.1 ∈ tbG) (hm : mvq K n) (hi9 : i < 13) (hK : K.1.cls = "java/lang/String") (hct : Ct l G K d 0 0 (vr (1010 + i) :: As) S Q1) (hR : d + 1 ≤ R.frames ∧ 8 + (K.2.2.1 + 11) + 40 * d ≤ R.locals) (hca : ca + 0 ≤ R.cells ∧ sl + 0 ≤ R.slots) (hst : st = As.reverse ++ vr (1010 + i) :: rest) (hn : As.length = n) (hcat : catq rest ≤ 8)
    (kk : ∀ (r : Option AV) (S' : WS), Q1 r S' → RunX l G M R nx L (r.toList ++ rest) S' ca sl Q) : RunX l G M R pc L st S ca sl Q := by
  intro p e s m args below meth c H locs Z ls hc hnm hks hr hi hlo hl
  obtain ⟨hd1, hd2, hd3⟩ := hd
  dsimp only at hd1 hd2 hd3
  subst hd2
  subst hst
  obtain ⟨⟨m1, m2, m3⟩, m4, m5⟩ := hm
  have hT : GoodIn tbG (wsV M.1.cls idx K.1.cls K.1 (Cwq K)) := by
    intro w hw
    rcases List.mem_append.mp hw with h | h
    · simp only [List.mem_cons, List.not_mem_nil, or_false] at h
      rcases h with rfl | rfl | rfl | rfl
      · exact good_in hlk
      · exact good_in m4
      · exact good_in m5
      · exact good_in m2
    · exact Cwq_good m1 w h
  obtain ⟨cell, q1, q2, q3, q4⟩ := (hks.2.2.2.1.1 i hi9).1
  refine x_back (rest := rest) (hrun := va_runV (As := As.map (cvl G)) hc hct (cwV (bytes := K.2.1) (maxL := K.2.2.1) (ret := K.2.2.2) n hc.2.2.2.2 hT rfl rfl rfl ⟨rfl, m3⟩ hR) (b := adr G (1010 + i)) ⟨Invq.blind, ⟨cell, x_below hi q1 q4, q2, by rw [hK]; exact q3⟩, fun U hU hW => ⟨rfl, by rw [hU]; exact hi.moved hW.alike, hks.warm hW⟩⟩ rfl (by rw [List.length_map]; exact hn) hl.1 (by show List.map (cvl G) (As.reverse ++ vr (1010 + i) :: rest) = _; rw [List.map_append, List.map_reverse]; rfl) (lv_room (by rw [catq_sum]; exact hcat)) hd1 hca) hlo ?_
  intro r S' H1 locs1 hq hI hlo1
  exact kk r S' hq p e s m args below meth c H1 locs1 Z ls hc hnm hks hr hI hlo1 hl
end XS
end
section
/-! what is made: objects and arrays, the next cell -/
section XN
variable {l : Launch} {G : GC} {M : MI} {R : Room} {pc nx tg : Nat} {L : List (Option AV)} {st : List AV} {ca sl : Nat} {Q : Option AV → WS → Prop} {n0 : Nat} {ρ : Nat → Int → Option Nat} {σ : Nat → Int → Int}
theorem x_objinit {idx k : Nat} {S : WS} (hd : dok M.2.1 (pc, .invokespecial idx, 3, nx, tg)) (hlk : Cond.methodLink M.1.cls idx Lib.objectInit ∈ tbG) (h2 : Cond.instanceMethod Lib.objectInit ∈ tbG) (h3 : Cond.code Lib.objectInit ⟨#[0xb1]⟩ 1 none ∈ tbG) (hR : 1 ≤ R.frames ∧ catq st + 12 ≤ R.locals) (kk : RunX l G M R nx L st S ca sl Q) : RunX l G M R pc L (vr k :: st) S ca sl Q := by
  intro p e s m args below meth c H locs Z ls hc hn hks hr hi hlo hl
  obtain ⟨hd1, hd2, hd3⟩ := hd
  dsimp only at hd1 hd2 hd3
  subst hd2
  exact W.objInit hc.1 hc.2.1 hc.2.2.2.1 (hc.2.2.2.2 _ hlk) (hc.2.2.2.2 _ h2) (hc.2.2.2.2 _ h3) (g := F0 m pc ls (List.map (cvl G) (vr k :: st))) (rest := st.map (cvl G)) rfl (by rw [hc.2.2.1]; exact hl.1) rfl hd1 hR.1 (by rw [catq_sum]; show 2 * 0 + _ + 12 ≤ _; omega) (kk p e s m args below meth c H locs Z ls hc hn hks hr hi hlo hl)
/-- a new cell behind the others -/
theorem Invq.push {U : State} {H H' : Heap} {ρ' : Nat → Int → Option Nat} {σ' : Nat → Int → Int} (h : Invq G (n0, ρ, σ) U H) (h9 : n0 + 1 ≤ 175) (hs : H'.size = H.size + 1) (ho : ∀ q, q < H.size → H'[q]? = H[q]?) (hρ : ∀ a, a < n0 → ρ' a = ρ a) (hσ : ∀ a, a < n0 → σ' a = σ a) (hc : cellq G ρ' σ' U H' n0) : Invq G (n0 + 1, ρ', σ') U H' := by
  obtain ⟨⟨h1, h0⟩, h2, h3⟩ := h
  have h1 : H.size = G.1 + n0 := h1
  refine ⟨⟨by rw [hs, h1]; omega, h9⟩, fun q hq => ?_, fun a ha => ?_⟩
  · rw [ho q (by omega)]; exact h2 q hq
  · by_cases e : a = n0
    · subst e; exact hc
    · have ha : a < n0 + 1 := ha
      have ha2 : a < n0 := by omega
      refine (h3 a ha2).kept (ho _ ?_) (hρ a ha2) (hσ a ha2)
      rw [adr_lt (by omega)]; omega
theorem x_new {idx ci N : Nat} {C : String} {T : u_T} {ty : Nat → FieldType} (hd : dok M.2.1 (pc, .new idx, 3, nx, tg)) (hcl : clkq ci C T N ty) (hty : ∀ j, j < N → (fI ci j = true → ty j = .int) ∧ (fI ci j = false → (∃ n, ty j = .object n) ∨ ∃ t, ty j = .array t)) (hlk : Cond.classLink M.1.cls idx C ∈ tbG) (h2 : Cond.instantiable C N ∈ tbG) (h3 : Cond.initialized C ∈ tbG) (hs : shp n0 = (ci, N)) (h9 : n0 + 1 ≤ 175) (hca : ca + 1 ≤ R.cells ∧ sl + N ≤ R.slots) (hz : σ n0 = fun _ => 0) (hρ : ρ n0 = fun _ => none) (kk : RunX l G M R nx L (vr n0 :: st) (n0 + 1, ρ, σ) (ca + 1) (sl + N) Q) : RunX l G M R pc L st (n0, ρ, σ) ca sl Q := by
  intro p e s m args below meth c H locs Z ls hc hn hks hr hi hlo hl
  obtain ⟨hd1, hd2, hd3⟩ := hd
  dsimp only at hd1 hd2 hd3
  subst hd2
  obtain ⟨hcl, hin, hpt, hnm, hci⟩ := hcl
  have hKn := hks.1.1 ci _ hcl
  have hsz : H.size = adr G n0 := by rw [adr_lt (by omega)]; exact hi.1.1
  refine W.newcK hc.1 hc.2.1 hc.2.2.2.1 (hc.2.2.2.2 _ hlk) (hc.2.2.2.2 _ h2) (hc.2.2.2.2 _ h3) rfl hd1 hca.1 hca.2 hKn.2.1 hsz (fun H1 kC hkC e1 z1 o1 => ?_)
  have hI : Invq G (n0 + 1, ρ, σ) s H1 := by
    refine hi.push h9 (by rw [z1, ← hsz]) (fun q hq => o1 q (by rw [← hsz]; exact hq)) (fun _ _ => rfl) (fun _ _ => rfl) ?_
    rw [cellq_obj hci hs]
    refine (u_born ty hc.2.2.2.2 hin hKn hkC e1 hpt).to (fun j hj => ?_)
    unfold fvl
    rw [hz, hρ]
    cases hf : fI ci j with
    | true => rw [(hty j hj).1 hf, if_pos rfl]; rfl
    | false =>
      rw [if_neg (by decide)]
      rcases (hty j hj).2 hf with ⟨n, h⟩ | ⟨n, h⟩ <;> rw [h] <;> rfl
  exact kk p e s m args below meth c H1 locs Z ls hc hn hks hr hI hlo hl
theorem o32_cl {z : Int} {N : Nat} (h : z = (N : Int)) (hN : N ≤ 256) : ¬ Int32.ofInt z < 0 ∧ (Int32.ofInt z).toNatClampNeg = N := by
  subst h
  rw [o32_0, o32_lt (by omega) (by decide), o32_ix (by omega) (by omega)]
  omega
theorem x_newa {at9 : ArrayType} {ty : FieldType} {kd N : Nat} {z : Int} (hd : dok M.2.1 (pc, .newarray at9, 2, nx, tg)) (ht : newarray.typeOf at9 = ty) (hkd : (kd = 12 ∧ ty = .int) ∨ (kd = 13 ∧ ty = .boolean) ∨ (kd = 14 ∧ ty = .long)) (hw : Cond.arrayClass ty ∈ tbG) (hzN : z = (N : Int)) (hN : N ≤ 256) (hs : shp n0 = (kd, N)) (h9 : n0 + 1 ≤ 175) (hca : ca + 1 ≤ R.cells ∧ sl + N ≤ R.slots) (hz : σ n0 = fun _ => 0) (kk : RunX l G M R nx L (vr n0 :: st) (n0 + 1, ρ, σ) (ca + 1) (sl + N) Q) : RunX l G M R pc L (vi z :: st) (n0, ρ, σ) ca sl Q := by
  intro p e s m args below meth c H locs Z ls hc hn hks hr hi hlo hl
  obtain ⟨hd1, hd2, hd3⟩ := hd
  dsimp only at hd1 hd2 hd3
  subst hd2
  subst ht
  have hsz : H.size = adr G n0 := by rw [adr_lt (by omega)]; exact hi.1.1
  obtain ⟨hz1, hz2⟩ := o32_cl hzN hN
  refine va_newaK hc.1 hc.2.1 (hc.2.2.2.2 _ hw) rfl hd1 (rest := st.map (cvl G)) rfl hz1 hz2 ?_ hca.1 hca.2 hsz (fun H1 cA e1 z1 o1 hAr hNm => ?_)
  · rcases hkd with ⟨-, h⟩ | ⟨-, h⟩ | ⟨-, h⟩ <;> rw [h] <;> simp [componentBytes] <;> omega
  have hI : Invq G (n0 + 1, ρ, σ) s H1 := by
    refine hi.push h9 (by rw [z1, ← hsz]) (fun q hq => o1 q (by rw [← hsz]; exact hq)) (fun _ _ => rfl) (fun _ _ => rfl) ?_
    unfold cellq
    rw [hs]
    rcases hkd with ⟨rfl, h⟩ | ⟨rfl, h⟩ | ⟨rfl, h⟩
    · rw [h] at e1 hAr
      refine ⟨cA, ?_, hAr⟩
      rw [e1, hz]; rfl
    · rw [h] at e1 hAr
      refine ⟨cA, ?_, hAr⟩
      rw [e1, hz]; rfl
    · rw [h] at e1 hAr
      refine ⟨cA, ?_, hAr⟩
      rw [e1, hz]; rfl
  exact kk p e s m args below meth c H1 locs Z ls hc hn hks hr hI hlo hl
theorem vr_outer2 (c : ClassId) (N h0 : Nat) : ∀ i : Nat, Jvm.Free.Multi.outerC c N h0 i = arrV c N (fun j => va_rf (if j < i then some (h0 + 1 + j) else none))
  | 0 => by
    show ({ cls := c, slots := Array.replicate N .null, vm := .none } : Cell) = _
    rw [arrV_new]
    refine congrArg (arrV c N) (funext fun j => ?_)
    simp [va_rf]
  | i + 1 => by
    show (Jvm.Free.Multi.outerC c N h0 i).setSlot i (.ref (h0 + 1 + i)) = _
    rw [vr_outer2 c N h0 i, arrV_store]
    refine congrArg (arrV c N) (funext fun j => ?_)
    by_cases e : j = i
    · subst e
      simp [updV, va_rf]
    · by_cases h : j < i
      · simp [updV, e, h, Nat.lt_succ_of_lt h]
      · simp [updV, e, h, show ¬ j < i + 1 by omega]
/-- new int[8][K]: the outer array, then its rows -/
theorem x_mna {idx K : Nat} {z w : Int} (hd : dok M.2.1 (pc, .multianewarray idx 2, 4, nx, tg)) (hlk : Cond.classLink M.1.cls idx "[[I" ∈ tbG) (hov : Cond.arrayOver (.array .int) ∈ tbG) (har : Cond.arrayClass .int ∈ tbG) (hz8 : z = 8) (hwK : w = (K : Int)) (hK : K ≤ 256) (hs : shp n0 = (15, 8)) (hsr : ∀ i, i < 8 → shp (n0 + 1 + i) = (12, K)) (h9 : n0 + 9 ≤ 175) (hca : ca + 9 ≤ R.cells ∧ sl + (8 + 8 * K) ≤ R.slots) (hz : ∀ i, i < 9 → σ (n0 + i) = fun _ => 0) {ρ' : Nat → Int → Option Nat} (hρ : ∀ a, a < n0 → ρ' a = ρ a) (hρn : ∀ j : Nat, j < 8 → ρ' n0 j = some (n0 + 1 + j)) (kk : RunX l G M R nx L (vr n0 :: st) (n0 + 9, ρ', σ) (ca + 9) (sl + (8 + 8 * K)) Q) : RunX l G M R pc L (vi w :: vi z :: st) (n0, ρ, σ) ca sl Q := by
  intro p e s m args below meth c H locs Z ls hc hn hks hr hi hlo hl
  obtain ⟨hd1, hd2, hd3⟩ := hd
  dsimp only at hd1 hd2 hd3
  subst hd2
  have hsz : H.size = G.1 + n0 := hi.1.1
  obtain ⟨hz1, hz2⟩ := o32_cl (N := 8) (z := z) hz8 (by decide)
  obtain ⟨hw1, hw2⟩ := o32_cl hwK hK
  intro T hT Xs
  obtain ⟨vm₁, cA, comp, -, fA, fC, hO, hIn, X', step⟩ := Xs.multianewarray2F (ty := .int) hc.1 hc.2.2.2.1 (hc.2.2.2.2 _ hlk) (hc.2.2.2.2 _ hov) (hc.2.2.2.2 _ har) (g := F0 m pc ls (List.map (cvl G) (vi w :: vi z :: st))) rfl (by rw [hc.2.1]; exact hd1) (rest := st.map (cvl G)) rfl hz1 hw1 (by rw [hz2]; decide) (by rw [hw2]; simp [componentBytes]; omega) (by rw [hw2]; omega) rfl rfl (by rw [hz2]; exact hca.1) (by rw [hz2, hw2]; exact hca.2)
  rw [hz2, hw2] at X' step
  generalize hF : Jvm.Free.Multi.fill (T.setVm vm₁) cA comp 8 K (defaultValue .int) 8 = F at X' step
  have hTh : (T.setVm vm₁).heap = H := hT
  obtain ⟨f1, f2, -, -⟩ := Jvm.Free.Multi.fill_facts (T.setVm vm₁) cA comp 8 K (defaultValue .int) 8
  rw [hF, hTh] at f1 f2
  have hold : ∀ x : Nat, x < H.size → F.heap[x]? = H[x]? := fun x hx => by
    have := Jvm.Free.Multi.fill_old (T.setVm vm₁) cA comp 8 K (defaultValue .int) (a := x) (by rw [hTh]; exact hx) 8
    rw [hF, hTh] at this
    exact this
  have hrow : ∀ j : Nat, j < 8 → F.heap[H.size + 1 + j]? = some (arrV comp K (fun _ => .int 0)) := fun j hj => by
    have := Jvm.Free.Multi.fill_inner (T.setVm vm₁) cA comp 8 K (defaultValue .int) 8 j hj
    rw [hF, hTh] at this
    rw [this]
    show some ({ cls := comp, slots := Array.replicate K _, vm := .none } : Cell) = _
    rw [arrV_new]; rfl
  rw [vr_outer2] at f2
  have hAr : ArrOfT s cA (.array .int) := fun N9 z9 => by
    obtain ⟨-, k9, hk9, cm9, hkk9⟩ := (hO 0 0 0).1
    exact ⟨(fun q hq => by cases hq), k9, hk9, cm9, hkk9⟩
  have hArI : ArrOfT s comp .int := fun N9 z9 => by
    obtain ⟨-, k9, hk9, cm9, hkk9⟩ := (hIn 0 .null).1
    exact ⟨(fun q hq => by cases hq), k9, hk9, cm9, hkk9⟩
  have hI : Invq G (n0 + 9, ρ', σ) s F.heap := by
    refine ⟨⟨by rw [f1, hsz]; omega, h9⟩, fun q hq => by rw [hold q (by omega)]; exact hi.2.1 q hq, fun a ha => ?_⟩
    have ha : a < n0 + 9 := ha
    by_cases e1 : a < n0
    · refine (hi.2.2 a e1).kept (hold _ ?_) (hρ a e1) rfl
      rw [adr_lt (by omega)]; omega
    · by_cases e2 : a = n0
      · subst e2
        unfold cellq
        rw [hs]
        refine ⟨cA, ?_, hAr⟩
        rw [adr_lt (by omega), ← hsz, f2]
        refine congrArg some ?_
        unfold arrV
        congr 1
        refine congrArg (Array.ofFn (n := 8)) (funext fun j => ?_)
        show va_rf _ = crf G (ρ' a _)
        rw [hρn j.val j.isLt, if_pos j.isLt]
        show Value.ref (H.size + 1 + j.val) = .ref (adr G (a + 1 + j.val))
        rw [adr_lt (by omega), hsz]
        exact congrArg Value.ref (show (G.1 + a + 1 + j.val : Nat) = G.1 + (a + 1 + j.val) by omega)
      · obtain ⟨i, hi8, rfl⟩ : ∃ i, i < 8 ∧ a = n0 + 1 + i := ⟨a - n0 - 1, by omega, by omega⟩
        unfold cellq
        rw [hsr i hi8]
        refine ⟨comp, ?_, hArI⟩
        have hzi := hz (i + 1) (by omega)
        rw [show n0 + (i + 1) = n0 + 1 + i by omega] at hzi
        rw [adr_lt (by omega), show G.1 + (n0 + 1 + i) = H.size + 1 + i by omega, hrow i hi8]
        show _ = some (arrV comp K fun j => Value.int (Int32.ofInt (σ (n0 + 1 + i) j)))
        rw [hzi]
        rfl
  rw [show sl + 8 + 8 * K = sl + (8 + 8 * K) by omega] at X'
  obtain ⟨t, a1, b1⟩ := kk p e s m args below meth c F.heap locs Z ls hc hn hks hr hI hlo hl F rfl X'
  refine ⟨t, step t ?_, b1⟩
  have e : T.heap.size = adr G n0 := by rw [hT, adr_lt (by omega)]; exact hsz
  rw [e]
  exact a1
end XN
end
