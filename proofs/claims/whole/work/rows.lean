section
-- ===== PART A: goes FIRST, ahead of the names: the tables' words, and 'selects' of the private methods out of them =====
/-- a private method of a class that the tables say can be made, by its rows of tables_1 -/
def lw_okq (q : MethodName × Nat) : Prop := (q.1.cls ≠ "java/lang/invoke/MethodHandle" ∧ q.1.cls ≠ "java/lang/invoke/VarHandle") ∧ Cond.instantiable q.1.cls q.2 ∈ tables_1 ∧ Cond.privateMethod q.1 ∈ tables_1 ∧ Cond.instanceMethod q.1 ∈ tables_1
theorem lw_p0 : lw_okq (⟨"WharfPapers", "isTarget", "(II)Z"⟩, 15) := ⟨⟨by decide +kernel, by decide +kernel⟩, List.mem_of_getElem? (i := 20) (by decide +kernel), List.mem_of_getElem? (i := 510) (by decide +kernel), List.mem_of_getElem? (i := 511) (by decide +kernel)⟩
theorem lw_p1 : lw_okq (⟨"WharfPapers$Story", "clear", "()V"⟩, 16) := ⟨⟨by decide +kernel, by decide +kernel⟩, List.mem_of_getElem? (i := 200) (by decide +kernel), List.mem_of_getElem? (i := 541) (by decide +kernel), List.mem_of_getElem? (i := 542) (by decide +kernel)⟩
theorem lw_p2 : lw_okq (⟨"WharfPapers$Story", "isDone", "(I)Z"⟩, 16) := ⟨⟨by decide +kernel, by decide +kernel⟩, List.mem_of_getElem? (i := 200) (by decide +kernel), List.mem_of_getElem? (i := 550) (by decide +kernel), List.mem_of_getElem? (i := 551) (by decide +kernel)⟩
theorem lw_p3 : lw_okq (⟨"WharfPapers$Story", "issue", "(II)Z"⟩, 16) := ⟨⟨by decide +kernel, by decide +kernel⟩, List.mem_of_getElem? (i := 200) (by decide +kernel), List.mem_of_getElem? (i := 554) (by decide +kernel), List.mem_of_getElem? (i := 555) (by decide +kernel)⟩
theorem lw_p4 : lw_okq (⟨"WharfPapers$Story", "make", "(IIIII)V"⟩, 16) := ⟨⟨by decide +kernel, by decide +kernel⟩, List.mem_of_getElem? (i := 200) (by decide +kernel), List.mem_of_getElem? (i := 558) (by decide +kernel), List.mem_of_getElem? (i := 559) (by decide +kernel)⟩
theorem lw_p5 : lw_okq (⟨"WharfPapers$Story", "pass", "(II)Z"⟩, 16) := ⟨⟨by decide +kernel, by decide +kernel⟩, List.mem_of_getElem? (i := 200) (by decide +kernel), List.mem_of_getElem? (i := 573) (by decide +kernel), List.mem_of_getElem? (i := 574) (by decide +kernel)⟩
theorem lw_p6 : lw_okq (⟨"WharfPapers$Terms", "hold", "(I)V"⟩, 9) := ⟨⟨by decide +kernel, by decide +kernel⟩, List.mem_of_getElem? (i := 123) (by decide +kernel), List.mem_of_getElem? (i := 581) (by decide +kernel), List.mem_of_getElem? (i := 582) (by decide +kernel)⟩
theorem lw_p7 : lw_okq (⟨"WharfPapers$Terms", "strike", "(I)V"⟩, 9) := ⟨⟨by decide +kernel, by decide +kernel⟩, List.mem_of_getElem? (i := 123) (by decide +kernel), List.mem_of_getElem? (i := 585) (by decide +kernel), List.mem_of_getElem? (i := 586) (by decide +kernel)⟩
theorem lw_p8 : lw_okq (⟨"WharfPapers$Terms", "rule", "(I)V"⟩, 9) := ⟨⟨by decide +kernel, by decide +kernel⟩, List.mem_of_getElem? (i := 123) (by decide +kernel), List.mem_of_getElem? (i := 591) (by decide +kernel), List.mem_of_getElem? (i := 592) (by decide +kernel)⟩
theorem lw_p9 : lw_okq (⟨"WharfPapers$Story", "divide", "(II)Z"⟩, 16) := ⟨⟨by decide +kernel, by decide +kernel⟩, List.mem_of_getElem? (i := 200) (by decide +kernel), List.mem_of_getElem? (i := 595) (by decide +kernel), List.mem_of_getElem? (i := 596) (by decide +kernel)⟩
theorem lw_p10 : lw_okq (⟨"WharfPapers$Story", "isBound", "(I)Z"⟩, 16) := ⟨⟨by decide +kernel, by decide +kernel⟩, List.mem_of_getElem? (i := 200) (by decide +kernel), List.mem_of_getElem? (i := 599) (by decide +kernel), List.mem_of_getElem? (i := 600) (by decide +kernel)⟩
theorem lw_p11 : lw_okq (⟨"WharfPapers$Story", "lend", "(II)Z"⟩, 16) := ⟨⟨by decide +kernel, by decide +kernel⟩, List.mem_of_getElem? (i := 200) (by decide +kernel), List.mem_of_getElem? (i := 603) (by decide +kernel), List.mem_of_getElem? (i := 604) (by decide +kernel)⟩
theorem lw_p12 : lw_okq (⟨"WharfPapers$Story", "repay", "(I)Z"⟩, 16) := ⟨⟨by decide +kernel, by decide +kernel⟩, List.mem_of_getElem? (i := 200) (by decide +kernel), List.mem_of_getElem? (i := 607) (by decide +kernel), List.mem_of_getElem? (i := 608) (by decide +kernel)⟩
theorem lw_p13 : lw_okq (⟨"WharfPapers$Story", "stop", "(II)Z"⟩, 16) := ⟨⟨by decide +kernel, by decide +kernel⟩, List.mem_of_getElem? (i := 200) (by decide +kernel), List.mem_of_getElem? (i := 611) (by decide +kernel), List.mem_of_getElem? (i := 612) (by decide +kernel)⟩
theorem lw_p14 : lw_okq (⟨"WharfPapers$Story", "free", "(I)Z"⟩, 16) := ⟨⟨by decide +kernel, by decide +kernel⟩, List.mem_of_getElem? (i := 200) (by decide +kernel), List.mem_of_getElem? (i := 615) (by decide +kernel), List.mem_of_getElem? (i := 616) (by decide +kernel)⟩
theorem lw_p15 : lw_okq (⟨"WharfPapers$Story", "handOut", "(II)Z"⟩, 16) := ⟨⟨by decide +kernel, by decide +kernel⟩, List.mem_of_getElem? (i := 200) (by decide +kernel), List.mem_of_getElem? (i := 619) (by decide +kernel), List.mem_of_getElem? (i := 620) (by decide +kernel)⟩
def lw_privs_1 : List (MethodName × Nat) := [(⟨"WharfPapers", "isTarget", "(II)Z"⟩, 15), (⟨"WharfPapers$Story", "clear", "()V"⟩, 16), (⟨"WharfPapers$Story", "isDone", "(I)Z"⟩, 16), (⟨"WharfPapers$Story", "issue", "(II)Z"⟩, 16), (⟨"WharfPapers$Story", "make", "(IIIII)V"⟩, 16), (⟨"WharfPapers$Story", "pass", "(II)Z"⟩, 16), (⟨"WharfPapers$Terms", "hold", "(I)V"⟩, 9), (⟨"WharfPapers$Terms", "strike", "(I)V"⟩, 9), (⟨"WharfPapers$Terms", "rule", "(I)V"⟩, 9), (⟨"WharfPapers$Story", "divide", "(II)Z"⟩, 16), (⟨"WharfPapers$Story", "isBound", "(I)Z"⟩, 16), (⟨"WharfPapers$Story", "lend", "(II)Z"⟩, 16), (⟨"WharfPapers$Story", "repay", "(I)Z"⟩, 16), (⟨"WharfPapers$Story", "stop", "(II)Z"⟩, 16), (⟨"WharfPapers$Story", "free", "(I)Z"⟩, 16), (⟨"WharfPapers$Story", "handOut", "(II)Z"⟩, 16)]
theorem lw_r1 : ∀ q ∈ lw_privs_1, lw_okq q := List.forall_mem_cons.mpr ⟨lw_p0, List.forall_mem_cons.mpr ⟨lw_p1, List.forall_mem_cons.mpr ⟨lw_p2, List.forall_mem_cons.mpr ⟨lw_p3, List.forall_mem_cons.mpr ⟨lw_p4, List.forall_mem_cons.mpr ⟨lw_p5, List.forall_mem_cons.mpr ⟨lw_p6, List.forall_mem_cons.mpr ⟨lw_p7, List.forall_mem_cons.mpr ⟨lw_p8, List.forall_mem_cons.mpr ⟨lw_p9, List.forall_mem_cons.mpr ⟨lw_p10, List.forall_mem_cons.mpr ⟨lw_p11, List.forall_mem_cons.mpr ⟨lw_p12, List.forall_mem_cons.mpr ⟨lw_p13, List.forall_mem_cons.mpr ⟨lw_p14, List.forall_mem_cons.mpr ⟨lw_p15, fun _ h => absurd h List.not_mem_nil⟩⟩⟩⟩⟩⟩⟩⟩⟩⟩⟩⟩⟩⟩⟩⟩
theorem lw_p16 : lw_okq (⟨"WharfPapers$Story", "burn", "(II)Z"⟩, 16) := ⟨⟨by decide +kernel, by decide +kernel⟩, List.mem_of_getElem? (i := 200) (by decide +kernel), List.mem_of_getElem? (i := 623) (by decide +kernel), List.mem_of_getElem? (i := 624) (by decide +kernel)⟩
theorem lw_p17 : lw_okq (⟨"WharfPapers$Story", "steal", "(II)Z"⟩, 16) := ⟨⟨by decide +kernel, by decide +kernel⟩, List.mem_of_getElem? (i := 200) (by decide +kernel), List.mem_of_getElem? (i := 627) (by decide +kernel), List.mem_of_getElem? (i := 628) (by decide +kernel)⟩
theorem lw_p18 : lw_okq (⟨"WharfPapers$Reader", "skipBlanks", "()V"⟩, 9) := ⟨⟨by decide +kernel, by decide +kernel⟩, List.mem_of_getElem? (i := 160) (by decide +kernel), List.mem_of_getElem? (i := 675) (by decide +kernel), List.mem_of_getElem? (i := 676) (by decide +kernel)⟩
theorem lw_p19 : lw_okq (⟨"WharfPapers$Reader", "readClause", "(I)V"⟩, 9) := ⟨⟨by decide +kernel, by decide +kernel⟩, List.mem_of_getElem? (i := 160) (by decide +kernel), List.mem_of_getElem? (i := 679) (by decide +kernel), List.mem_of_getElem? (i := 680) (by decide +kernel)⟩
theorem lw_p20 : lw_okq (⟨"WharfPapers$Reader", "takeWord", "(II)I"⟩, 9) := ⟨⟨by decide +kernel, by decide +kernel⟩, List.mem_of_getElem? (i := 160) (by decide +kernel), List.mem_of_getElem? (i := 683) (by decide +kernel), List.mem_of_getElem? (i := 684) (by decide +kernel)⟩
theorem lw_p21 : lw_okq (⟨"WharfPapers$Reader", "isSpelled", "(Ljava/lang/String;I)Z"⟩, 9) := ⟨⟨by decide +kernel, by decide +kernel⟩, List.mem_of_getElem? (i := 160) (by decide +kernel), List.mem_of_getElem? (i := 703) (by decide +kernel), List.mem_of_getElem? (i := 704) (by decide +kernel)⟩
theorem lw_p22 : lw_okq (⟨"WharfPapers$Reader", "fail", "(II)V"⟩, 9) := ⟨⟨by decide +kernel, by decide +kernel⟩, List.mem_of_getElem? (i := 160) (by decide +kernel), List.mem_of_getElem? (i := 755) (by decide +kernel), List.mem_of_getElem? (i := 756) (by decide +kernel)⟩
theorem lw_p23 : lw_okq (⟨"WharfPapers$Reader", "readLet", "()V"⟩, 9) := ⟨⟨by decide +kernel, by decide +kernel⟩, List.mem_of_getElem? (i := 160) (by decide +kernel), List.mem_of_getElem? (i := 759) (by decide +kernel), List.mem_of_getElem? (i := 760) (by decide +kernel)⟩
theorem lw_p24 : lw_okq (⟨"WharfPapers$Reader", "takeNumber", "(I)I"⟩, 9) := ⟨⟨by decide +kernel, by decide +kernel⟩, List.mem_of_getElem? (i := 160) (by decide +kernel), List.mem_of_getElem? (i := 765) (by decide +kernel), List.mem_of_getElem? (i := 766) (by decide +kernel)⟩
theorem lw_p25 : lw_okq (⟨"WharfPapers$Reader", "keep", "(II)V"⟩, 9) := ⟨⟨by decide +kernel, by decide +kernel⟩, List.mem_of_getElem? (i := 160) (by decide +kernel), List.mem_of_getElem? (i := 769) (by decide +kernel), List.mem_of_getElem? (i := 770) (by decide +kernel)⟩
theorem lw_p26 : lw_okq (⟨"WharfPapers$Reader", "takeIf", "(C)Z"⟩, 9) := ⟨⟨by decide +kernel, by decide +kernel⟩, List.mem_of_getElem? (i := 160) (by decide +kernel), List.mem_of_getElem? (i := 773) (by decide +kernel), List.mem_of_getElem? (i := 774) (by decide +kernel)⟩
theorem lw_p27 : lw_okq (⟨"WharfPapers$Reader", "readDry", "()V"⟩, 9) := ⟨⟨by decide +kernel, by decide +kernel⟩, List.mem_of_getElem? (i := 160) (by decide +kernel), List.mem_of_getElem? (i := 777) (by decide +kernel), List.mem_of_getElem? (i := 778) (by decide +kernel)⟩
theorem lw_p28 : lw_okq (⟨"WharfPapers$Reader", "takeKeys", "()I"⟩, 9) := ⟨⟨by decide +kernel, by decide +kernel⟩, List.mem_of_getElem? (i := 160) (by decide +kernel), List.mem_of_getElem? (i := 781) (by decide +kernel), List.mem_of_getElem? (i := 782) (by decide +kernel)⟩
theorem lw_p29 : lw_okq (⟨"WharfPapers$Reader", "takeTerm", "(I)I"⟩, 9) := ⟨⟨by decide +kernel, by decide +kernel⟩, List.mem_of_getElem? (i := 160) (by decide +kernel), List.mem_of_getElem? (i := 785) (by decide +kernel), List.mem_of_getElem? (i := 786) (by decide +kernel)⟩
theorem lw_p30 : lw_okq (⟨"WharfPapers", "isAsked", "(II)Z"⟩, 15) := ⟨⟨by decide +kernel, by decide +kernel⟩, List.mem_of_getElem? (i := 20) (by decide +kernel), List.mem_of_getElem? (i := 817) (by decide +kernel), List.mem_of_getElem? (i := 818) (by decide +kernel)⟩
theorem lw_p31 : lw_okq (⟨"WharfPapers", "shareAsTold", "(IZ)I"⟩, 15) := ⟨⟨by decide +kernel, by decide +kernel⟩, List.mem_of_getElem? (i := 20) (by decide +kernel), List.mem_of_getElem? (i := 831) (by decide +kernel), List.mem_of_getElem? (i := 832) (by decide +kernel)⟩
def lw_privs_2 : List (MethodName × Nat) := [(⟨"WharfPapers$Story", "burn", "(II)Z"⟩, 16), (⟨"WharfPapers$Story", "steal", "(II)Z"⟩, 16), (⟨"WharfPapers$Reader", "skipBlanks", "()V"⟩, 9), (⟨"WharfPapers$Reader", "readClause", "(I)V"⟩, 9), (⟨"WharfPapers$Reader", "takeWord", "(II)I"⟩, 9), (⟨"WharfPapers$Reader", "isSpelled", "(Ljava/lang/String;I)Z"⟩, 9), (⟨"WharfPapers$Reader", "fail", "(II)V"⟩, 9), (⟨"WharfPapers$Reader", "readLet", "()V"⟩, 9), (⟨"WharfPapers$Reader", "takeNumber", "(I)I"⟩, 9), (⟨"WharfPapers$Reader", "keep", "(II)V"⟩, 9), (⟨"WharfPapers$Reader", "takeIf", "(C)Z"⟩, 9), (⟨"WharfPapers$Reader", "readDry", "()V"⟩, 9), (⟨"WharfPapers$Reader", "takeKeys", "()I"⟩, 9), (⟨"WharfPapers$Reader", "takeTerm", "(I)I"⟩, 9), (⟨"WharfPapers", "isAsked", "(II)Z"⟩, 15), (⟨"WharfPapers", "shareAsTold", "(IZ)I"⟩, 15)]
theorem lw_r2 : ∀ q ∈ lw_privs_2, lw_okq q := List.forall_mem_cons.mpr ⟨lw_p16, List.forall_mem_cons.mpr ⟨lw_p17, List.forall_mem_cons.mpr ⟨lw_p18, List.forall_mem_cons.mpr ⟨lw_p19, List.forall_mem_cons.mpr ⟨lw_p20, List.forall_mem_cons.mpr ⟨lw_p21, List.forall_mem_cons.mpr ⟨lw_p22, List.forall_mem_cons.mpr ⟨lw_p23, List.forall_mem_cons.mpr ⟨lw_p24, List.forall_mem_cons.mpr ⟨lw_p25, List.forall_mem_cons.mpr ⟨lw_p26, List.forall_mem_cons.mpr ⟨lw_p27, List.forall_mem_cons.mpr ⟨lw_p28, List.forall_mem_cons.mpr ⟨lw_p29, List.forall_mem_cons.mpr ⟨lw_p30, List.forall_mem_cons.mpr ⟨lw_p31, fun _ h => absurd h List.not_mem_nil⟩⟩⟩⟩⟩⟩⟩⟩⟩⟩⟩⟩⟩⟩⟩⟩
theorem lw_p32 : lw_okq (⟨"WharfPapers$Doubt", "isOf", "(LWharfPapers$Story;II)Z"⟩, 3) := ⟨⟨by decide +kernel, by decide +kernel⟩, List.mem_of_getElem? (i := 271) (by decide +kernel), List.mem_of_getElem? (i := 848) (by decide +kernel), List.mem_of_getElem? (i := 849) (by decide +kernel)⟩
theorem lw_p33 : lw_okq (⟨"WharfPapers$Doubt", "fewest", "(I)I"⟩, 3) := ⟨⟨by decide +kernel, by decide +kernel⟩, List.mem_of_getElem? (i := 271) (by decide +kernel), List.mem_of_getElem? (i := 853) (by decide +kernel), List.mem_of_getElem? (i := 854) (by decide +kernel)⟩
theorem lw_p34 : lw_okq (⟨"WharfPapers$Story", "isHadOtherwise", "(LWharfPapers$Story;I)Z"⟩, 16) := ⟨⟨by decide +kernel, by decide +kernel⟩, List.mem_of_getElem? (i := 200) (by decide +kernel), List.mem_of_getElem? (i := 880) (by decide +kernel), List.mem_of_getElem? (i := 881) (by decide +kernel)⟩
theorem lw_p35 : lw_okq (⟨"WharfPapers", "rentAsTold", "(II)I"⟩, 15) := ⟨⟨by decide +kernel, by decide +kernel⟩, List.mem_of_getElem? (i := 20) (by decide +kernel), List.mem_of_getElem? (i := 888) (by decide +kernel), List.mem_of_getElem? (i := 889) (by decide +kernel)⟩
theorem lw_p36 : lw_okq (⟨"WharfPapers", "caskWeight", "(II)I"⟩, 15) := ⟨⟨by decide +kernel, by decide +kernel⟩, List.mem_of_getElem? (i := 20) (by decide +kernel), List.mem_of_getElem? (i := 896) (by decide +kernel), List.mem_of_getElem? (i := 897) (by decide +kernel)⟩
theorem lw_p37 : lw_okq (⟨"WharfPapers", "wanted", "(IIII)I"⟩, 15) := ⟨⟨by decide +kernel, by decide +kernel⟩, List.mem_of_getElem? (i := 20) (by decide +kernel), List.mem_of_getElem? (i := 923) (by decide +kernel), List.mem_of_getElem? (i := 924) (by decide +kernel)⟩
theorem lw_p38 : lw_okq (⟨"WharfPapers", "unpaidFor", "(I)I"⟩, 15) := ⟨⟨by decide +kernel, by decide +kernel⟩, List.mem_of_getElem? (i := 20) (by decide +kernel), List.mem_of_getElem? (i := 931) (by decide +kernel), List.mem_of_getElem? (i := 932) (by decide +kernel)⟩
theorem lw_p39 : lw_okq (⟨"WharfPapers$Sales", "mostGroups", "(I)I"⟩, 8) := ⟨⟨by decide +kernel, by decide +kernel⟩, List.mem_of_getElem? (i := 316) (by decide +kernel), List.mem_of_getElem? (i := 961) (by decide +kernel), List.mem_of_getElem? (i := 962) (by decide +kernel)⟩
theorem lw_p40 : lw_okq (⟨"WharfPapers$Dues", "begin", "()V"⟩, 10) := ⟨⟨by decide +kernel, by decide +kernel⟩, List.mem_of_getElem? (i := 348) (by decide +kernel), List.mem_of_getElem? (i := 986) (by decide +kernel), List.mem_of_getElem? (i := 987) (by decide +kernel)⟩
theorem lw_p41 : lw_okq (⟨"WharfPapers$Dues", "receive", "()V"⟩, 10) := ⟨⟨by decide +kernel, by decide +kernel⟩, List.mem_of_getElem? (i := 348) (by decide +kernel), List.mem_of_getElem? (i := 990) (by decide +kernel), List.mem_of_getElem? (i := 991) (by decide +kernel)⟩
theorem lw_p42 : lw_okq (⟨"WharfPapers$Dues", "isRoundChanging", "()Z"⟩, 10) := ⟨⟨by decide +kernel, by decide +kernel⟩, List.mem_of_getElem? (i := 348) (by decide +kernel), List.mem_of_getElem? (i := 994) (by decide +kernel), List.mem_of_getElem? (i := 995) (by decide +kernel)⟩
theorem lw_p43 : lw_okq (⟨"WharfPapers$Dues", "partOf", "(II)I"⟩, 10) := ⟨⟨by decide +kernel, by decide +kernel⟩, List.mem_of_getElem? (i := 348) (by decide +kernel), List.mem_of_getElem? (i := 998) (by decide +kernel), List.mem_of_getElem? (i := 999) (by decide +kernel)⟩
theorem lw_p44 : lw_okq (⟨"WharfPapers$Plan", "choose", "(II)V"⟩, 7) := ⟨⟨by decide +kernel, by decide +kernel⟩, List.mem_of_getElem? (i := 391) (by decide +kernel), List.mem_of_getElem? (i := 1028) (by decide +kernel), List.mem_of_getElem? (i := 1029) (by decide +kernel)⟩
theorem lw_p45 : lw_okq (⟨"WharfPapers$Plan", "gather", "(LWharfPapers$Lots;LWharfPapers$Story;)V"⟩, 7) := ⟨⟨by decide +kernel, by decide +kernel⟩, List.mem_of_getElem? (i := 391) (by decide +kernel), List.mem_of_getElem? (i := 1032) (by decide +kernel), List.mem_of_getElem? (i := 1033) (by decide +kernel)⟩
theorem lw_p46 : lw_okq (⟨"WharfPapers$Plan", "priceOn", "(ILWharfPapers$Lots;LWharfPapers$Story;)V"⟩, 7) := ⟨⟨by decide +kernel, by decide +kernel⟩, List.mem_of_getElem? (i := 391) (by decide +kernel), List.mem_of_getElem? (i := 1038) (by decide +kernel), List.mem_of_getElem? (i := 1039) (by decide +kernel)⟩
theorem lw_p47 : lw_okq (⟨"WharfPapers$Plan", "shut", "(II[I)V"⟩, 7) := ⟨⟨by decide +kernel, by decide +kernel⟩, List.mem_of_getElem? (i := 391) (by decide +kernel), List.mem_of_getElem? (i := 1045) (by decide +kernel), List.mem_of_getElem? (i := 1046) (by decide +kernel)⟩
def lw_privs_3 : List (MethodName × Nat) := [(⟨"WharfPapers$Doubt", "isOf", "(LWharfPapers$Story;II)Z"⟩, 3), (⟨"WharfPapers$Doubt", "fewest", "(I)I"⟩, 3), (⟨"WharfPapers$Story", "isHadOtherwise", "(LWharfPapers$Story;I)Z"⟩, 16), (⟨"WharfPapers", "rentAsTold", "(II)I"⟩, 15), (⟨"WharfPapers", "caskWeight", "(II)I"⟩, 15), (⟨"WharfPapers", "wanted", "(IIII)I"⟩, 15), (⟨"WharfPapers", "unpaidFor", "(I)I"⟩, 15), (⟨"WharfPapers$Sales", "mostGroups", "(I)I"⟩, 8), (⟨"WharfPapers$Dues", "begin", "()V"⟩, 10), (⟨"WharfPapers$Dues", "receive", "()V"⟩, 10), (⟨"WharfPapers$Dues", "isRoundChanging", "()Z"⟩, 10), (⟨"WharfPapers$Dues", "partOf", "(II)I"⟩, 10), (⟨"WharfPapers$Plan", "choose", "(II)V"⟩, 7), (⟨"WharfPapers$Plan", "gather", "(LWharfPapers$Lots;LWharfPapers$Story;)V"⟩, 7), (⟨"WharfPapers$Plan", "priceOn", "(ILWharfPapers$Lots;LWharfPapers$Story;)V"⟩, 7), (⟨"WharfPapers$Plan", "shut", "(II[I)V"⟩, 7)]
theorem lw_r3 : ∀ q ∈ lw_privs_3, lw_okq q := List.forall_mem_cons.mpr ⟨lw_p32, List.forall_mem_cons.mpr ⟨lw_p33, List.forall_mem_cons.mpr ⟨lw_p34, List.forall_mem_cons.mpr ⟨lw_p35, List.forall_mem_cons.mpr ⟨lw_p36, List.forall_mem_cons.mpr ⟨lw_p37, List.forall_mem_cons.mpr ⟨lw_p38, List.forall_mem_cons.mpr ⟨lw_p39, List.forall_mem_cons.mpr ⟨lw_p40, List.forall_mem_cons.mpr ⟨lw_p41, List.forall_mem_cons.mpr ⟨lw_p42, List.forall_mem_cons.mpr ⟨lw_p43, List.forall_mem_cons.mpr ⟨lw_p44, List.forall_mem_cons.mpr ⟨lw_p45, List.forall_mem_cons.mpr ⟨lw_p46, List.forall_mem_cons.mpr ⟨lw_p47, fun _ h => absurd h List.not_mem_nil⟩⟩⟩⟩⟩⟩⟩⟩⟩⟩⟩⟩⟩⟩⟩⟩
theorem lw_p48 : lw_okq (⟨"WharfPapers$Plan", "isParted", "(II[I)Z"⟩, 7) := ⟨⟨by decide +kernel, by decide +kernel⟩, List.mem_of_getElem? (i := 391) (by decide +kernel), List.mem_of_getElem? (i := 1049) (by decide +kernel), List.mem_of_getElem? (i := 1050) (by decide +kernel)⟩
theorem lw_p49 : lw_okq (⟨"WharfPapers$Plan", "openFloor", "()V"⟩, 7) := ⟨⟨by decide +kernel, by decide +kernel⟩, List.mem_of_getElem? (i := 391) (by decide +kernel), List.mem_of_getElem? (i := 1053) (by decide +kernel), List.mem_of_getElem? (i := 1054) (by decide +kernel)⟩
theorem lw_p50 : lw_okq (⟨"WharfPapersModel", "noLot", "(I)Z"⟩, 79) := ⟨⟨by decide +kernel, by decide +kernel⟩, List.mem_of_getElem? (i := 1074) (by decide +kernel), List.mem_of_getElem? (i := 1348) (by decide +kernel), List.mem_of_getElem? (i := 1349) (by decide +kernel)⟩
theorem lw_p51 : lw_okq (⟨"WharfPapersModel", "noTarget", "(II)Z"⟩, 79) := ⟨⟨by decide +kernel, by decide +kernel⟩, List.mem_of_getElem? (i := 1074) (by decide +kernel), List.mem_of_getElem? (i := 1357) (by decide +kernel), List.mem_of_getElem? (i := 1358) (by decide +kernel)⟩
theorem lw_p52 : lw_okq (⟨"WharfPapersModel", "isPaper", "(I)Z"⟩, 79) := ⟨⟨by decide +kernel, by decide +kernel⟩, List.mem_of_getElem? (i := 1074) (by decide +kernel), List.mem_of_getElem? (i := 1364) (by decide +kernel), List.mem_of_getElem? (i := 1365) (by decide +kernel)⟩
theorem lw_p53 : lw_okq (⟨"WharfPapersModel", "isKnown", "(I)Z"⟩, 79) := ⟨⟨by decide +kernel, by decide +kernel⟩, List.mem_of_getElem? (i := 1074) (by decide +kernel), List.mem_of_getElem? (i := 1371) (by decide +kernel), List.mem_of_getElem? (i := 1372) (by decide +kernel)⟩
theorem lw_p54 : lw_okq (⟨"WharfPapersModel", "findBook", "(I)V"⟩, 79) := ⟨⟨by decide +kernel, by decide +kernel⟩, List.mem_of_getElem? (i := 1074) (by decide +kernel), List.mem_of_getElem? (i := 1385) (by decide +kernel), List.mem_of_getElem? (i := 1386) (by decide +kernel)⟩
theorem lw_p55 : lw_okq (⟨"WharfPapersModel", "here", "()I"⟩, 79) := ⟨⟨by decide +kernel, by decide +kernel⟩, List.mem_of_getElem? (i := 1074) (by decide +kernel), List.mem_of_getElem? (i := 1403) (by decide +kernel), List.mem_of_getElem? (i := 1404) (by decide +kernel)⟩
theorem lw_p56 : lw_okq (⟨"WharfPapersModel", "takeWord", "()V"⟩, 79) := ⟨⟨by decide +kernel, by decide +kernel⟩, List.mem_of_getElem? (i := 1074) (by decide +kernel), List.mem_of_getElem? (i := 1407) (by decide +kernel), List.mem_of_getElem? (i := 1408) (by decide +kernel)⟩
theorem lw_p57 : lw_okq (⟨"WharfPapersModel", "isWord", "(IIIIIII)Z"⟩, 79) := ⟨⟨by decide +kernel, by decide +kernel⟩, List.mem_of_getElem? (i := 1074) (by decide +kernel), List.mem_of_getElem? (i := 1413) (by decide +kernel), List.mem_of_getElem? (i := 1414) (by decide +kernel)⟩
theorem lw_p58 : lw_okq (⟨"WharfPapersModel", "want", "(ZII)Z"⟩, 79) := ⟨⟨by decide +kernel, by decide +kernel⟩, List.mem_of_getElem? (i := 1074) (by decide +kernel), List.mem_of_getElem? (i := 1417) (by decide +kernel), List.mem_of_getElem? (i := 1418) (by decide +kernel)⟩
theorem lw_p59 : lw_okq (⟨"WharfPapersModel", "readClause", "(II)V"⟩, 79) := ⟨⟨by decide +kernel, by decide +kernel⟩, List.mem_of_getElem? (i := 1074) (by decide +kernel), List.mem_of_getElem? (i := 1421) (by decide +kernel), List.mem_of_getElem? (i := 1422) (by decide +kernel)⟩
theorem lw_p60 : lw_okq (⟨"WharfPapersModel", "nameOf", "()I"⟩, 79) := ⟨⟨by decide +kernel, by decide +kernel⟩, List.mem_of_getElem? (i := 1074) (by decide +kernel), List.mem_of_getElem? (i := 1425) (by decide +kernel), List.mem_of_getElem? (i := 1426) (by decide +kernel)⟩
theorem lw_p61 : lw_okq (⟨"WharfPapersModel", "takeNumber", "(I)I"⟩, 79) := ⟨⟨by decide +kernel, by decide +kernel⟩, List.mem_of_getElem? (i := 1074) (by decide +kernel), List.mem_of_getElem? (i := 1432) (by decide +kernel), List.mem_of_getElem? (i := 1433) (by decide +kernel)⟩
theorem lw_p62 : lw_okq (⟨"WharfPapersModel", "readRank", "(I)V"⟩, 79) := ⟨⟨by decide +kernel, by decide +kernel⟩, List.mem_of_getElem? (i := 1074) (by decide +kernel), List.mem_of_getElem? (i := 1438) (by decide +kernel), List.mem_of_getElem? (i := 1439) (by decide +kernel)⟩
theorem lw_p63 : lw_okq (⟨"WharfPapersModel", "keyOf", "()I"⟩, 79) := ⟨⟨by decide +kernel, by decide +kernel⟩, List.mem_of_getElem? (i := 1074) (by decide +kernel), List.mem_of_getElem? (i := 1442) (by decide +kernel), List.mem_of_getElem? (i := 1443) (by decide +kernel)⟩
def lw_privs_4 : List (MethodName × Nat) := [(⟨"WharfPapers$Plan", "isParted", "(II[I)Z"⟩, 7), (⟨"WharfPapers$Plan", "openFloor", "()V"⟩, 7), (⟨"WharfPapersModel", "noLot", "(I)Z"⟩, 79), (⟨"WharfPapersModel", "noTarget", "(II)Z"⟩, 79), (⟨"WharfPapersModel", "isPaper", "(I)Z"⟩, 79), (⟨"WharfPapersModel", "isKnown", "(I)Z"⟩, 79), (⟨"WharfPapersModel", "findBook", "(I)V"⟩, 79), (⟨"WharfPapersModel", "here", "()I"⟩, 79), (⟨"WharfPapersModel", "takeWord", "()V"⟩, 79), (⟨"WharfPapersModel", "isWord", "(IIIIIII)Z"⟩, 79), (⟨"WharfPapersModel", "want", "(ZII)Z"⟩, 79), (⟨"WharfPapersModel", "readClause", "(II)V"⟩, 79), (⟨"WharfPapersModel", "nameOf", "()I"⟩, 79), (⟨"WharfPapersModel", "takeNumber", "(I)I"⟩, 79), (⟨"WharfPapersModel", "readRank", "(I)V"⟩, 79), (⟨"WharfPapersModel", "keyOf", "()I"⟩, 79)]
theorem lw_r4 : ∀ q ∈ lw_privs_4, lw_okq q := List.forall_mem_cons.mpr ⟨lw_p48, List.forall_mem_cons.mpr ⟨lw_p49, List.forall_mem_cons.mpr ⟨lw_p50, List.forall_mem_cons.mpr ⟨lw_p51, List.forall_mem_cons.mpr ⟨lw_p52, List.forall_mem_cons.mpr ⟨lw_p53, List.forall_mem_cons.mpr ⟨lw_p54, List.forall_mem_cons.mpr ⟨lw_p55, List.forall_mem_cons.mpr ⟨lw_p56, List.forall_mem_cons.mpr ⟨lw_p57, List.forall_mem_cons.mpr ⟨lw_p58, List.forall_mem_cons.mpr ⟨lw_p59, List.forall_mem_cons.mpr ⟨lw_p60, List.forall_mem_cons.mpr ⟨lw_p61, List.forall_mem_cons.mpr ⟨lw_p62, List.forall_mem_cons.mpr ⟨lw_p63, fun _ h => absurd h List.not_mem_nil⟩⟩⟩⟩⟩⟩⟩⟩⟩⟩⟩⟩⟩⟩⟩⟩
theorem lw_p64 : lw_okq (⟨"WharfPapersModel", "findTerms", "(I)V"⟩, 79) := ⟨⟨by decide +kernel, by decide +kernel⟩, List.mem_of_getElem? (i := 1074) (by decide +kernel), List.mem_of_getElem? (i := 1458) (by decide +kernel), List.mem_of_getElem? (i := 1459) (by decide +kernel)⟩
theorem lw_p65 : lw_okq (⟨"WharfPapersModel", "tell", "(II)V"⟩, 79) := ⟨⟨by decide +kernel, by decide +kernel⟩, List.mem_of_getElem? (i := 1074) (by decide +kernel), List.mem_of_getElem? (i := 1466) (by decide +kernel), List.mem_of_getElem? (i := 1467) (by decide +kernel)⟩
theorem lw_p66 : lw_okq (⟨"WharfPapersModel", "befall", "(I)Z"⟩, 79) := ⟨⟨by decide +kernel, by decide +kernel⟩, List.mem_of_getElem? (i := 1074) (by decide +kernel), List.mem_of_getElem? (i := 1470) (by decide +kernel), List.mem_of_getElem? (i := 1471) (by decide +kernel)⟩
theorem lw_p67 : lw_okq (⟨"WharfPapersModel", "issue", "(I)Z"⟩, 79) := ⟨⟨by decide +kernel, by decide +kernel⟩, List.mem_of_getElem? (i := 1074) (by decide +kernel), List.mem_of_getElem? (i := 1474) (by decide +kernel), List.mem_of_getElem? (i := 1475) (by decide +kernel)⟩
theorem lw_p68 : lw_okq (⟨"WharfPapersModel", "lay", "(IIIII)V"⟩, 79) := ⟨⟨by decide +kernel, by decide +kernel⟩, List.mem_of_getElem? (i := 1074) (by decide +kernel), List.mem_of_getElem? (i := 1478) (by decide +kernel), List.mem_of_getElem? (i := 1479) (by decide +kernel)⟩
theorem lw_p69 : lw_okq (⟨"WharfPapersModel", "onPapers", "(I)I"⟩, 79) := ⟨⟨by decide +kernel, by decide +kernel⟩, List.mem_of_getElem? (i := 1074) (by decide +kernel), List.mem_of_getElem? (i := 1482) (by decide +kernel), List.mem_of_getElem? (i := 1483) (by decide +kernel)⟩
theorem lw_p70 : lw_okq (⟨"WharfPapersModel", "there", "(I)I"⟩, 79) := ⟨⟨by decide +kernel, by decide +kernel⟩, List.mem_of_getElem? (i := 1074) (by decide +kernel), List.mem_of_getElem? (i := 1486) (by decide +kernel), List.mem_of_getElem? (i := 1487) (by decide +kernel)⟩
theorem lw_p71 : lw_okq (⟨"WharfPapersModel", "burn", "(II)Z"⟩, 79) := ⟨⟨by decide +kernel, by decide +kernel⟩, List.mem_of_getElem? (i := 1074) (by decide +kernel), List.mem_of_getElem? (i := 1490) (by decide +kernel), List.mem_of_getElem? (i := 1491) (by decide +kernel)⟩
theorem lw_p72 : lw_okq (⟨"WharfPapersModel", "pass", "(II)Z"⟩, 79) := ⟨⟨by decide +kernel, by decide +kernel⟩, List.mem_of_getElem? (i := 1074) (by decide +kernel), List.mem_of_getElem? (i := 1494) (by decide +kernel), List.mem_of_getElem? (i := 1495) (by decide +kernel)⟩
theorem lw_p73 : lw_okq (⟨"WharfPapersModel", "partFrom", "(II)Z"⟩, 79) := ⟨⟨by decide +kernel, by decide +kernel⟩, List.mem_of_getElem? (i := 1074) (by decide +kernel), List.mem_of_getElem? (i := 1498) (by decide +kernel), List.mem_of_getElem? (i := 1499) (by decide +kernel)⟩
theorem lw_p74 : lw_okq (⟨"WharfPapersModel", "lend", "(II)Z"⟩, 79) := ⟨⟨by decide +kernel, by decide +kernel⟩, List.mem_of_getElem? (i := 1074) (by decide +kernel), List.mem_of_getElem? (i := 1502) (by decide +kernel), List.mem_of_getElem? (i := 1503) (by decide +kernel)⟩
theorem lw_p75 : lw_okq (⟨"WharfPapersModel", "handOut", "(II)Z"⟩, 79) := ⟨⟨by decide +kernel, by decide +kernel⟩, List.mem_of_getElem? (i := 1074) (by decide +kernel), List.mem_of_getElem? (i := 1506) (by decide +kernel), List.mem_of_getElem? (i := 1507) (by decide +kernel)⟩
theorem lw_p76 : lw_okq (⟨"WharfPapersModel", "change", "(II)Z"⟩, 79) := ⟨⟨by decide +kernel, by decide +kernel⟩, List.mem_of_getElem? (i := 1074) (by decide +kernel), List.mem_of_getElem? (i := 1510) (by decide +kernel), List.mem_of_getElem? (i := 1511) (by decide +kernel)⟩
theorem lw_p77 : lw_okq (⟨"WharfPapersModel", "linesNow", "(I)I"⟩, 79) := ⟨⟨by decide +kernel, by decide +kernel⟩, List.mem_of_getElem? (i := 1074) (by decide +kernel), List.mem_of_getElem? (i := 1518) (by decide +kernel), List.mem_of_getElem? (i := 1519) (by decide +kernel)⟩
theorem lw_p78 : lw_okq (⟨"WharfPapersModel", "papersToday", "()I"⟩, 79) := ⟨⟨by decide +kernel, by decide +kernel⟩, List.mem_of_getElem? (i := 1074) (by decide +kernel), List.mem_of_getElem? (i := 1522) (by decide +kernel), List.mem_of_getElem? (i := 1523) (by decide +kernel)⟩
theorem lw_p79 : lw_okq (⟨"WharfPapersModel", "whyNot", "(IIIII)I"⟩, 79) := ⟨⟨by decide +kernel, by decide +kernel⟩, List.mem_of_getElem? (i := 1074) (by decide +kernel), List.mem_of_getElem? (i := 1530) (by decide +kernel), List.mem_of_getElem? (i := 1531) (by decide +kernel)⟩
def lw_privs_5 : List (MethodName × Nat) := [(⟨"WharfPapersModel", "findTerms", "(I)V"⟩, 79), (⟨"WharfPapersModel", "tell", "(II)V"⟩, 79), (⟨"WharfPapersModel", "befall", "(I)Z"⟩, 79), (⟨"WharfPapersModel", "issue", "(I)Z"⟩, 79), (⟨"WharfPapersModel", "lay", "(IIIII)V"⟩, 79), (⟨"WharfPapersModel", "onPapers", "(I)I"⟩, 79), (⟨"WharfPapersModel", "there", "(I)I"⟩, 79), (⟨"WharfPapersModel", "burn", "(II)Z"⟩, 79), (⟨"WharfPapersModel", "pass", "(II)Z"⟩, 79), (⟨"WharfPapersModel", "partFrom", "(II)Z"⟩, 79), (⟨"WharfPapersModel", "lend", "(II)Z"⟩, 79), (⟨"WharfPapersModel", "handOut", "(II)Z"⟩, 79), (⟨"WharfPapersModel", "change", "(II)Z"⟩, 79), (⟨"WharfPapersModel", "linesNow", "(I)I"⟩, 79), (⟨"WharfPapersModel", "papersToday", "()I"⟩, 79), (⟨"WharfPapersModel", "whyNot", "(IIIII)I"⟩, 79)]
theorem lw_r5 : ∀ q ∈ lw_privs_5, lw_okq q := List.forall_mem_cons.mpr ⟨lw_p64, List.forall_mem_cons.mpr ⟨lw_p65, List.forall_mem_cons.mpr ⟨lw_p66, List.forall_mem_cons.mpr ⟨lw_p67, List.forall_mem_cons.mpr ⟨lw_p68, List.forall_mem_cons.mpr ⟨lw_p69, List.forall_mem_cons.mpr ⟨lw_p70, List.forall_mem_cons.mpr ⟨lw_p71, List.forall_mem_cons.mpr ⟨lw_p72, List.forall_mem_cons.mpr ⟨lw_p73, List.forall_mem_cons.mpr ⟨lw_p74, List.forall_mem_cons.mpr ⟨lw_p75, List.forall_mem_cons.mpr ⟨lw_p76, List.forall_mem_cons.mpr ⟨lw_p77, List.forall_mem_cons.mpr ⟨lw_p78, List.forall_mem_cons.mpr ⟨lw_p79, fun _ h => absurd h List.not_mem_nil⟩⟩⟩⟩⟩⟩⟩⟩⟩⟩⟩⟩⟩⟩⟩⟩
theorem lw_p80 : lw_okq (⟨"WharfPapersModel", "over", "(I)I"⟩, 79) := ⟨⟨by decide +kernel, by decide +kernel⟩, List.mem_of_getElem? (i := 1074) (by decide +kernel), List.mem_of_getElem? (i := 1538) (by decide +kernel), List.mem_of_getElem? (i := 1539) (by decide +kernel)⟩
theorem lw_p81 : lw_okq (⟨"WharfPapersModel", "fewestFrom", "(II)I"⟩, 79) := ⟨⟨by decide +kernel, by decide +kernel⟩, List.mem_of_getElem? (i := 1074) (by decide +kernel), List.mem_of_getElem? (i := 1553) (by decide +kernel), List.mem_of_getElem? (i := 1554) (by decide +kernel)⟩
theorem lw_p82 : lw_okq (⟨"WharfPapersModel", "rentOf", "(II)I"⟩, 79) := ⟨⟨by decide +kernel, by decide +kernel⟩, List.mem_of_getElem? (i := 1074) (by decide +kernel), List.mem_of_getElem? (i := 1569) (by decide +kernel), List.mem_of_getElem? (i := 1570) (by decide +kernel)⟩
theorem lw_p83 : lw_okq (⟨"WharfPapersModel", "weightOn", "(II)I"⟩, 79) := ⟨⟨by decide +kernel, by decide +kernel⟩, List.mem_of_getElem? (i := 1074) (by decide +kernel), List.mem_of_getElem? (i := 1577) (by decide +kernel), List.mem_of_getElem? (i := 1578) (by decide +kernel)⟩
theorem lw_p84 : lw_okq (⟨"WharfPapersModel", "wants", "(III)I"⟩, 79) := ⟨⟨by decide +kernel, by decide +kernel⟩, List.mem_of_getElem? (i := 1074) (by decide +kernel), List.mem_of_getElem? (i := 1603) (by decide +kernel), List.mem_of_getElem? (i := 1604) (by decide +kernel)⟩
theorem lw_p85 : lw_okq (⟨"WharfPapersModel", "goRounds", "()V"⟩, 79) := ⟨⟨by decide +kernel, by decide +kernel⟩, List.mem_of_getElem? (i := 1074) (by decide +kernel), List.mem_of_getElem? (i := 1633) (by decide +kernel), List.mem_of_getElem? (i := 1634) (by decide +kernel)⟩
theorem lw_p86 : lw_okq (⟨"WharfPapersModel", "owes", "(I)I"⟩, 79) := ⟨⟨by decide +kernel, by decide +kernel⟩, List.mem_of_getElem? (i := 1074) (by decide +kernel), List.mem_of_getElem? (i := 1637) (by decide +kernel), List.mem_of_getElem? (i := 1638) (by decide +kernel)⟩
theorem lw_p87 : lw_okq (⟨"WharfPapersModel", "has", "(I)I"⟩, 79) := ⟨⟨by decide +kernel, by decide +kernel⟩, List.mem_of_getElem? (i := 1074) (by decide +kernel), List.mem_of_getElem? (i := 1641) (by decide +kernel), List.mem_of_getElem? (i := 1642) (by decide +kernel)⟩
theorem lw_p88 : lw_okq (⟨"WharfPapersModel", "gives", "(I)I"⟩, 79) := ⟨⟨by decide +kernel, by decide +kernel⟩, List.mem_of_getElem? (i := 1074) (by decide +kernel), List.mem_of_getElem? (i := 1645) (by decide +kernel), List.mem_of_getElem? (i := 1646) (by decide +kernel)⟩
theorem lw_p89 : lw_okq (⟨"WharfPapersModel", "put", "(III)V"⟩, 79) := ⟨⟨by decide +kernel, by decide +kernel⟩, List.mem_of_getElem? (i := 1074) (by decide +kernel), List.mem_of_getElem? (i := 1657) (by decide +kernel), List.mem_of_getElem? (i := 1658) (by decide +kernel)⟩
theorem lw_p90 : lw_okq (⟨"WharfPapersModel", "layAll", "()I"⟩, 79) := ⟨⟨by decide +kernel, by decide +kernel⟩, List.mem_of_getElem? (i := 1074) (by decide +kernel), List.mem_of_getElem? (i := 1661) (by decide +kernel), List.mem_of_getElem? (i := 1662) (by decide +kernel)⟩
theorem lw_p91 : lw_okq (⟨"WharfPapersModel", "mayLie", "(II)Z"⟩, 79) := ⟨⟨by decide +kernel, by decide +kernel⟩, List.mem_of_getElem? (i := 1074) (by decide +kernel), List.mem_of_getElem? (i := 1665) (by decide +kernel), List.mem_of_getElem? (i := 1666) (by decide +kernel)⟩
def lw_privs_6 : List (MethodName × Nat) := [(⟨"WharfPapersModel", "over", "(I)I"⟩, 79), (⟨"WharfPapersModel", "fewestFrom", "(II)I"⟩, 79), (⟨"WharfPapersModel", "rentOf", "(II)I"⟩, 79), (⟨"WharfPapersModel", "weightOn", "(II)I"⟩, 79), (⟨"WharfPapersModel", "wants", "(III)I"⟩, 79), (⟨"WharfPapersModel", "goRounds", "()V"⟩, 79), (⟨"WharfPapersModel", "owes", "(I)I"⟩, 79), (⟨"WharfPapersModel", "has", "(I)I"⟩, 79), (⟨"WharfPapersModel", "gives", "(I)I"⟩, 79), (⟨"WharfPapersModel", "put", "(III)V"⟩, 79), (⟨"WharfPapersModel", "layAll", "()I"⟩, 79), (⟨"WharfPapersModel", "mayLie", "(II)Z"⟩, 79)]
theorem lw_r6 : ∀ q ∈ lw_privs_6, lw_okq q := List.forall_mem_cons.mpr ⟨lw_p80, List.forall_mem_cons.mpr ⟨lw_p81, List.forall_mem_cons.mpr ⟨lw_p82, List.forall_mem_cons.mpr ⟨lw_p83, List.forall_mem_cons.mpr ⟨lw_p84, List.forall_mem_cons.mpr ⟨lw_p85, List.forall_mem_cons.mpr ⟨lw_p86, List.forall_mem_cons.mpr ⟨lw_p87, List.forall_mem_cons.mpr ⟨lw_p88, List.forall_mem_cons.mpr ⟨lw_p89, List.forall_mem_cons.mpr ⟨lw_p90, List.forall_mem_cons.mpr ⟨lw_p91, fun _ h => absurd h List.not_mem_nil⟩⟩⟩⟩⟩⟩⟩⟩⟩⟩⟩⟩
def lw_privs : List (MethodName × Nat) := lw_privs_1 ++ (lw_privs_2 ++ (lw_privs_3 ++ (lw_privs_4 ++ (lw_privs_5 ++ (lw_privs_6)))))
def lw_tbl : List Cond := k2_sels lw_privs ++ tables_1
theorem lw_privs_ok : ∀ q ∈ lw_privs, lw_okq q := by
  show ∀ q ∈ lw_privs_1 ++ (lw_privs_2 ++ (lw_privs_3 ++ (lw_privs_4 ++ (lw_privs_5 ++ (lw_privs_6))))), lw_okq q
  exact List.forall_mem_append.mpr ⟨lw_r1, List.forall_mem_append.mpr ⟨lw_r2, List.forall_mem_append.mpr ⟨lw_r3, List.forall_mem_append.mpr ⟨lw_r4, List.forall_mem_append.mpr ⟨lw_r5, lw_r6⟩⟩⟩⟩⟩
end
section
def RX0 : String := "WharfPapers$Doubt"
def TX0 : u_T := fun k => match k with
  | 0 => ("WharfPapers$Doubt", "having", "[I", true)
  | 1 => ("WharfPapers$Doubt", "picked", "[I", true)
  | _ => ("WharfPapers$Doubt", "count", "I", false)
def tyX0 : Nat → FieldType := fun k => match k with
  | 0 => .array .int
  | 1 => .array .int
  | _ => .int
def RX1 : String := "WharfPapers$Dues"
def TX1 : u_T := fun k => match k with
  | 0 => ("WharfPapers$Dues", "debtor", "[I", true)
  | 1 => ("WharfPapers$Dues", "creditor", "[I", true)
  | 2 => ("WharfPapers$Dues", "sum", "[I", true)
  | 3 => ("WharfPapers$Dues", "given", "[I", true)
  | 4 => ("WharfPapers$Dues", "count", "I", false)
  | 5 => ("WharfPapers$Dues", "coin", "[I", true)
  | 6 => ("WharfPapers$Dues", "owes", "[I", true)
  | 7 => ("WharfPapers$Dues", "has", "[I", true)
  | 8 => ("WharfPapers$Dues", "failed", "[Z", true)
  | _ => ("WharfPapers$Dues", "rounds", "I", false)
def tyX1 : Nat → FieldType := fun k => match k with
  | 0 => .array .int
  | 1 => .array .int
  | 2 => .array .int
  | 3 => .array .int
  | 4 => .int
  | 5 => .array .int
  | 6 => .array .int
  | 7 => .array .int
  | 8 => .array .boolean
  | _ => .int
def RX2 : String := "WharfPapers$Lines"
def TX2 : u_T := fun k => match k with
  | 0 => ("WharfPapers$Lines", "kind", "[I", true)
  | 1 => ("WharfPapers$Lines", "day", "[I", true)
  | 2 => ("WharfPapers$Lines", "told", "[I", true)
  | 3 => ("WharfPapers$Lines", "target", "[I", true)
  | 4 => ("WharfPapers$Lines", "p", "[I", true)
  | 5 => ("WharfPapers$Lines", "q", "[I", true)
  | 6 => ("WharfPapers$Lines", "n", "[I", true)
  | 7 => ("WharfPapers$Lines", "order", "[I", true)
  | 8 => ("WharfPapers$Lines", "isVoid", "[Z", true)
  | 9 => ("WharfPapers$Lines", "count", "I", false)
  | _ => ("WharfPapers$Lines", "knownCount", "I", false)
def tyX2 : Nat → FieldType := fun k => match k with
  | 0 => .array .int
  | 1 => .array .int
  | 2 => .array .int
  | 3 => .array .int
  | 4 => .array .int
  | 5 => .array .int
  | 6 => .array .int
  | 7 => .array .int
  | 8 => .array .boolean
  | 9 => .int
  | _ => .int
def RX3 : String := "WharfPapers$Lots"
def TX3 : u_T := fun k => match k with
  | 0 => ("WharfPapers$Lots", "sort", "[I", true)
  | 1 => ("WharfPapers$Lots", "casks", "[I", true)
  | 2 => ("WharfPapers$Lots", "weight", "[I", true)
  | 3 => ("WharfPapers$Lots", "floor", "[I", true)
  | 4 => ("WharfPapers$Lots", "since", "[I", true)
  | _ => ("WharfPapers$Lots", "count", "I", false)
def tyX3 : Nat → FieldType := fun k => match k with
  | 0 => .array .int
  | 1 => .array .int
  | 2 => .array .int
  | 3 => .array .int
  | 4 => .array .int
  | _ => .int
def RX4 : String := "WharfPapers$Plan"
def TX4 : u_T := fun k => match k with
  | 0 => ("WharfPapers$Plan", "place", "[I", true)
  | 1 => ("WharfPapers$Plan", "laid", "[I", true)
  | 2 => ("WharfPapers$Plan", "count", "I", false)
  | 3 => ("WharfPapers$Plan", "casks", "[I", true)
  | 4 => ("WharfPapers$Plan", "sorts", "[I", true)
  | 5 => ("WharfPapers$Plan", "price", "[J", true)
  | _ => ("WharfPapers$Plan", "best", "[J", true)
def tyX4 : Nat → FieldType := fun k => match k with
  | 0 => .array .int
  | 1 => .array .int
  | 2 => .int
  | 3 => .array .int
  | 4 => .array .int
  | 5 => .array .long
  | _ => .array .long
def RX5 : String := "WharfPapers$Reader"
def TX5 : u_T := fun k => match k with
  | 0 => ("WharfPapers$Reader", "text", "[I", true)
  | 1 => ("WharfPapers$Reader", "length", "I", false)
  | 2 => ("WharfPapers$Reader", "code", "[I", true)
  | 3 => ("WharfPapers$Reader", "value", "[I", true)
  | 4 => ("WharfPapers$Reader", "clauses", "I", false)
  | 5 => ("WharfPapers$Reader", "fault", "I", false)
  | 6 => ("WharfPapers$Reader", "faultAt", "I", false)
  | 7 => ("WharfPapers$Reader", "at", "I", false)
  | _ => ("WharfPapers$Reader", "start", "I", false)
def tyX5 : Nat → FieldType := fun k => match k with
  | 0 => .array .int
  | 1 => .int
  | 2 => .array .int
  | 3 => .array .int
  | 4 => .int
  | 5 => .int
  | 6 => .int
  | 7 => .int
  | _ => .int
def RX6 : String := "WharfPapers$Sales"
def TX6 : u_T := fun k => match k with
  | 0 => ("WharfPapers$Sales", "seller", "[I", true)
  | 1 => ("WharfPapers$Sales", "buyer", "[I", true)
  | 2 => ("WharfPapers$Sales", "sort", "[I", true)
  | 3 => ("WharfPapers$Sales", "casks", "[I", true)
  | 4 => ("WharfPapers$Sales", "open", "[I", true)
  | 5 => ("WharfPapers$Sales", "total", "[I", true)
  | 6 => ("WharfPapers$Sales", "groups", "[I", true)
  | _ => ("WharfPapers$Sales", "count", "I", false)
def tyX6 : Nat → FieldType := fun k => match k with
  | 0 => .array .int
  | 1 => .array .int
  | 2 => .array .int
  | 3 => .array .int
  | 4 => .array .int
  | 5 => .array .int
  | 6 => .array .int
  | _ => .int
def RX7 : String := "WharfPapers$Story"
def TX7 : u_T := fun k => match k with
  | 0 => ("WharfPapers$Story", "lots", "LWharfPapers$Lots;", true)
  | 1 => ("WharfPapers$Story", "lines", "LWharfPapers$Lines;", true)
  | 2 => ("WharfPapers$Story", "terms", "LWharfPapers$Terms;", true)
  | 3 => ("WharfPapers$Story", "there", "[Z", true)
  | 4 => ("WharfPapers$Story", "vain", "[Z", true)
  | 5 => ("WharfPapers$Story", "lot", "[I", true)
  | 6 => ("WharfPapers$Story", "casks", "[I", true)
  | 7 => ("WharfPapers$Story", "holds", "[I", true)
  | 8 => ("WharfPapers$Story", "title", "[I", true)
  | 9 => ("WharfPapers$Story", "lender", "[I", true)
  | 10 => ("WharfPapers$Story", "sum", "[I", true)
  | 11 => ("WharfPapers$Story", "stopper", "[I", true)
  | 12 => ("WharfPapers$Story", "out", "[I", true)
  | 13 => ("WharfPapers$Story", "burnt", "[I", true)
  | 14 => ("WharfPapers$Story", "onPapers", "[I", true)
  | _ => ("WharfPapers$Story", "doubles", "I", false)
def tyX7 : Nat → FieldType := fun k => match k with
  | 0 => .object "WharfPapers$Lots"
  | 1 => .object "WharfPapers$Lines"
  | 2 => .object "WharfPapers$Terms"
  | 3 => .array .boolean
  | 4 => .array .boolean
  | 5 => .array .int
  | 6 => .array .int
  | 7 => .array .int
  | 8 => .array .int
  | 9 => .array .int
  | 10 => .array .int
  | 11 => .array .int
  | 12 => .array .int
  | 13 => .array .int
  | 14 => .array .int
  | _ => .int
def RX8 : String := "WharfPapers$Terms"
def TX8 : u_T := fun k => match k with
  | 0 => ("WharfPapers$Terms", "day", "[I", true)
  | 1 => ("WharfPapers$Terms", "clauses", "[I", true)
  | 2 => ("WharfPapers$Terms", "code", "[[I", true)
  | 3 => ("WharfPapers$Terms", "value", "[[I", true)
  | 4 => ("WharfPapers$Terms", "order", "[I", true)
  | 5 => ("WharfPapers$Terms", "isStruck", "[Z", true)
  | 6 => ("WharfPapers$Terms", "held", "[I", true)
  | 7 => ("WharfPapers$Terms", "heldOn", "I", false)
  | _ => ("WharfPapers$Terms", "count", "I", false)
def tyX8 : Nat → FieldType := fun k => match k with
  | 0 => .array .int
  | 1 => .array .int
  | 2 => .array (.array .int)
  | 3 => .array (.array .int)
  | 4 => .array .int
  | 5 => .array .boolean
  | 6 => .array .int
  | 7 => .int
  | _ => .int
def RX9 : String := "WharfPapers$Weighings"
def TX9 : u_T := fun k => match k with
  | 0 => ("WharfPapers$Weighings", "lot", "[I", true)
  | 1 => ("WharfPapers$Weighings", "casks", "[I", true)
  | 2 => ("WharfPapers$Weighings", "weight", "[I", true)
  | 3 => ("WharfPapers$Weighings", "day", "[I", true)
  | _ => ("WharfPapers$Weighings", "count", "I", false)
def tyX9 : Nat → FieldType := fun k => match k with
  | 0 => .array .int
  | 1 => .array .int
  | 2 => .array .int
  | 3 => .array .int
  | _ => .int
def RX10 : String := "WharfPapers"
def TX10 : u_T := fun k => match k with
  | 0 => ("WharfPapers", "now", "I", false)
  | 1 => ("WharfPapers", "lots", "LWharfPapers$Lots;", true)
  | 2 => ("WharfPapers", "lines", "LWharfPapers$Lines;", true)
  | 3 => ("WharfPapers", "terms", "LWharfPapers$Terms;", true)
  | 4 => ("WharfPapers", "reader", "LWharfPapers$Reader;", true)
  | 5 => ("WharfPapers", "story", "LWharfPapers$Story;", true)
  | 6 => ("WharfPapers", "earlier", "LWharfPapers$Story;", true)
  | 7 => ("WharfPapers", "doubt", "LWharfPapers$Doubt;", true)
  | 8 => ("WharfPapers", "weighings", "LWharfPapers$Weighings;", true)
  | 9 => ("WharfPapers", "unpaid", "[[I", true)
  | 10 => ("WharfPapers", "sales", "LWharfPapers$Sales;", true)
  | 11 => ("WharfPapers", "dues", "LWharfPapers$Dues;", true)
  | 12 => ("WharfPapers", "room", "[I", true)
  | 13 => ("WharfPapers", "partedFrom", "[I", true)
  | _ => ("WharfPapers", "plan", "LWharfPapers$Plan;", true)
def tyX10 : Nat → FieldType := fun k => match k with
  | 0 => .int
  | 1 => .object "WharfPapers$Lots"
  | 2 => .object "WharfPapers$Lines"
  | 3 => .object "WharfPapers$Terms"
  | 4 => .object "WharfPapers$Reader"
  | 5 => .object "WharfPapers$Story"
  | 6 => .object "WharfPapers$Story"
  | 7 => .object "WharfPapers$Doubt"
  | 8 => .object "WharfPapers$Weighings"
  | 9 => .array (.array .int)
  | 10 => .object "WharfPapers$Sales"
  | 11 => .object "WharfPapers$Dues"
  | 12 => .array .int
  | 13 => .array .int
  | _ => .object "WharfPapers$Plan"
def RX11 : String := "WharfPapersModel"
def TX11 : u_T := fun k => match k with
  | 0 => ("WharfPapersModel", "now", "I", false)
  | 1 => ("WharfPapersModel", "lots", "I", false)
  | 2 => ("WharfPapersModel", "sortOf", "[I", true)
  | 3 => ("WharfPapersModel", "casksOf", "[I", true)
  | 4 => ("WharfPapersModel", "weightOf", "[I", true)
  | 5 => ("WharfPapersModel", "owner", "[I", true)
  | 6 => ("WharfPapersModel", "floorOf", "[I", true)
  | 7 => ("WharfPapersModel", "lotDay", "[I", true)
  | 8 => ("WharfPapersModel", "room", "[I", true)
  | 9 => ("WharfPapersModel", "lines", "I", false)
  | 10 => ("WharfPapersModel", "kindOf", "[I", true)
  | 11 => ("WharfPapersModel", "dayOf", "[I", true)
  | 12 => ("WharfPapersModel", "toldOn", "[I", true)
  | 13 => ("WharfPapersModel", "target", "[I", true)
  | 14 => ("WharfPapersModel", "houseP", "[I", true)
  | 15 => ("WharfPapersModel", "houseQ", "[I", true)
  | 16 => ("WharfPapersModel", "many", "[I", true)
  | 17 => ("WharfPapersModel", "isVoid", "[Z", true)
  | 18 => ("WharfPapersModel", "isVain", "[Z", true)
  | 19 => ("WharfPapersModel", "isDouble", "[Z", true)
  | 20 => ("WharfPapersModel", "book", "[I", true)
  | 21 => ("WharfPapersModel", "bookSize", "I", false)
  | 22 => ("WharfPapersModel", "terms", "I", false)
  | 23 => ("WharfPapersModel", "inForce", "[I", true)
  | 24 => ("WharfPapersModel", "clauses", "[I", true)
  | 25 => ("WharfPapersModel", "clauseKind", "[I", true)
  | 26 => ("WharfPapersModel", "first", "[I", true)
  | 27 => ("WharfPapersModel", "second", "[I", true)
  | 28 => ("WharfPapersModel", "text", "[I", true)
  | 29 => ("WharfPapersModel", "textSize", "I", false)
  | 30 => ("WharfPapersModel", "at", "I", false)
  | 31 => ("WharfPapersModel", "faultOf", "I", false)
  | 32 => ("WharfPapersModel", "place", "I", false)
  | 33 => ("WharfPapersModel", "from", "I", false)
  | 34 => ("WharfPapersModel", "letters", "I", false)
  | 35 => ("WharfPapersModel", "isOn", "[Z", true)
  | 36 => ("WharfPapersModel", "row", "[I", true)
  | 37 => ("WharfPapersModel", "holds", "[I", true)
  | 38 => ("WharfPapersModel", "keys", "I", false)
  | 39 => ("WharfPapersModel", "keyMany", "I", false)
  | 40 => ("WharfPapersModel", "isThere", "[Z", true)
  | 41 => ("WharfPapersModel", "lotOf", "[I", true)
  | 42 => ("WharfPapersModel", "casks", "[I", true)
  | 43 => ("WharfPapersModel", "holder", "[I", true)
  | 44 => ("WharfPapersModel", "title", "[I", true)
  | 45 => ("WharfPapersModel", "lender", "[I", true)
  | 46 => ("WharfPapersModel", "lent", "[I", true)
  | 47 => ("WharfPapersModel", "stopper", "[I", true)
  | 48 => ("WharfPapersModel", "outOf", "[I", true)
  | 49 => ("WharfPapersModel", "burntOf", "[I", true)
  | 50 => ("WharfPapersModel", "own", "[I", true)
  | 51 => ("WharfPapersModel", "owns", "I", false)
  | 52 => ("WharfPapersModel", "wasHolder", "[I", true)
  | 53 => ("WharfPapersModel", "wasTitle", "[I", true)
  | 54 => ("WharfPapersModel", "weighings", "I", false)
  | 55 => ("WharfPapersModel", "weighLot", "[I", true)
  | 56 => ("WharfPapersModel", "weighMany", "[I", true)
  | 57 => ("WharfPapersModel", "weighed", "[I", true)
  | 58 => ("WharfPapersModel", "weighDay", "[I", true)
  | 59 => ("WharfPapersModel", "unpaid", "[I", true)
  | 60 => ("WharfPapersModel", "sales", "I", false)
  | 61 => ("WharfPapersModel", "netOf", "[I", true)
  | 62 => ("WharfPapersModel", "groups", "[I", true)
  | 63 => ("WharfPapersModel", "dues", "I", false)
  | 64 => ("WharfPapersModel", "dueFrom", "[I", true)
  | 65 => ("WharfPapersModel", "dueTo", "[I", true)
  | 66 => ("WharfPapersModel", "dueSum", "[I", true)
  | 67 => ("WharfPapersModel", "given", "[I", true)
  | 68 => ("WharfPapersModel", "next", "[I", true)
  | 69 => ("WharfPapersModel", "coin", "[I", true)
  | 70 => ("WharfPapersModel", "changes", "I", false)
  | 71 => ("WharfPapersModel", "isParted", "[Z", true)
  | 72 => ("WharfPapersModel", "laid", "[I", true)
  | 73 => ("WharfPapersModel", "bestLaid", "[I", true)
  | 74 => ("WharfPapersModel", "ofSet", "[I", true)
  | 75 => ("WharfPapersModel", "setSize", "I", false)
  | 76 => ("WharfPapersModel", "load", "[I", true)
  | 77 => ("WharfPapersModel", "sorts", "[I", true)
  | _ => ("WharfPapersModel", "moved", "[I", true)
def tyX11 : Nat → FieldType := fun k => match k with
  | 0 => .int
  | 1 => .int
  | 2 => .array .int
  | 3 => .array .int
  | 4 => .array .int
  | 5 => .array .int
  | 6 => .array .int
  | 7 => .array .int
  | 8 => .array .int
  | 9 => .int
  | 10 => .array .int
  | 11 => .array .int
  | 12 => .array .int
  | 13 => .array .int
  | 14 => .array .int
  | 15 => .array .int
  | 16 => .array .int
  | 17 => .array .boolean
  | 18 => .array .boolean
  | 19 => .array .boolean
  | 20 => .array .int
  | 21 => .int
  | 22 => .int
  | 23 => .array .int
  | 24 => .array .int
  | 25 => .array .int
  | 26 => .array .int
  | 27 => .array .int
  | 28 => .array .int
  | 29 => .int
  | 30 => .int
  | 31 => .int
  | 32 => .int
  | 33 => .int
  | 34 => .int
  | 35 => .array .boolean
  | 36 => .array .int
  | 37 => .array .int
  | 38 => .int
  | 39 => .int
  | 40 => .array .boolean
  | 41 => .array .int
  | 42 => .array .int
  | 43 => .array .int
  | 44 => .array .int
  | 45 => .array .int
  | 46 => .array .int
  | 47 => .array .int
  | 48 => .array .int
  | 49 => .array .int
  | 50 => .array .int
  | 51 => .int
  | 52 => .array .int
  | 53 => .array .int
  | 54 => .int
  | 55 => .array .int
  | 56 => .array .int
  | 57 => .array .int
  | 58 => .array .int
  | 59 => .array .int
  | 60 => .int
  | 61 => .array .int
  | 62 => .array .int
  | 63 => .int
  | 64 => .array .int
  | 65 => .array .int
  | 66 => .array .int
  | 67 => .array .int
  | 68 => .array .int
  | 69 => .array .int
  | 70 => .int
  | 71 => .array .boolean
  | 72 => .array .int
  | 73 => .array .int
  | 74 => .array .int
  | 75 => .int
  | 76 => .array .int
  | 77 => .array .int
  | _ => .array .int
abbrev vwCl : List vw_C := [(RX0, TX0, 3), (RX1, TX1, 10), (RX2, TX2, 11), (RX3, TX3, 6), (RX4, TX4, 7), (RX5, TX5, 9), (RX6, TX6, 8), (RX7, TX7, 16), (RX8, TX8, 9), (RX9, TX9, 5), (RX10, TX10, 15), (RX11, TX11, 79)]
/-- is field j of class ci a number? -/
def fI (ci j : Nat) : Bool := match ci with
  | 0 => [2].contains j
  | 1 => [4, 9].contains j
  | 2 => [9, 10].contains j
  | 3 => [5].contains j
  | 4 => [2].contains j
  | 5 => [1, 4, 5, 6, 7, 8].contains j
  | 6 => [7].contains j
  | 7 => [15].contains j
  | 8 => [7, 8].contains j
  | 9 => [4].contains j
  | 10 => [0].contains j
  | 11 => [0, 1, 9, 21, 22, 29, 30, 31, 32, 33, 34, 38, 39, 51, 54, 60, 63, 70, 75].contains j
  | _ => false
/-- the shape of cell k: its kind (below 12: an object of that class; 12 int[], 13 boolean[], 14 long[], 15 int[][]) and its length -/
def shp (k : Nat) : Nat × Nat := bif Nat.blt k 87 then (bif Nat.blt k 43 then (bif Nat.blt k 21 then (bif Nat.blt k 10 then (bif Nat.blt k 5 then (bif Nat.blt k 2 then (bif Nat.blt k 1 then ((10, 15)) else ((3, 6))) else (bif Nat.blt k 3 then ((12, 12)) else (bif Nat.blt k 4 then ((12, 12)) else ((12, 12))))) else (bif Nat.blt k 7 then (bif Nat.blt k 6 then ((12, 12)) else ((12, 12))) else (bif Nat.blt k 8 then ((2, 11)) else (bif Nat.blt k 9 then ((12, 120)) else ((12, 120)))))) else (bif Nat.blt k 15 then (bif Nat.blt k 12 then (bif Nat.blt k 11 then ((12, 120)) else ((12, 120))) else (bif Nat.blt k 13 then ((12, 120)) else (bif Nat.blt k 14 then ((12, 120)) else ((12, 120))))) else (bif Nat.blt k 18 then (bif Nat.blt k 16 then ((12, 120)) else (bif Nat.blt k 17 then ((13, 120)) else ((8, 9)))) else (bif Nat.blt k 19 then ((12, 8)) else (bif Nat.blt k 20 then ((12, 8)) else ((15, 8))))))) else (bif Nat.blt k 32 then (bif Nat.blt k 26 then (bif Nat.blt k 23 then (bif Nat.blt k 22 then ((12, 10)) else ((12, 10))) else (bif Nat.blt k 24 then ((12, 10)) else (bif Nat.blt k 25 then ((12, 10)) else ((12, 10))))) else (bif Nat.blt k 29 then (bif Nat.blt k 27 then ((12, 10)) else (bif Nat.blt k 28 then ((12, 10)) else ((12, 10)))) else (bif Nat.blt k 30 then ((15, 8)) else (bif Nat.blt k 31 then ((12, 10)) else ((12, 10)))))) else (bif Nat.blt k 37 then (bif Nat.blt k 34 then (bif Nat.blt k 33 then ((12, 10)) else ((12, 10))) else (bif Nat.blt k 35 then ((12, 10)) else (bif Nat.blt k 36 then ((12, 10)) else ((12, 10))))) else (bif Nat.blt k 40 then (bif Nat.blt k 38 then ((12, 10)) else (bif Nat.blt k 39 then ((12, 8)) else ((13, 8)))) else (bif Nat.blt k 41 then ((12, 10)) else (bif Nat.blt k 42 then ((5, 9)) else ((12, 160)))))))) else (bif Nat.blt k 65 then (bif Nat.blt k 54 then (bif Nat.blt k 48 then (bif Nat.blt k 45 then (bif Nat.blt k 44 then ((12, 10)) else ((12, 10))) else (bif Nat.blt k 46 then ((7, 16)) else (bif Nat.blt k 47 then ((13, 120)) else ((13, 120))))) else (bif Nat.blt k 51 then (bif Nat.blt k 49 then ((12, 120)) else (bif Nat.blt k 50 then ((12, 120)) else ((12, 120)))) else (bif Nat.blt k 52 then ((12, 120)) else (bif Nat.blt k 53 then ((12, 120)) else ((12, 120)))))) else (bif Nat.blt k 59 then (bif Nat.blt k 56 then (bif Nat.blt k 55 then ((12, 120)) else ((12, 12))) else (bif Nat.blt k 57 then ((12, 12)) else (bif Nat.blt k 58 then ((12, 12)) else ((7, 16))))) else (bif Nat.blt k 62 then (bif Nat.blt k 60 then ((13, 120)) else (bif Nat.blt k 61 then ((13, 120)) else ((12, 120)))) else (bif Nat.blt k 63 then ((12, 120)) else (bif Nat.blt k 64 then ((12, 120)) else ((12, 120))))))) else (bif Nat.blt k 76 then (bif Nat.blt k 70 then (bif Nat.blt k 67 then (bif Nat.blt k 66 then ((12, 120)) else ((12, 120))) else (bif Nat.blt k 68 then ((12, 120)) else (bif Nat.blt k 69 then ((12, 12)) else ((12, 12))))) else (bif Nat.blt k 73 then (bif Nat.blt k 71 then ((12, 12)) else (bif Nat.blt k 72 then ((0, 3)) else ((12, 201)))) else (bif Nat.blt k 74 then ((12, 120)) else (bif Nat.blt k 75 then ((9, 5)) else ((12, 40)))))) else (bif Nat.blt k 81 then (bif Nat.blt k 78 then (bif Nat.blt k 77 then ((12, 40)) else ((12, 40))) else (bif Nat.blt k 79 then ((12, 40)) else (bif Nat.blt k 80 then ((15, 8)) else ((12, 12))))) else (bif Nat.blt k 84 then (bif Nat.blt k 82 then ((12, 12)) else (bif Nat.blt k 83 then ((12, 12)) else ((12, 12)))) else (bif Nat.blt k 85 then ((12, 12)) else (bif Nat.blt k 86 then ((12, 12)) else ((12, 12))))))))) else (bif Nat.blt k 131 then (bif Nat.blt k 109 then (bif Nat.blt k 98 then (bif Nat.blt k 92 then (bif Nat.blt k 89 then (bif Nat.blt k 88 then ((12, 12)) else ((6, 8))) else (bif Nat.blt k 90 then ((12, 24)) else (bif Nat.blt k 91 then ((12, 24)) else ((12, 24))))) else (bif Nat.blt k 95 then (bif Nat.blt k 93 then ((12, 24)) else (bif Nat.blt k 94 then ((12, 8)) else ((12, 256)))) else (bif Nat.blt k 96 then ((12, 256)) else (bif Nat.blt k 97 then ((1, 10)) else ((12, 24)))))) else (bif Nat.blt k 103 then (bif Nat.blt k 100 then (bif Nat.blt k 99 then ((12, 24)) else ((12, 24))) else (bif Nat.blt k 101 then ((12, 24)) else (bif Nat.blt k 102 then ((12, 8)) else ((12, 8))))) else (bif Nat.blt k 106 then (bif Nat.blt k 104 then ((12, 8)) else (bif Nat.blt k 105 then ((13, 8)) else ((12, 6)))) else (bif Nat.blt k 107 then ((12, 4)) else (bif Nat.blt k 108 then ((4, 7)) else ((12, 12))))))) else (bif Nat.blt k 120 then (bif Nat.blt k 114 then (bif Nat.blt k 111 then (bif Nat.blt k 110 then ((12, 8)) else ((12, 256))) else (bif Nat.blt k 112 then ((12, 256)) else (bif Nat.blt k 113 then ((14, 256)) else ((14, 256))))) else (bif Nat.blt k 117 then (bif Nat.blt k 115 then ((11, 79)) else (bif Nat.blt k 116 then ((12, 12)) else ((12, 12)))) else (bif Nat.blt k 118 then ((12, 12)) else (bif Nat.blt k 119 then ((12, 12)) else ((12, 12)))))) else (bif Nat.blt k 125 then (bif Nat.blt k 122 then (bif Nat.blt k 121 then ((12, 12)) else ((12, 6))) else (bif Nat.blt k 123 then ((12, 120)) else (bif Nat.blt k 124 then ((12, 120)) else ((12, 120))))) else (bif Nat.blt k 128 then (bif Nat.blt k 126 then ((12, 120)) else (bif Nat.blt k 127 then ((12, 120)) else ((12, 120)))) else (bif Nat.blt k 129 then ((12, 120)) else (bif Nat.blt k 130 then ((13, 120)) else ((13, 120)))))))) else (bif Nat.blt k 153 then (bif Nat.blt k 142 then (bif Nat.blt k 136 then (bif Nat.blt k 133 then (bif Nat.blt k 132 then ((13, 120)) else ((12, 120))) else (bif Nat.blt k 134 then ((12, 8)) else (bif Nat.blt k 135 then ((12, 8)) else ((12, 80))))) else (bif Nat.blt k 139 then (bif Nat.blt k 137 then ((12, 80)) else (bif Nat.blt k 138 then ((12, 80)) else ((12, 160)))) else (bif Nat.blt k 140 then ((13, 8)) else (bif Nat.blt k 141 then ((12, 8)) else ((12, 9)))))) else (bif Nat.blt k 147 then (bif Nat.blt k 144 then (bif Nat.blt k 143 then ((13, 120)) else ((12, 120))) else (bif Nat.blt k 145 then ((12, 120)) else (bif Nat.blt k 146 then ((12, 120)) else ((12, 120))))) else (bif Nat.blt k 150 then (bif Nat.blt k 148 then ((12, 120)) else (bif Nat.blt k 149 then ((12, 120)) else ((12, 120)))) else (bif Nat.blt k 151 then ((12, 12)) else (bif Nat.blt k 152 then ((12, 12)) else ((12, 120))))))) else (bif Nat.blt k 164 then (bif Nat.blt k 158 then (bif Nat.blt k 155 then (bif Nat.blt k 154 then ((12, 120)) else ((12, 120))) else (bif Nat.blt k 156 then ((12, 40)) else (bif Nat.blt k 157 then ((12, 40)) else ((12, 40))))) else (bif Nat.blt k 161 then (bif Nat.blt k 159 then ((12, 40)) else (bif Nat.blt k 160 then ((12, 96)) else ((12, 32)))) else (bif Nat.blt k 162 then ((12, 256)) else (bif Nat.blt k 163 then ((12, 24)) else ((12, 24)))))) else (bif Nat.blt k 169 then (bif Nat.blt k 166 then (bif Nat.blt k 165 then ((12, 24)) else ((12, 24))) else (bif Nat.blt k 167 then ((12, 24)) else (bif Nat.blt k 168 then ((12, 8)) else ((13, 16))))) else (bif Nat.blt k 172 then (bif Nat.blt k 170 then ((12, 8)) else (bif Nat.blt k 171 then ((12, 8)) else ((12, 8)))) else (bif Nat.blt k 173 then ((12, 6)) else (bif Nat.blt k 174 then ((12, 24)) else ((12, 9)))))))))
/-- the reference in field (or row) j of cell k, once all is made -/
def ρ0 (k : Nat) (j : Int) : Option Nat := bif Nat.blt k 58 then (bif Nat.blt k 20 then (bif Nat.blt k 7 then (bif Nat.blt k 1 then (bif Nat.beq k 0 then (match j with | 1 => some 1 | 2 => some 7 | 3 => some 17 | 4 => some 41 | 5 => some 45 | 6 => some 58 | 7 => some 71 | 8 => some 74 | 9 => some 79 | 10 => some 88 | 11 => some 96 | 12 => some 105 | 13 => some 106 | 14 => some 107 | _ => none) else none) else (bif Nat.beq k 1 then (match j with | 0 => some 2 | 1 => some 3 | 2 => some 4 | 3 => some 5 | 4 => some 6 | _ => none) else none)) else (bif Nat.blt k 17 then (bif Nat.beq k 7 then (match j with | 0 => some 8 | 1 => some 9 | 2 => some 10 | 3 => some 11 | 4 => some 12 | 5 => some 13 | 6 => some 14 | 7 => some 15 | 8 => some 16 | _ => none) else none) else (bif Nat.beq k 17 then (match j with | 0 => some 18 | 1 => some 19 | 2 => some 20 | 3 => some 29 | 4 => some 38 | 5 => some 39 | 6 => some 40 | _ => none) else none))) else (bif Nat.blt k 41 then (bif Nat.blt k 29 then (bif Nat.beq k 20 && decide (0 ≤ j) && decide (j < 8) then some (21 + j.toNat) else none) else (bif Nat.beq k 29 && decide (0 ≤ j) && decide (j < 8) then some (30 + j.toNat) else none)) else (bif Nat.blt k 45 then (bif Nat.beq k 41 then (match j with | 0 => some 42 | 2 => some 43 | 3 => some 44 | _ => none) else none) else (bif Nat.beq k 45 then (match j with | 0 => some 1 | 1 => some 7 | 2 => some 17 | 3 => some 46 | 4 => some 47 | 5 => some 48 | 6 => some 49 | 7 => some 50 | 8 => some 51 | 9 => some 52 | 10 => some 53 | 11 => some 54 | 12 => some 55 | 13 => some 56 | 14 => some 57 | _ => none) else none)))) else (bif Nat.blt k 88 then (bif Nat.blt k 74 then (bif Nat.blt k 71 then (bif Nat.beq k 58 then (match j with | 0 => some 1 | 1 => some 7 | 2 => some 17 | 3 => some 59 | 4 => some 60 | 5 => some 61 | 6 => some 62 | 7 => some 63 | 8 => some 64 | 9 => some 65 | 10 => some 66 | 11 => some 67 | 12 => some 68 | 13 => some 69 | 14 => some 70 | _ => none) else none) else (bif Nat.beq k 71 then (match j with | 0 => some 72 | 1 => some 73 | _ => none) else none)) else (bif Nat.blt k 79 then (bif Nat.beq k 74 then (match j with | 0 => some 75 | 1 => some 76 | 2 => some 77 | 3 => some 78 | _ => none) else none) else (bif Nat.beq k 79 && decide (0 ≤ j) && decide (j < 8) then some (80 + j.toNat) else none))) else (bif Nat.blt k 107 then (bif Nat.blt k 96 then (bif Nat.beq k 88 then (match j with | 0 => some 89 | 1 => some 90 | 2 => some 91 | 3 => some 92 | 4 => some 93 | 5 => some 94 | 6 => some 95 | _ => none) else none) else (bif Nat.beq k 96 then (match j with | 0 => some 97 | 1 => some 98 | 2 => some 99 | 3 => some 100 | 5 => some 101 | 6 => some 102 | 7 => some 103 | 8 => some 104 | _ => none) else none)) else (bif Nat.blt k 114 then (bif Nat.beq k 107 then (match j with | 0 => some 108 | 1 => some 109 | 3 => some 110 | 4 => some 111 | 5 => some 112 | 6 => some 113 | _ => none) else none) else (bif Nat.beq k 114 then (match j with | 2 => some 115 | 3 => some 116 | 4 => some 117 | 5 => some 118 | 6 => some 119 | 7 => some 120 | 8 => some 121 | 10 => some 122 | 11 => some 123 | 12 => some 124 | 13 => some 125 | 14 => some 126 | 15 => some 127 | 16 => some 128 | 17 => some 129 | 18 => some 130 | 19 => some 131 | 20 => some 132 | 23 => some 133 | 24 => some 134 | 25 => some 135 | 26 => some 136 | 27 => some 137 | 28 => some 138 | 35 => some 139 | 36 => some 140 | 37 => some 141 | 40 => some 142 | 41 => some 143 | 42 => some 144 | 43 => some 145 | 44 => some 146 | 45 => some 147 | 46 => some 148 | 47 => some 149 | 48 => some 150 | 49 => some 151 | 50 => some 152 | 52 => some 153 | 53 => some 154 | 55 => some 155 | 56 => some 156 | 57 => some 157 | 58 => some 158 | 59 => some 159 | 61 => some 160 | 62 => some 161 | 64 => some 162 | 65 => some 163 | 66 => some 164 | 67 => some 165 | 68 => some 166 | 69 => some 167 | 71 => some 168 | 72 => some 169 | 73 => some 170 | 74 => some 171 | 76 => some 172 | 77 => some 173 | 78 => some 174 | _ => none) else none))))
/-- the numbers, once all is made -/
def σ0 (k : Nat) (j : Int) : Int := if (k = 17 ∧ j = 7) ∨ (k = 41 ∧ j = 6) ∨ (k = 114 ∧ j = 32) then -1 else if (k = 105 ∨ k = 121) ∧ 0 ≤ j ∧ j < 6 then 200 else 0
end
section
/-! OWN MACHINE. Numbers are Int, cells go by number (cell k lies at base + k; constants from 1000 on), their contents are functions. -/
abbrev AV : Type := Int ⊕ Int ⊕ Option Nat
abbrev vi (z : Int) : AV := Sum.inl z
abbrev vl (z : Int) : AV := Sum.inr (Sum.inl z)
abbrev vr (k : Nat) : AV := Sum.inr (Sum.inr (some k))
/-- base, the heap at the law's start, classes and slots, addresses of constants, the script's length and ints -/
abbrev GC : Type := Nat × Heap × va_G × (Nat → Nat) × Nat × (Nat → Int)
abbrev WS : Type := Nat × (Nat → Int → Option Nat) × (Nat → Int → Int)
abbrev MI : Type := MethodName × ByteArray × Nat × Option FieldType
def adr (G : GC) (k : Nat) : Nat := if k < 1000 then G.1 + k else G.2.2.2.1 (k - 1000)
def crf (G : GC) (r : Option Nat) : Value := match r with
  | none => .null
  | some k => .ref (adr G k)
def cvl (G : GC) (v : AV) : Value := match v with
  | .inl z => .int (Int32.ofInt z)
  | .inr (.inl z) => .long (Int64.ofInt z)
  | .inr (.inr r) => crf G r
def fvl (G : GC) (ci : Nat) (ρ : Nat → Int → Option Nat) (σ : Nat → Int → Int) (k j : Nat) : Value := if fI ci j = true then .int (Int32.ofInt (σ k j)) else crf G (ρ k j)
def upq {α : Type} (σ : Nat → Int → α) (k : Nat) (i : Int) (v : α) : Nat → Int → α := fun a => if a = k then (fun b => if b = i then v else σ k b) else σ a
theorem upq_ne {α : Type} {σ : Nat → Int → α} {k a : Nat} {i : Int} {v : α} (h : a ≠ k) : upq σ k i v a = σ a := if_neg h
theorem upq_eq {α : Type} {σ : Nat → Int → α} {k : Nat} {i b : Int} {v : α} : upq σ k i v k b = if b = i then v else σ k b := by unfold upq; rw [if_pos rfl]
def arrq (U : State) (H : Heap) (a : Nat) (ty : FieldType) (n : Nat) (f : Nat → Value) : Prop := ∃ cA : ClassId, H[a]? = some (arrV cA n f) ∧ ArrOfT U cA ty
/-- cell k holds what ρ and σ say -/
def cellq (G : GC) (ρ : Nat → Int → Option Nat) (σ : Nat → Int → Int) (U : State) (H : Heap) (k : Nat) : Prop := match shp k with
  | (12, n) => arrq U H (adr G k) .int n (fun j => .int (Int32.ofInt (σ k j)))
  | (13, n) => arrq U H (adr G k) .boolean n (fun j => .int (Int32.ofInt (σ k j)))
  | (14, n) => arrq U H (adr G k) .long n (fun j => .long (Int64.ofInt (σ k j)))
  | (15, n) => arrq U H (adr G k) (.array .int) n (fun j => crf G (ρ k j))
  | (ci, N) => t_OB (adr G k) (G.2.2.1.1 ci) N (G.2.2.1.2 ci) H (fun j => fvl G ci ρ σ k j)
def Invq (G : GC) (S : WS) (U : State) (H : Heap) : Prop := (H.size = G.1 + S.1 ∧ S.1 ≤ 175) ∧ (∀ q : Nat, q < G.1 → H[q]? = G.2.1[q]?) ∧ ∀ k : Nat, k < S.1 → cellq G S.2.1 S.2.2 U H k
/-- the words that hold on the way -/
def tbG : List Cond := lw_tbl.filter goodWord
/-- static arrays: class, name, length, contents (cells 1000, 1001 ..) -/
abbrev stq : List (String × String × List Int) := [("WharfPapers", "HAS_P", [1, 1, 0, 1, 0, 1, 0, 0, 0, 1, 0]), ("WharfPapers", "LEAST_N", [1, 0, 1, 1, -1, -1, -1, 1, 1, -1, -1]), ("WharfPapers", "MOST_N", [200, 1, 200, 9999, -1, -1, -1, 200, 200, -1, -1]), ("WharfPapers$Reader", "MOST_OF_NAME", [99, 1, 1, 999, 1]), ("WharfPapers$Terms", "AT_FIRST", [2, 1, 0, 10, 0, 0, 0, 0, 0, 2257]), ("WharfPapers$Plan", "OF_A_FLOOR", [279936, 46656, 7776, 1296, 216, 36, 6, 1])]
/-- texts: entry in the Reader's table, text (cells 1010 ..; their bytes 1030 ..) -/
abbrev txq : List (Nat × String × List Int32) := [(98, "rent", [114, 101, 110, 116]), (100, "title", [116, 105, 116, 108, 101]), (102, "stop", [115, 116, 111, 112]), (104, "bear", [98, 101, 97, 114]), (106, "beyond", [98, 101, 121, 111, 110, 100]), (108, "bank", [98, 97, 110, 107]), (110, "seller", [115, 101, 108, 108, 101, 114]), (112, "owner", [111, 119, 110, 101, 114]), (114, "let", [108, 101, 116]), (116, "dry", [100, 114, 121]), (118, "rank", [114, 97, 110, 107]), (120, "strike", [115, 116, 114, 105, 107, 101]), (122, "by", [98, 121])]
def lenq : List Nat := txq.map (fun q => q.2.2.length)
def bytq : List (List Int32) := txq.map (fun q => q.2.2)
abbrev sfmt : String := "Ljava/util/function/BiFunction;"
/-- links of nest mates -/
abbrev nstq : List (String × Nat × MethodName × String) := [("WharfPapers", 15, ⟨"WharfPapers$Lots", "<init>", "()V"⟩, "WharfPapers"), ("WharfPapers", 22, ⟨"WharfPapers$Lines", "<init>", "()V"⟩, "WharfPapers"), ("WharfPapers", 29, ⟨"WharfPapers$Terms", "<init>", "()V"⟩, "WharfPapers"), ("WharfPapers", 36, ⟨"WharfPapers$Reader", "<init>", "()V"⟩, "WharfPapers"), ("WharfPapers", 55, ⟨"WharfPapers$Doubt", "<init>", "()V"⟩, "WharfPapers"), ("WharfPapers", 62, ⟨"WharfPapers$Weighings", "<init>", "()V"⟩, "WharfPapers"), ("WharfPapers", 74, ⟨"WharfPapers$Sales", "<init>", "()V"⟩, "WharfPapers"), ("WharfPapers", 81, ⟨"WharfPapers$Dues", "<init>", "()V"⟩, "WharfPapers"), ("WharfPapers", 95, ⟨"WharfPapers$Plan", "<init>", "()V"⟩, "WharfPapers"), ("WharfPapers$Doubt", 45, ⟨"WharfPapers", "within", "(III)Z"⟩, "WharfPapers")]
def AOA (U : State) : Prop := (Cond.arrayOver (.array .int)).before #[] U = true
theorem AOA.moved {u U : State} (hvm : u.vm.Alike U.vm) (h : AOA u) : AOA U := Jvm.Stand.arrayOver_alikeB hvm h
theorem AOA.use {A : Array Value} {U : State} (h : AOA U) : (Cond.arrayOver (.array .int)).before A U = true := h
/-- what the tables give of any state on the way: classes, static arrays, texts, the script -/
def Kst (G : GC) (U : State) : Prop := va_K G.2.2.1 vwCl [] U ∧
  (∀ (i : Nat) (q : String × String × List Int), stq[i]? = some q → va_Z q.1 q.2.1 "[I" (.ref (adr G (1000 + i))) (fun a => G.1 ≤ a) U G.2.1 ∧ va_T .int (adr G (1000 + i)) q.2.2.length (fun j => .int (Int32.ofInt (q.2.2.getD j 0))) (fun a => G.1 ≤ a) U G.2.1) ∧
  (∀ (i : Nat) (q : Nat × String × List Int32), txq[i]? = some q → vk_R "WharfPapers$Reader" q.1 q.2.1 (adr G (1010 + i)) U) ∧
  vk_S 13 lenq bytq (fun i => adr G (1010 + i)) (fun i => adr G (1030 + i)) (fun a => G.1 ≤ a) U G.2.1 ∧
  va_Z "java/lang/String" "COMPACT_STRINGS" "Z" (.int 1) (fun a => G.1 ≤ a) U G.2.1 ∧
  (∃ r : Option Nat, va_Z "jdk/internal/util/Preconditions" "SIOOBE_FORMATTER" sfmt (crf G r) (fun a => G.1 ≤ a) U G.2.1) ∧
  va_T .int (adr G 1060) G.2.2.2.2.1 (fun j => .int (Int32.ofInt (G.2.2.2.2.2 j))) (fun a => G.1 ≤ a) U G.2.1 ∧
  (∀ q ∈ nstq, va_Nw (.methodLinkNest q.1 q.2.1 q.2.2.1 q.2.2.2) U) ∧ AOA U
theorem Kst.warm {G : GC} {u U : State} (hW : u.WarmedH U.vm) (h : Kst G u) : Kst G U := by
  obtain ⟨h1, h2, h3, h4, h5, ⟨r, h6⟩, h7, h8, h9⟩ := h
  exact ⟨va_K.moved hW.alike h1, fun i q hq => ⟨(h2 i q hq).1.moved hW.alike, (h2 i q hq).2.moved hW.alike⟩, fun i q hq => (h3 i q hq).warm hW, h4.moved hW.alike, h5.moved hW.alike, ⟨r, h6.moved hW.alike⟩, h7.moved hW.alike, fun q hq => va_Nw.warmM hW (h8 q hq), h9.moved hW.alike⟩
theorem Kst.same {G : GC} {u U : State} (hv : U.vm = u.vm) (h : Kst G u) : Kst G U := by
  have ha : u.vm.Alike U.vm := by rw [hv]; exact Vm.Alike.refl _
  obtain ⟨h1, h2, h3, h4, h5, ⟨r, h6⟩, h7, h8, h9⟩ := h
  exact ⟨va_K.moved ha h1, fun i q hq => ⟨(h2 i q hq).1.moved ha, (h2 i q hq).2.moved ha⟩, fun i q hq => (h3 i q hq).same hv, h4.moved ha, h5.moved ha, ⟨r, h6.moved ha⟩, h7.moved ha, fun q hq => (h8 q hq).same rfl hv.symm, h9.moved ha⟩
theorem arrq.moved {u U : State} {H : Heap} {a : Nat} {ty : FieldType} {n : Nat} {f : Nat → Value} (hvm : u.vm.Alike U.vm) (h : arrq u H a ty n f) : arrq U H a ty n f := by
  obtain ⟨cA, h1, h2⟩ := h
  exact ⟨cA, h1, arrOfT_moved hvm h2⟩
theorem cellq.moved {G : GC} {ρ : Nat → Int → Option Nat} {σ : Nat → Int → Int} {u U : State} {H : Heap} {k : Nat} (hvm : u.vm.Alike U.vm) (h : cellq G ρ σ u H k) : cellq G ρ σ U H k := by
  unfold cellq at h ⊢
  split at h
  · exact arrq.moved hvm h
  · exact arrq.moved hvm h
  · exact arrq.moved hvm h
  · exact arrq.moved hvm h
  · exact h
theorem Invq.moved {G : GC} {S : WS} {u U : State} {H : Heap} (hvm : u.vm.Alike U.vm) (h : Invq G S u H) : Invq G S U H := ⟨h.1, h.2.1, fun k hk => (h.2.2 k hk).moved hvm⟩
theorem adr_lt {G : GC} {k : Nat} (h : k < 1000) : adr G k = G.1 + k := if_pos h
/-- a cell reads alike where heap, refs and numbers are alike there -/
theorem cellq.kept {G : GC} {ρ ρ' : Nat → Int → Option Nat} {σ σ' : Nat → Int → Int} {U : State} {H H' : Heap} {k : Nat} (h : cellq G ρ σ U H k) (hH : H'[adr G k]? = H[adr G k]?) (hρ : ρ' k = ρ k) (hσ : σ' k = σ k) : cellq G ρ' σ' U H' k := by
  unfold cellq at h ⊢
  split at h
  · obtain ⟨cA, h1, h2⟩ := h; exact ⟨cA, by rw [hH, h1, hσ], h2⟩
  · obtain ⟨cA, h1, h2⟩ := h; exact ⟨cA, by rw [hH, h1, hσ], h2⟩
  · obtain ⟨cA, h1, h2⟩ := h; exact ⟨cA, by rw [hH, h1, hσ], h2⟩
  · obtain ⟨cA, h1, h2⟩ := h; exact ⟨cA, by rw [hH, h1, hρ], h2⟩
  · refine t_OB.to (t_OB.kept h hH) (fun j _ => ?_)
    unfold fvl
    rw [hσ, hρ]
/-- one cell is written: the world behind it -/
theorem Invq.put {G : GC} {n : Nat} {ρ ρ' : Nat → Int → Option Nat} {σ σ' : Nat → Int → Int} {U : State} {H H' : Heap} {k : Nat} (h : Invq G (n, ρ, σ) U H) (hk : k < n) (hs : H'.size = H.size) (ho : ∀ q : Nat, q ≠ adr G k → H'[q]? = H[q]?) (hc : cellq G ρ' σ' U H' k) (hρ : ∀ a, a ≠ k → ρ' a = ρ a) (hσ : ∀ a, a ≠ k → σ' a = σ a) : Invq G (n, ρ', σ') U H' := by
  obtain ⟨⟨h1, h0⟩, h2, h3⟩ := h
  have hk9 : k < 1000 := Nat.lt_of_lt_of_le hk (Nat.le_trans h0 (by decide))
  refine ⟨⟨by rw [hs, h1], h0⟩, fun q hq => ?_, fun a ha => ?_⟩
  · rw [ho q (by rw [adr_lt hk9]; omega)]
    exact h2 q hq
  · by_cases e : a = k
    · subst e; exact hc
    · refine (h3 a ha).kept (ho _ ?_) (hρ a e) (hσ a e)
      have ha9 : a < 1000 := Nat.lt_of_lt_of_le ha (Nat.le_trans h0 (by decide))
      rw [adr_lt hk9, adr_lt ha9]
      omega
/-! locals -/
def hdL (l : List (Option AV)) : Option AV := match l with
  | [] => none
  | a :: _ => a
def noL (a : Option AV) : Option AV := match a with
  | some (.inr (.inl _)) => none
  | b => b
def sL : Nat → List (Option AV) → AV → List (Option AV)
  | 0, l, v => some v :: l.tail
  | 1, l, v => noL (hdL l) :: some v :: l.tail.tail
  | i + 2, l, v => hdL l :: sL (i + 1) l.tail v
/-- a long: the place behind it is gone too -/
def sLL : Nat → List (Option AV) → AV → List (Option AV)
  | 0, l, v => some v :: none :: l.tail.tail
  | 1, l, v => noL (hdL l) :: some v :: none :: l.tail.tail.tail
  | i + 2, l, v => hdL l :: sLL (i + 1) l.tail v
def prL (G : GC) : Nat → List (Option AV) → List (Nat × Value)
  | _, [] => []
  | n, none :: l => prL G (n + 1) l
  | n, some v :: l => (n, cvl G v) :: prL G (n + 1) l
def nthq {α : Type} : List α → Nat → Option α
  | [], _ => none
  | a :: _, 0 => some a
  | _ :: l, n + 1 => nthq l n
theorem prL_in {G : GC} : ∀ {L : List (Option AV)} {n i : Nat} {v : AV}, nthq L i = some (some v) → (n + i, cvl G v) ∈ prL G n L
  | [], n, i, v, h => by cases h
  | none :: l, n, 0, v, h => by cases h
  | none :: l, n, i + 1, v, h => by
    have := prL_in (G := G) (L := l) (n := n + 1) (i := i) (v := v) h
    show _ ∈ prL G (n + 1) l
    rw [show n + (i + 1) = n + 1 + i by omega]
    exact this
  | some w :: l, n, 0, v, h => by
    cases h
    exact List.mem_cons_self
  | some w :: l, n, i + 1, v, h => by
    have := prL_in (G := G) (L := l) (n := n + 1) (i := i) (v := v) h
    show _ ∈ _ :: prL G (n + 1) l
    rw [show n + (i + 1) = n + 1 + i by omega]
    exact List.mem_cons_of_mem _ this
theorem prL_of {G : GC} : ∀ {L : List (Option AV)} {n : Nat} {q : Nat × Value}, q ∈ prL G n L → ∃ (i : Nat) (v : AV), nthq L i = some (some v) ∧ q = (n + i, cvl G v)
  | [], n, q, h => by cases h
  | none :: l, n, q, h => by
    obtain ⟨i, v, h1, h2⟩ := prL_of (G := G) (L := l) (n := n + 1) h
    exact ⟨i + 1, v, h1, by rw [h2]; congr 1; omega⟩
  | some w :: l, n, q, h => by
    rcases List.mem_cons.mp h with h | h
    · exact ⟨0, w, rfl, h⟩
    · obtain ⟨i, v, h1, h2⟩ := prL_of (G := G) (L := l) (n := n + 1) h
      exact ⟨i + 1, v, h1, by rw [h2]; congr 1; omega⟩
def lh (G : GC) (ls : Array Slot) (nL : Nat) (L : List (Option AV)) : Prop := lv_has ls nL (prL G 0 L)
theorem lh.at {G : GC} {ls : Array Slot} {nL : Nat} {L : List (Option AV)} (h : lh G ls nL L) {i : Nat} {v : AV} (hi : nthq L i = some (some v)) : ls[i]? = some (.val (cvl G v)) := by
  have := h.2.2 _ (prL_in (G := G) (n := 0) hi)
  simpa using this
theorem nthq_hd {L : List (Option AV)} {v : AV} (h : hdL L = some v) : nthq L 0 = some (some v) := by
  cases L with
  | nil => cases h
  | cons a l => exact congrArg some h
theorem nthq_tl {α : Type} {L : List α} {i : Nat} {v : α} (h : nthq L.tail i = some v) : nthq L (i + 1) = some v := by
  cases L with
  | nil => cases h
  | cons a l => exact h
theorem noL_some {a : Option AV} {v : AV} (h : noL a = some v) : a = some v ∧ ∀ z, v ≠ vl z := by
  unfold noL at h
  split at h
  · cases h
  · rename_i hn
    refine ⟨h, fun z hz => ?_⟩
    subst hz
    exact hn z h
theorem sL_at : ∀ {i : Nat} {L : List (Option AV)} {v w : AV} {j : Nat}, nthq (sL i L v) j = some (some w) → (j = i ∧ w = v) ∨ (j ≠ i ∧ nthq L j = some (some w) ∧ (j + 1 = i → ∀ z, w ≠ vl z))
  | 0, L, v, w, 0, h => Or.inl ⟨rfl, by cases h; rfl⟩
  | 0, L, v, w, j + 1, h => Or.inr ⟨by omega, nthq_tl h, by omega⟩
  | 1, L, v, w, 0, h => by
    have h1 : noL (hdL L) = some w := Option.some.inj h
    obtain ⟨h2, h3⟩ := noL_some h1
    exact Or.inr ⟨by omega, nthq_hd h2, fun _ => h3⟩
  | 1, L, v, w, 1, h => Or.inl ⟨rfl, by cases h; rfl⟩
  | 1, L, v, w, j + 2, h => Or.inr ⟨by omega, nthq_tl (nthq_tl h), by omega⟩
  | i + 2, L, v, w, 0, h => Or.inr ⟨by omega, nthq_hd (Option.some.inj h), by omega⟩
  | i + 2, L, v, w, j + 1, h => by
    rcases sL_at (i := i + 1) (L := L.tail) (v := v) (w := w) (j := j) h with ⟨h1, h2⟩ | ⟨h1, h2, h3⟩
    · exact Or.inl ⟨by omega, h2⟩
    · exact Or.inr ⟨by omega, nthq_tl h2, fun e => h3 (by omega)⟩
theorem sLL_at : ∀ {i : Nat} {L : List (Option AV)} {v w : AV} {j : Nat}, nthq (sLL i L v) j = some (some w) → (j = i ∧ w = v) ∨ (j ≠ i ∧ j ≠ i + 1 ∧ nthq L j = some (some w) ∧ (j + 1 = i → ∀ z, w ≠ vl z))
  | 0, L, v, w, 0, h => Or.inl ⟨rfl, by cases h; rfl⟩
  | 0, L, v, w, 1, h => by cases h
  | 0, L, v, w, j + 2, h => Or.inr ⟨by omega, by omega, nthq_tl (nthq_tl h), by omega⟩
  | 1, L, v, w, 0, h => by
    have h1 : noL (hdL L) = some w := Option.some.inj h
    obtain ⟨h2, h3⟩ := noL_some h1
    exact Or.inr ⟨by omega, by omega, nthq_hd h2, fun _ => h3⟩
  | 1, L, v, w, 1, h => Or.inl ⟨rfl, by cases h; rfl⟩
  | 1, L, v, w, 2, h => by cases h
  | 1, L, v, w, j + 3, h => Or.inr ⟨by omega, by omega, nthq_tl (nthq_tl (nthq_tl h)), by omega⟩
  | i + 2, L, v, w, 0, h => Or.inr ⟨by omega, by omega, nthq_hd (Option.some.inj h), by omega⟩
  | i + 2, L, v, w, j + 1, h => by
    rcases sLL_at (i := i + 1) (L := L.tail) (v := v) (w := w) (j := j) h with ⟨h1, h2⟩ | ⟨h1, h0, h2, h3⟩
    · exact Or.inl ⟨by omega, h2⟩
    · exact Or.inr ⟨by omega, by omega, nthq_tl h2, fun e => h3 (by omega)⟩
theorem cvl_cat {G : GC} {w : AV} (h : (cvl G w).category = 2) : ∃ z, w = vl z := by
  match w with
  | .inl z => cases h
  | .inr (.inl z) => exact ⟨z, rfl⟩
  | .inr (.inr none) => cases h
  | .inr (.inr (some k)) => cases h
theorem lh.set {G : GC} {ls : Array Slot} {nL i : Nat} {L : List (Option AV)} {v : AV} {lv' : List (Nat × Value)} (hl : (i, cvl G v) :: (prL G 0 L).filter (fun q => !(q.1 == i) && !(q.1 + 1 == i && q.2.category == 2)) = lv') (h : lv_has ls nL lv') : lh G ls nL (sL i L v) := by
  refine ⟨h.1, h.2.1, fun q hq => h.2.2 q ?_⟩
  obtain ⟨j, w, h1, rfl⟩ := prL_of hq
  rw [← hl, Nat.zero_add]
  rcases sL_at h1 with ⟨rfl, rfl⟩ | ⟨h2, h3, h4⟩
  · exact List.mem_cons_self
  · refine List.mem_cons_of_mem _ (List.mem_filter.mpr ⟨by simpa using prL_in (G := G) (n := 0) h3, ?_⟩)
    have h5 : (j + 1 == i && (cvl G w).category == 2) = false := by
      by_cases e : j + 1 = i
      · have : ¬ (cvl G w).category = 2 := fun q => by
          obtain ⟨z, hz⟩ := cvl_cat q
          exact h4 e z hz
        simp [this]
      · simp [e]
    simp [h2, h5]
theorem lh.setL {G : GC} {ls : Array Slot} {nL i : Nat} {L : List (Option AV)} {v : AV} {lv' : List (Nat × Value)} (hl : (i, cvl G v) :: (prL G 0 L).filter (fun q => !(q.1 == i) && (!(q.1 == i + 1) && !(q.1 + 1 == i && q.2.category == 2))) = lv') (h : lv_has ls nL lv') : lh G ls nL (sLL i L v) := by
  refine ⟨h.1, h.2.1, fun q hq => h.2.2 q ?_⟩
  obtain ⟨j, w, h1, rfl⟩ := prL_of hq
  rw [← hl, Nat.zero_add]
  rcases sLL_at h1 with ⟨rfl, rfl⟩ | ⟨h2, h6, h3, h4⟩
  · exact List.mem_cons_self
  · refine List.mem_cons_of_mem _ (List.mem_filter.mpr ⟨by simpa using prL_in (G := G) (n := 0) h3, ?_⟩)
    have h5 : (j + 1 == i && (cvl G w).category == 2) = false := by
      by_cases e : j + 1 = i
      · have : ¬ (cvl G w).category = 2 := fun q => by
          obtain ⟨z, hz⟩ := cvl_cat q
          exact h4 e z hz
        simp [this]
      · simp [e]
    simp [h2, h5, h6]
end
section
/-! THE OWN MACHINE'S JUDGEMENT: from a frame at pc with locals L and stack st in the world S the method returns, and Q holds of answer and world. -/
abbrev En : Type := Nat × Instr × Nat × Nat × Nat
def jofq (i : Instr) : Option Int := match i with
  | .goto o => some o
  | .ifCond _ o => some o
  | .if_icmp _ o => some o
  | _ => none
/-- an entry of a code list: its place, instruction, length, the next place, the place that it jumps to -/
def dok (cc : ByteArray) (e : En) : Prop := decode cc e.1 = .ok (e.2.1, e.2.2.1) ∧ e.1 + e.2.2.1 = e.2.2.2.1 ∧ ∀ o, jofq e.2.1 = some o → (e.1 : Int) + o = (e.2.2.2.2 : Int)
def dokb (cc : ByteArray) (e : En) : Bool := decide (decode cc e.1 = .ok (e.2.1, e.2.2.1)) && (decide (e.1 + e.2.2.1 = e.2.2.2.1) && (match jofq e.2.1 with
  | some o => decide ((e.1 : Int) + o = (e.2.2.2.2 : Int))
  | none => true))
theorem dok_of {cc : ByteArray} {e : En} (h : dokb cc e = true) : dok cc e := by
  unfold dokb at h
  rw [Bool.and_eq_true, Bool.and_eq_true] at h
  refine ⟨of_decide_eq_true h.1, of_decide_eq_true h.2.1, fun o ho => ?_⟩
  have h3 := h.2.2
  rw [ho] at h3
  exact of_decide_eq_true h3
theorem dok_at {cc : ByteArray} {es : List En} (h : es.all (dokb cc) = true) : ∀ {e : En} (i : Nat), nthq es i = some e → dok cc e := by
  intro e i hi
  refine dok_of (List.all_eq_true.mp h e ?_)
  clear h
  induction es generalizing i with
  | nil => cases hi
  | cons a l ih =>
    cases i with
    | zero => cases hi; exact List.mem_cons_self
    | succ i => exact List.mem_cons_of_mem _ (ih i hi)
def rokq (ret : Option FieldType) (r : Option AV) : Prop := match ret, r with
  | none, none => True
  | some .int, some (.inl _) => True
  | some .boolean, some (.inl z) => z = 0 ∨ z = 1
  | some .byte, some (.inl z) => z = 0
  | some .char, some (.inl z) => 0 ≤ z ∧ z < 65536
  | some .long, some (.inr (.inl _)) => True
  | some (.object _), some (.inr (.inr (some _))) => True
  | _, _ => False
def rinq (r : Option AV) : Instr := match r with
  | none => .return_
  | some (.inl _) => .ireturn
  | some (.inr (.inl _)) => .lreturn
  | some (.inr (.inr _)) => .areturn
def RunX (l : Launch) (G : GC) (M : MI) (R : Room) (pc : Nat) (L : List (Option AV)) (st : List AV) (S : WS) (ca sl : Nat) (Q : Option AV → WS → Prop) : Prop :=
  ∀ (p : Program) (e : Env) (s : State) (m : MethodId) (args : Array Value) (below : List Frame) (meth : Method) (c : Code) (H : Heap) (locs : List Loc) (Z : State → Prop) (ls : Array Slot),
    CallFix p m c M.2.1 M.2.2.1 s args tbG M.1.cls → meth.name = M.1.name → Kst G s →
    (∀ (r : Option AV) (S' : WS) (pc' : Nat) (ls' : Array Slot) (H' : Heap) (locs' : List Loc) (ca' sl' : Nat), Q r S' → rokq M.2.2.2 r → decode M.2.1 pc' = .ok (rinq r, 1) → Invq G S' s H' → (∀ q ∈ locs', G.1 ≤ q.base) → ca' ≤ R.cells → sl' ≤ R.slots →
      W p l e R s m args below meth c H' locs' ca' sl' Z (F0 m pc' ls' (r.toList.map (cvl G)))) →
    Invq G S s H → (∀ q ∈ locs, G.1 ≤ q.base) → lh G ls M.2.2.1 L →
    W p l e R s m args below meth c H locs ca sl Z (F0 m pc ls (st.map (cvl G)))
/-! numbers -/
abbrev rgi (z : Int) : Prop := -2147483648 ≤ z ∧ z < 2147483648
abbrev rgl (z : Int) : Prop := -9223372036854775808 ≤ z ∧ z < 9223372036854775808
theorem o32 {z : Int} (h : rgi z) : (Int32.ofInt z).toInt = z := by
  have q : (Int32.size : Int) = 4294967296 := rfl
  rw [Int32.toInt_ofInt, Int.bmod_eq_of_le (by omega) (by omega)]
theorem o64 {z : Int} (h : rgl z) : (Int64.ofInt z).toInt = z := by
  have q : (Int64.size : Int) = 18446744073709551616 := rfl
  rw [Int64.toInt_ofInt, Int.bmod_eq_of_le (by omega) (by omega)]
theorem o32_lt {x y : Int} (hx : rgi x) (hy : rgi y) : Int32.ofInt x < Int32.ofInt y ↔ x < y := by rw [Int32.lt_iff_toInt_lt, o32 hx, o32 hy]
theorem o32_le {x y : Int} (hx : rgi x) (hy : rgi y) : Int32.ofInt x ≤ Int32.ofInt y ↔ x ≤ y := by rw [Int32.le_iff_toInt_le, o32 hx, o32 hy]
theorem o32_eq {x y : Int} (hx : rgi x) (hy : rgi y) : Int32.ofInt x = Int32.ofInt y ↔ x = y := by rw [← Int32.toInt_inj, o32 hx, o32 hy]
theorem o64_lt {x y : Int} (hx : rgl x) (hy : rgl y) : Int64.ofInt x < Int64.ofInt y ↔ x < y := by rw [Int64.lt_iff_toInt_lt, o64 hx, o64 hy]
theorem o64_eq {x y : Int} (hx : rgl x) (hy : rgl y) : Int64.ofInt x = Int64.ofInt y ↔ x = y := by rw [← Int64.toInt_inj, o64 hx, o64 hy]
theorem o32_0 : (0 : Int32) = Int32.ofInt 0 := rfl
theorem o32_ix {i : Int} (h0 : 0 ≤ i) (h1 : i < 2147483648) : (Int32.ofInt i).toNatClampNeg = i.toNat := by
  rw [Int32.toNatClampNeg, o32 ⟨by omega, h1⟩]
theorem o32_in {i : Int} {n : Nat} (h : 0 ≤ i ∧ i < n) (hn : n ≤ 100000) : ¬ (Int32.ofInt i < 0 ∨ n ≤ (Int32.ofInt i).toNatClampNeg) := by
  rw [o32_0, o32_lt (by omega) (by decide), o32_ix h.1 (by omega)]
  omega
theorem o32_div {x y : Int} (hx : 0 ≤ x ∧ x < 2147483648) (hy : 0 < y ∧ y < 2147483648) : Int32.ofInt x / Int32.ofInt y = Int32.ofInt (x / y) := by
  rw [← Int32.toInt_inj, Int32.toInt_div, o32 (by omega), o32 (by omega), Int.tdiv_eq_ediv_of_nonneg hx.1]
  have h1 : x / y ≤ x := Int.ediv_le_self _ hx.1
  have h2 : 0 ≤ x / y := Int.ediv_nonneg hx.1 (by omega)
  rw [o32 (by omega), Int.bmod_eq_of_le (by omega) (by omega)]
theorem o64_div {x y : Int} (hx : 0 ≤ x ∧ x < 9223372036854775808) (hy : 0 < y ∧ y < 9223372036854775808) : Int64.ofInt x / Int64.ofInt y = Int64.ofInt (x / y) := by
  rw [← Int64.toInt_inj, Int64.toInt_div, o64 (by omega), o64 (by omega), Int.tdiv_eq_ediv_of_nonneg hx.1]
  have h1 : x / y ≤ x := Int.ediv_le_self _ hx.1
  have h2 : 0 ≤ x / y := Int.ediv_nonneg hx.1 (by omega)
  rw [o64 (by omega), Int.bmod_eq_of_le (by omega) (by omega)]
/-- the bits' own words; lemmas on small numbers come later -/
def bAnd (x y : Int) : Int := (Int32.ofInt x &&& Int32.ofInt y).toInt
def bOr (x y : Int) : Int := (Int32.ofInt x ||| Int32.ofInt y).toInt
def bXor (x y : Int) : Int := (Int32.ofInt x ^^^ Int32.ofInt y).toInt
def bShl (x y : Int) : Int := (Int32.ofInt x <<< (Int32.ofInt y &&& 31)).toInt
def bShr (x y : Int) : Int := (Int32.ofInt x >>> (Int32.ofInt y &&& 31)).toInt
def bUsh (x y : Int) : Int := ((Int32.ofInt x).toUInt32 >>> ((Int32.ofInt y).toUInt32 &&& Int32.toUInt32 31)).toInt32.toInt
def lAnd (x y : Int) : Int := (Int64.ofInt x &&& Int64.ofInt y).toInt
def lOr (x y : Int) : Int := (Int64.ofInt x ||| Int64.ofInt y).toInt
def lShl (x y : Int) : Int := (Int64.ofInt x <<< ((Int32.ofInt y).toInt64 &&& 63)).toInt
def lShr (x y : Int) : Int := (Int64.ofInt x >>> ((Int32.ofInt y).toInt64 &&& 63)).toInt
def lUsh (x y : Int) : Int := ((Int64.ofInt x).toUInt64 >>> ((Int32.ofInt y).toInt64.toUInt64 &&& Int64.toUInt64 63)).toInt64.toInt
def lCmp (x y : Int) : Int := if y < x then 1 else if x = y then 0 else -1
def l2iq (x : Int) : Int := (Int64.ofInt x).toInt32.toInt
theorem shp_le : ∀ k, k < 175 → (shp k).2 ≤ 256 := by decide +kernel
section XR
variable {l : Launch} {G : GC} {M : MI} {R : Room} {pc nx tg : Nat} {L : List (Option AV)} {st : List AV} {S : WS} {ca sl : Nat} {Q : Option AV → WS → Prop}
theorem x_iconst {z : Int} (hd : dok M.2.1 (pc, .iconst z, 1, nx, tg)) (k : RunX l G M R nx L (vi z :: st) S ca sl Q) : RunX l G M R pc L (st) S ca sl Q := by
  intro p e s m args below meth c H locs Z ls hc hn hks hr hi hlo hl
  obtain ⟨hd1, hd2, hd3⟩ := hd
  dsimp only at hd1 hd2 hd3
  subst hd2
  have k1 := k p e s m args below meth c H locs Z ls hc hn hks hr hi hlo hl
  refine lv_iconst hc.1 hc.2.1 hd1 rfl ?_
  exact k1
theorem x_bipush {z w : Int} (hd : dok M.2.1 (pc, .bipush w, 2, nx, tg)) (hz : (Int8.ofInt w).toInt32 = Int32.ofInt z) (k : RunX l G M R nx L (vi z :: st) S ca sl Q) : RunX l G M R pc L (st) S ca sl Q := by
  intro p e s m args below meth c H locs Z ls hc hn hks hr hi hlo hl
  obtain ⟨hd1, hd2, hd3⟩ := hd
  dsimp only at hd1 hd2 hd3
  subst hd2
  have k1 := k p e s m args below meth c H locs Z ls hc hn hks hr hi hlo hl
  refine lv_bipush hc.1 hc.2.1 hd1 hz ?_
  exact k1
theorem x_sipush {z w : Int} (hd : dok M.2.1 (pc, .sipush w, 3, nx, tg)) (hz : (Int16.ofInt w).toInt32 = Int32.ofInt z) (k : RunX l G M R nx L (vi z :: st) S ca sl Q) : RunX l G M R pc L (st) S ca sl Q := by
  intro p e s m args below meth c H locs Z ls hc hn hks hr hi hlo hl
  obtain ⟨hd1, hd2, hd3⟩ := hd
  dsimp only at hd1 hd2 hd3
  subst hd2
  have k1 := k p e s m args below meth c H locs Z ls hc hn hks hr hi hlo hl
  refine lv_sipush hc.1 hc.2.1 hd1 hz ?_
  exact k1
theorem x_lconst {n : Fin 2} {z : Int} (hd : dok M.2.1 (pc, .lconst n, 1, nx, tg)) (hz : Int64.ofNat (n : Nat) = Int64.ofInt z) (k : RunX l G M R nx L (vl z :: st) S ca sl Q) : RunX l G M R pc L (st) S ca sl Q := by
  intro p e s m args below meth c H locs Z ls hc hn hks hr hi hlo hl
  obtain ⟨hd1, hd2, hd3⟩ := hd
  dsimp only at hd1 hd2 hd3
  subst hd2
  have k1 := k p e s m args below meth c H locs Z ls hc hn hks hr hi hlo hl
  refine lv_lconst hc.1 hc.2.1 hd1 hz ?_
  exact k1
theorem x_ldc {z : Int} {v : Int32} {idx : Nat} (hd : dok M.2.1 (pc, .ldc idx, 2, nx, tg)) (hw : Jvm.Cond.constant M.1.cls idx v ∈ tbG) (hz : v = Int32.ofInt z) (k : RunX l G M R nx L (vi z :: st) S ca sl Q) : RunX l G M R pc L (st) S ca sl Q := by
  intro p e s m args below meth c H locs Z ls hc hn hks hr hi hlo hl
  obtain ⟨hd1, hd2, hd3⟩ := hd
  dsimp only at hd1 hd2 hd3
  subst hd2
  have k1 := k p e s m args below meth c H locs Z ls hc hn hks hr hi hlo hl
  refine lv_ldc hc.1 hc.2.1 hc.2.2.2.1 (hc.2.2.2.2 _ hw) hd1 ?_
  rw [hz]
  exact k1
theorem x_ldc2 {z : Int} {v : Int64} {idx : Nat} (hd : dok M.2.1 (pc, .ldc2_w idx, 3, nx, tg)) (hw : Jvm.Cond.constantLong M.1.cls idx v ∈ tbG) (hz : v = Int64.ofInt z) (k : RunX l G M R nx L (vl z :: st) S ca sl Q) : RunX l G M R pc L (st) S ca sl Q := by
  intro p e s m args below meth c H locs Z ls hc hn hks hr hi hlo hl
  obtain ⟨hd1, hd2, hd3⟩ := hd
  dsimp only at hd1 hd2 hd3
  subst hd2
  have k1 := k p e s m args below meth c H locs Z ls hc hn hks hr hi hlo hl
  refine lv_ldc2 hc.1 hc.2.1 hc.2.2.2.1 (hc.2.2.2.2 _ hw) hd1 ?_
  rw [hz]
  exact k1
theorem x_iload_n {i : Fin 4} {z : Int} (hd : dok M.2.1 (pc, .iload_n i, 1, nx, tg)) (hv : nthq L (i : Nat) = some (some (vi z))) (k : RunX l G M R nx L (vi z :: st) S ca sl Q) : RunX l G M R pc L (st) S ca sl Q := by
  intro p e s m args below meth c H locs Z ls hc hn hks hr hi hlo hl
  obtain ⟨hd1, hd2, hd3⟩ := hd
  dsimp only at hd1 hd2 hd3
  subst hd2
  have k1 := k p e s m args below meth c H locs Z ls hc hn hks hr hi hlo hl
  refine lv_iload_n hc.1 hc.2.1 hd1 rfl (hl.at hv) ?_
  exact k1
theorem x_iload {i : Nat} {z : Int} (hd : dok M.2.1 (pc, .iload i, 2, nx, tg)) (hv : nthq L i = some (some (vi z))) (k : RunX l G M R nx L (vi z :: st) S ca sl Q) : RunX l G M R pc L (st) S ca sl Q := by
  intro p e s m args below meth c H locs Z ls hc hn hks hr hi hlo hl
  obtain ⟨hd1, hd2, hd3⟩ := hd
  dsimp only at hd1 hd2 hd3
  subst hd2
  have k1 := k p e s m args below meth c H locs Z ls hc hn hks hr hi hlo hl
  refine lv_iload hc.1 hc.2.1 hd1 (hl.at hv) ?_
  exact k1
theorem x_lload_n {i : Fin 4} {z : Int} (hd : dok M.2.1 (pc, .lload_n i, 1, nx, tg)) (hv : nthq L (i : Nat) = some (some (vl z))) (k : RunX l G M R nx L (vl z :: st) S ca sl Q) : RunX l G M R pc L (st) S ca sl Q := by
  intro p e s m args below meth c H locs Z ls hc hn hks hr hi hlo hl
  obtain ⟨hd1, hd2, hd3⟩ := hd
  dsimp only at hd1 hd2 hd3
  subst hd2
  have k1 := k p e s m args below meth c H locs Z ls hc hn hks hr hi hlo hl
  refine lv_lload_n hc.1 hc.2.1 hd1 rfl (hl.at hv) ?_
  exact k1
theorem x_lload {i : Nat} {z : Int} (hd : dok M.2.1 (pc, .lload i, 2, nx, tg)) (hv : nthq L i = some (some (vl z))) (k : RunX l G M R nx L (vl z :: st) S ca sl Q) : RunX l G M R pc L (st) S ca sl Q := by
  intro p e s m args below meth c H locs Z ls hc hn hks hr hi hlo hl
  obtain ⟨hd1, hd2, hd3⟩ := hd
  dsimp only at hd1 hd2 hd3
  subst hd2
  have k1 := k p e s m args below meth c H locs Z ls hc hn hks hr hi hlo hl
  refine lv_lload hc.1 hc.2.1 hd1 (hl.at hv) ?_
  exact k1
theorem x_aload_n {i : Fin 4} {z : Nat} (hd : dok M.2.1 (pc, .aload_n i, 1, nx, tg)) (hv : nthq L (i : Nat) = some (some (vr z))) (k : RunX l G M R nx L (vr z :: st) S ca sl Q) : RunX l G M R pc L (st) S ca sl Q := by
  intro p e s m args below meth c H locs Z ls hc hn hks hr hi hlo hl
  obtain ⟨hd1, hd2, hd3⟩ := hd
  dsimp only at hd1 hd2 hd3
  subst hd2
  have k1 := k p e s m args below meth c H locs Z ls hc hn hks hr hi hlo hl
  refine lv_aload_n hc.1 hc.2.1 hd1 rfl (hl.at hv) ?_
  exact k1
theorem x_aload {i : Nat} {z : Nat} (hd : dok M.2.1 (pc, .aload i, 2, nx, tg)) (hv : nthq L i = some (some (vr z))) (k : RunX l G M R nx L (vr z :: st) S ca sl Q) : RunX l G M R pc L (st) S ca sl Q := by
  intro p e s m args below meth c H locs Z ls hc hn hks hr hi hlo hl
  obtain ⟨hd1, hd2, hd3⟩ := hd
  dsimp only at hd1 hd2 hd3
  subst hd2
  have k1 := k p e s m args below meth c H locs Z ls hc hn hks hr hi hlo hl
  refine lv_aload hc.1 hc.2.1 hd1 (hl.at hv) ?_
  exact k1
theorem x_istore_n {i : Fin 4} {z : Int} (hd : dok M.2.1 (pc, .istore_n i, 1, nx, tg)) (hi9 : Nat.blt ((i : Nat)) M.2.2.1 = true) (k : RunX l G M R nx (sL (i : Nat) L (vi z)) st S ca sl Q) : RunX l G M R pc L (vi z :: st) S ca sl Q := by
  intro p e s m args below meth c H locs Z ls hc hn hks hr hi hlo hl
  obtain ⟨hd1, hd2, hd3⟩ := hd
  dsimp only at hd1 hd2 hd3
  subst hd2
  exact lv_istore_n hc.1 hc.2.1 hd1 rfl hl (by simpa using hi9) rfl (fun ls1 hl1 => k p e s m args below meth c H locs Z ls1 hc hn hks hr hi hlo (lh.set (v := vi z) rfl hl1))
theorem x_istore {i : Nat} {z : Int} (hd : dok M.2.1 (pc, .istore i, 2, nx, tg)) (hi9 : Nat.blt ((i : Nat)) M.2.2.1 = true) (k : RunX l G M R nx (sL (i : Nat) L (vi z)) st S ca sl Q) : RunX l G M R pc L (vi z :: st) S ca sl Q := by
  intro p e s m args below meth c H locs Z ls hc hn hks hr hi hlo hl
  obtain ⟨hd1, hd2, hd3⟩ := hd
  dsimp only at hd1 hd2 hd3
  subst hd2
  exact lv_istore hc.1 hc.2.1 hd1 hl (by simpa using hi9) rfl (fun ls1 hl1 => k p e s m args below meth c H locs Z ls1 hc hn hks hr hi hlo (lh.set (v := vi z) rfl hl1))
theorem x_lstore_n {i : Fin 4} {z : Int} (hd : dok M.2.1 (pc, .lstore_n i, 1, nx, tg)) (hi9 : Nat.blt ((i : Nat) + 1) M.2.2.1 = true) (k : RunX l G M R nx (sLL (i : Nat) L (vl z)) st S ca sl Q) : RunX l G M R pc L (vl z :: st) S ca sl Q := by
  intro p e s m args below meth c H locs Z ls hc hn hks hr hi hlo hl
  obtain ⟨hd1, hd2, hd3⟩ := hd
  dsimp only at hd1 hd2 hd3
  subst hd2
  exact lv_lstore_n hc.1 hc.2.1 hd1 rfl hl (by simpa using hi9) rfl (fun ls1 hl1 => k p e s m args below meth c H locs Z ls1 hc hn hks hr hi hlo (lh.setL (v := vl z) rfl hl1))
theorem x_lstore {i : Nat} {z : Int} (hd : dok M.2.1 (pc, .lstore i, 2, nx, tg)) (hi9 : Nat.blt ((i : Nat) + 1) M.2.2.1 = true) (k : RunX l G M R nx (sLL (i : Nat) L (vl z)) st S ca sl Q) : RunX l G M R pc L (vl z :: st) S ca sl Q := by
  intro p e s m args below meth c H locs Z ls hc hn hks hr hi hlo hl
  obtain ⟨hd1, hd2, hd3⟩ := hd
  dsimp only at hd1 hd2 hd3
  subst hd2
  exact lv_lstore hc.1 hc.2.1 hd1 hl (by simpa using hi9) rfl (fun ls1 hl1 => k p e s m args below meth c H locs Z ls1 hc hn hks hr hi hlo (lh.setL (v := vl z) rfl hl1))
theorem x_astore_n {i : Fin 4} {z : Nat} (hd : dok M.2.1 (pc, .astore_n i, 1, nx, tg)) (hi9 : Nat.blt ((i : Nat)) M.2.2.1 = true) (k : RunX l G M R nx (sL (i : Nat) L (vr z)) st S ca sl Q) : RunX l G M R pc L (vr z :: st) S ca sl Q := by
  intro p e s m args below meth c H locs Z ls hc hn hks hr hi hlo hl
  obtain ⟨hd1, hd2, hd3⟩ := hd
  dsimp only at hd1 hd2 hd3
  subst hd2
  exact lv_astore_n hc.1 hc.2.1 hd1 rfl hl (by simpa using hi9) rfl (fun ls1 hl1 => k p e s m args below meth c H locs Z ls1 hc hn hks hr hi hlo (lh.set (v := vr z) rfl hl1))
theorem x_astore {i : Nat} {z : Nat} (hd : dok M.2.1 (pc, .astore i, 2, nx, tg)) (hi9 : Nat.blt ((i : Nat)) M.2.2.1 = true) (k : RunX l G M R nx (sL (i : Nat) L (vr z)) st S ca sl Q) : RunX l G M R pc L (vr z :: st) S ca sl Q := by
  intro p e s m args below meth c H locs Z ls hc hn hks hr hi hlo hl
  obtain ⟨hd1, hd2, hd3⟩ := hd
  dsimp only at hd1 hd2 hd3
  subst hd2
  exact lv_astore hc.1 hc.2.1 hd1 hl (by simpa using hi9) rfl (fun ls1 hl1 => k p e s m args below meth c H locs Z ls1 hc hn hks hr hi hlo (lh.set (v := vr z) rfl hl1))
theorem x_iinc {i : Nat} {z w : Int} (hd : dok M.2.1 (pc, .iinc i w, 3, nx, tg)) (hv : nthq L i = some (some (vi z))) (hi9 : Nat.blt i M.2.2.1 = true) (k : RunX l G M R nx (sL i L (vi (z + w))) st S ca sl Q) : RunX l G M R pc L st S ca sl Q := by
  intro p e s m args below meth c H locs Z ls hc hn hks hr hi hlo hl
  obtain ⟨hd1, hd2, hd3⟩ := hd
  dsimp only at hd1 hd2 hd3
  subst hd2
  obtain ⟨q, hq⟩ := List.mem_iff_getElem?.mp (prL_in (G := G) (n := 0) hv)
  rw [Nat.zero_add] at hq
  exact lv_iinc hc.1 hc.2.1 hd1 hl hq (v := Int32.ofInt (z + w)) (by rw [Int32.ofInt_add]) (by simpa using hi9) rfl (fun ls1 hl1 => k p e s m args below meth c H locs Z ls1 hc hn hks hr hi hlo (lh.set (v := vi (z + w)) rfl hl1))
theorem x_iadd {x y : Int} (hd : dok M.2.1 (pc, .iadd, 1, nx, tg)) (k : RunX l G M R nx L (vi (x + y) :: st) S ca sl Q) : RunX l G M R pc L (vi y :: vi x :: st) S ca sl Q := by
  intro p e s m args below meth c H locs Z ls hc hn hks hr hi hlo hl
  obtain ⟨hd1, hd2, hd3⟩ := hd
  dsimp only at hd1 hd2 hd3
  subst hd2
  have k1 := k p e s m args below meth c H locs Z ls hc hn hks hr hi hlo hl
  refine lv_iadd hc.1 hc.2.1 hd1 ?_
  rw [← Int32.ofInt_add]
  exact k1
theorem x_isub {x y : Int} (hd : dok M.2.1 (pc, .isub, 1, nx, tg)) (k : RunX l G M R nx L (vi (x - y) :: st) S ca sl Q) : RunX l G M R pc L (vi y :: vi x :: st) S ca sl Q := by
  intro p e s m args below meth c H locs Z ls hc hn hks hr hi hlo hl
  obtain ⟨hd1, hd2, hd3⟩ := hd
  dsimp only at hd1 hd2 hd3
  subst hd2
  have k1 := k p e s m args below meth c H locs Z ls hc hn hks hr hi hlo hl
  refine lv_isub hc.1 hc.2.1 hd1 ?_
  rw [← Int32.ofInt_sub]
  exact k1
theorem x_imul {x y : Int} (hd : dok M.2.1 (pc, .imul, 1, nx, tg)) (k : RunX l G M R nx L (vi (x * y) :: st) S ca sl Q) : RunX l G M R pc L (vi y :: vi x :: st) S ca sl Q := by
  intro p e s m args below meth c H locs Z ls hc hn hks hr hi hlo hl
  obtain ⟨hd1, hd2, hd3⟩ := hd
  dsimp only at hd1 hd2 hd3
  subst hd2
  have k1 := k p e s m args below meth c H locs Z ls hc hn hks hr hi hlo hl
  refine lv_imul hc.1 hc.2.1 hd1 ?_
  rw [← Int32.ofInt_mul]
  exact k1
theorem x_ladd {x y : Int} (hd : dok M.2.1 (pc, .ladd, 1, nx, tg)) (k : RunX l G M R nx L (vl (x + y) :: st) S ca sl Q) : RunX l G M R pc L (vl y :: vl x :: st) S ca sl Q := by
  intro p e s m args below meth c H locs Z ls hc hn hks hr hi hlo hl
  obtain ⟨hd1, hd2, hd3⟩ := hd
  dsimp only at hd1 hd2 hd3
  subst hd2
  have k1 := k p e s m args below meth c H locs Z ls hc hn hks hr hi hlo hl
  refine lv_ladd hc.1 hc.2.1 hd1 ?_
  rw [← Int64.ofInt_add]
  exact k1
theorem x_lmul {x y : Int} (hd : dok M.2.1 (pc, .lmul, 1, nx, tg)) (k : RunX l G M R nx L (vl (x * y) :: st) S ca sl Q) : RunX l G M R pc L (vl y :: vl x :: st) S ca sl Q := by
  intro p e s m args below meth c H locs Z ls hc hn hks hr hi hlo hl
  obtain ⟨hd1, hd2, hd3⟩ := hd
  dsimp only at hd1 hd2 hd3
  subst hd2
  have k1 := k p e s m args below meth c H locs Z ls hc hn hks hr hi hlo hl
  refine lv_lmul hc.1 hc.2.1 hd1 ?_
  rw [← Int64.ofInt_mul]
  exact k1
theorem o32_ne0 {y : Int} (h : 0 < y ∧ y < 2147483648) : ¬ Int32.ofInt y = 0 := by
  rw [o32_0, o32_eq (by omega) (by decide)]
  omega
theorem o64_ne0 {y : Int} (h : 0 < y ∧ y < 9223372036854775808) : ¬ Int64.ofInt y = 0 := by
  rw [show (0 : Int64) = Int64.ofInt 0 from rfl, o64_eq (by omega) (by decide)]
  omega
theorem o32_rem {x y : Int} (hx : 0 ≤ x ∧ x < 2147483648) (hy : 0 < y ∧ y < 2147483648) : Int32.ofInt x - Int32.ofInt x / Int32.ofInt y * Int32.ofInt y = Int32.ofInt (x % y) := by
  rw [o32_div hx hy, ← Int32.ofInt_mul, ← Int32.ofInt_sub, Int.emod_def, Int.mul_comm]
theorem o64_rem {x y : Int} (hx : 0 ≤ x ∧ x < 9223372036854775808) (hy : 0 < y ∧ y < 9223372036854775808) : Int64.ofInt x - Int64.ofInt x / Int64.ofInt y * Int64.ofInt y = Int64.ofInt (x % y) := by
  rw [o64_div hx hy, ← Int64.ofInt_mul, ← Int64.ofInt_sub, Int.emod_def, Int.mul_comm]
theorem x_idiv {x y : Int} (hd : dok M.2.1 (pc, .idiv, 1, nx, tg)) (hx : 0 ≤ x ∧ x < 2147483648) (hy : 0 < y ∧ y < 2147483648) (k : RunX l G M R nx L (vi (x / y) :: st) S ca sl Q) : RunX l G M R pc L (vi y :: vi x :: st) S ca sl Q := by
  intro p e s m args below meth c H locs Z ls hc hn hks hr hi hlo hl
  obtain ⟨hd1, hd2, hd3⟩ := hd
  dsimp only at hd1 hd2 hd3
  subst hd2
  have k1 := k p e s m args below meth c H locs Z ls hc hn hks hr hi hlo hl
  refine lv_idiv hc.1 hc.2.1 hd1 (o32_ne0 hy) ?_
  rw [o32_div hx hy]
  exact k1
theorem x_irem {x y : Int} (hd : dok M.2.1 (pc, .irem, 1, nx, tg)) (hx : 0 ≤ x ∧ x < 2147483648) (hy : 0 < y ∧ y < 2147483648) (k : RunX l G M R nx L (vi (x % y) :: st) S ca sl Q) : RunX l G M R pc L (vi y :: vi x :: st) S ca sl Q := by
  intro p e s m args below meth c H locs Z ls hc hn hks hr hi hlo hl
  obtain ⟨hd1, hd2, hd3⟩ := hd
  dsimp only at hd1 hd2 hd3
  subst hd2
  have k1 := k p e s m args below meth c H locs Z ls hc hn hks hr hi hlo hl
  refine lv_irem hc.1 hc.2.1 hd1 (o32_ne0 hy) ?_
  rw [o32_rem hx hy]
  exact k1
theorem x_ldiv {x y : Int} (hd : dok M.2.1 (pc, .ldiv, 1, nx, tg)) (hx : 0 ≤ x ∧ x < 9223372036854775808) (hy : 0 < y ∧ y < 9223372036854775808) (k : RunX l G M R nx L (vl (x / y) :: st) S ca sl Q) : RunX l G M R pc L (vl y :: vl x :: st) S ca sl Q := by
  intro p e s m args below meth c H locs Z ls hc hn hks hr hi hlo hl
  obtain ⟨hd1, hd2, hd3⟩ := hd
  dsimp only at hd1 hd2 hd3
  subst hd2
  have k1 := k p e s m args below meth c H locs Z ls hc hn hks hr hi hlo hl
  refine lv_ldiv hc.1 hc.2.1 hd1 (o64_ne0 hy) ?_
  rw [o64_div hx hy]
  exact k1
theorem x_lrem {x y : Int} (hd : dok M.2.1 (pc, .lrem, 1, nx, tg)) (hx : 0 ≤ x ∧ x < 9223372036854775808) (hy : 0 < y ∧ y < 9223372036854775808) (k : RunX l G M R nx L (vl (x % y) :: st) S ca sl Q) : RunX l G M R pc L (vl y :: vl x :: st) S ca sl Q := by
  intro p e s m args below meth c H locs Z ls hc hn hks hr hi hlo hl
  obtain ⟨hd1, hd2, hd3⟩ := hd
  dsimp only at hd1 hd2 hd3
  subst hd2
  have k1 := k p e s m args below meth c H locs Z ls hc hn hks hr hi hlo hl
  refine lv_lrem hc.1 hc.2.1 hd1 (o64_ne0 hy) ?_
  rw [o64_rem hx hy]
  exact k1
theorem x_iand {x y : Int} (hd : dok M.2.1 (pc, .iand, 1, nx, tg)) (k : RunX l G M R nx L (vi (bAnd x y) :: st) S ca sl Q) : RunX l G M R pc L (vi y :: vi x :: st) S ca sl Q := by
  intro p e s m args below meth c H locs Z ls hc hn hks hr hi hlo hl
  obtain ⟨hd1, hd2, hd3⟩ := hd
  dsimp only at hd1 hd2 hd3
  subst hd2
  have k1 := k p e s m args below meth c H locs Z ls hc hn hks hr hi hlo hl
  refine lv_iand hc.1 hc.2.1 hd1 ?_
  change W _ _ _ _ _ _ _ _ _ _ _ _ _ _ _ (F0 _ _ _ (.int (Int32.ofInt (bAnd x y)) :: _)) at k1
  rw [bAnd, Int32.ofInt_toInt] at k1
  exact k1
theorem x_ior {x y : Int} (hd : dok M.2.1 (pc, .ior, 1, nx, tg)) (k : RunX l G M R nx L (vi (bOr x y) :: st) S ca sl Q) : RunX l G M R pc L (vi y :: vi x :: st) S ca sl Q := by
  intro p e s m args below meth c H locs Z ls hc hn hks hr hi hlo hl
  obtain ⟨hd1, hd2, hd3⟩ := hd
  dsimp only at hd1 hd2 hd3
  subst hd2
  have k1 := k p e s m args below meth c H locs Z ls hc hn hks hr hi hlo hl
  refine lv_ior hc.1 hc.2.1 hd1 ?_
  change W _ _ _ _ _ _ _ _ _ _ _ _ _ _ _ (F0 _ _ _ (.int (Int32.ofInt (bOr x y)) :: _)) at k1
  rw [bOr, Int32.ofInt_toInt] at k1
  exact k1
theorem x_ixor {x y : Int} (hd : dok M.2.1 (pc, .ixor, 1, nx, tg)) (k : RunX l G M R nx L (vi (bXor x y) :: st) S ca sl Q) : RunX l G M R pc L (vi y :: vi x :: st) S ca sl Q := by
  intro p e s m args below meth c H locs Z ls hc hn hks hr hi hlo hl
  obtain ⟨hd1, hd2, hd3⟩ := hd
  dsimp only at hd1 hd2 hd3
  subst hd2
  have k1 := k p e s m args below meth c H locs Z ls hc hn hks hr hi hlo hl
  refine lv_ixor hc.1 hc.2.1 hd1 ?_
  change W _ _ _ _ _ _ _ _ _ _ _ _ _ _ _ (F0 _ _ _ (.int (Int32.ofInt (bXor x y)) :: _)) at k1
  rw [bXor, Int32.ofInt_toInt] at k1
  exact k1
theorem x_ishl {x y : Int} (hd : dok M.2.1 (pc, .ishl, 1, nx, tg)) (k : RunX l G M R nx L (vi (bShl x y) :: st) S ca sl Q) : RunX l G M R pc L (vi y :: vi x :: st) S ca sl Q := by
  intro p e s m args below meth c H locs Z ls hc hn hks hr hi hlo hl
  obtain ⟨hd1, hd2, hd3⟩ := hd
  dsimp only at hd1 hd2 hd3
  subst hd2
  have k1 := k p e s m args below meth c H locs Z ls hc hn hks hr hi hlo hl
  refine lv_ishl hc.1 hc.2.1 hd1 ?_
  change W _ _ _ _ _ _ _ _ _ _ _ _ _ _ _ (F0 _ _ _ (.int (Int32.ofInt (bShl x y)) :: _)) at k1
  rw [bShl, Int32.ofInt_toInt] at k1
  exact k1
theorem x_ishr {x y : Int} (hd : dok M.2.1 (pc, .ishr, 1, nx, tg)) (k : RunX l G M R nx L (vi (bShr x y) :: st) S ca sl Q) : RunX l G M R pc L (vi y :: vi x :: st) S ca sl Q := by
  intro p e s m args below meth c H locs Z ls hc hn hks hr hi hlo hl
  obtain ⟨hd1, hd2, hd3⟩ := hd
  dsimp only at hd1 hd2 hd3
  subst hd2
  have k1 := k p e s m args below meth c H locs Z ls hc hn hks hr hi hlo hl
  refine lv_ishr hc.1 hc.2.1 hd1 ?_
  change W _ _ _ _ _ _ _ _ _ _ _ _ _ _ _ (F0 _ _ _ (.int (Int32.ofInt (bShr x y)) :: _)) at k1
  rw [bShr, Int32.ofInt_toInt] at k1
  exact k1
theorem x_land {x y : Int} (hd : dok M.2.1 (pc, .land, 1, nx, tg)) (k : RunX l G M R nx L (vl (lAnd x y) :: st) S ca sl Q) : RunX l G M R pc L (vl y :: vl x :: st) S ca sl Q := by
  intro p e s m args below meth c H locs Z ls hc hn hks hr hi hlo hl
  obtain ⟨hd1, hd2, hd3⟩ := hd
  dsimp only at hd1 hd2 hd3
  subst hd2
  have k1 := k p e s m args below meth c H locs Z ls hc hn hks hr hi hlo hl
  refine lv_land hc.1 hc.2.1 hd1 ?_
  change W _ _ _ _ _ _ _ _ _ _ _ _ _ _ _ (F0 _ _ _ (.long (Int64.ofInt (lAnd x y)) :: _)) at k1
  rw [lAnd, Int64.ofInt_toInt] at k1
  exact k1
theorem x_lor {x y : Int} (hd : dok M.2.1 (pc, .lor, 1, nx, tg)) (k : RunX l G M R nx L (vl (lOr x y) :: st) S ca sl Q) : RunX l G M R pc L (vl y :: vl x :: st) S ca sl Q := by
  intro p e s m args below meth c H locs Z ls hc hn hks hr hi hlo hl
  obtain ⟨hd1, hd2, hd3⟩ := hd
  dsimp only at hd1 hd2 hd3
  subst hd2
  have k1 := k p e s m args below meth c H locs Z ls hc hn hks hr hi hlo hl
  refine lv_lor hc.1 hc.2.1 hd1 ?_
  change W _ _ _ _ _ _ _ _ _ _ _ _ _ _ _ (F0 _ _ _ (.long (Int64.ofInt (lOr x y)) :: _)) at k1
  rw [lOr, Int64.ofInt_toInt] at k1
  exact k1
theorem x_iushr {x y : Int} (hd : dok M.2.1 (pc, .iushr, 1, nx, tg)) (k : RunX l G M R nx L (vi (bUsh x y) :: st) S ca sl Q) : RunX l G M R pc L (vi y :: vi x :: st) S ca sl Q := by
  intro p e s m args below meth c H locs Z ls hc hn hks hr hi hlo hl
  obtain ⟨hd1, hd2, hd3⟩ := hd
  dsimp only at hd1 hd2 hd3
  subst hd2
  have k1 := k p e s m args below meth c H locs Z ls hc hn hks hr hi hlo hl
  refine lv_iushr hc.1 hc.2.1 hd1 (v := Int32.ofInt (bUsh x y)) (by rw [bUsh, Int32.ofInt_toInt]) ?_
  exact k1
theorem x_lshl {x y : Int} (hd : dok M.2.1 (pc, .lshl, 1, nx, tg)) (k : RunX l G M R nx L (vl (lShl x y) :: st) S ca sl Q) : RunX l G M R pc L (vi y :: vl x :: st) S ca sl Q := by
  intro p e s m args below meth c H locs Z ls hc hn hks hr hi hlo hl
  obtain ⟨hd1, hd2, hd3⟩ := hd
  dsimp only at hd1 hd2 hd3
  subst hd2
  have k1 := k p e s m args below meth c H locs Z ls hc hn hks hr hi hlo hl
  refine lv_lshl hc.1 hc.2.1 hd1 (v := Int64.ofInt (lShl x y)) (by rw [lShl, Int64.ofInt_toInt]) ?_
  exact k1
theorem x_lshr {x y : Int} (hd : dok M.2.1 (pc, .lshr, 1, nx, tg)) (k : RunX l G M R nx L (vl (lShr x y) :: st) S ca sl Q) : RunX l G M R pc L (vi y :: vl x :: st) S ca sl Q := by
  intro p e s m args below meth c H locs Z ls hc hn hks hr hi hlo hl
  obtain ⟨hd1, hd2, hd3⟩ := hd
  dsimp only at hd1 hd2 hd3
  subst hd2
  have k1 := k p e s m args below meth c H locs Z ls hc hn hks hr hi hlo hl
  refine lv_lshr hc.1 hc.2.1 hd1 (v := Int64.ofInt (lShr x y)) (by rw [lShr, Int64.ofInt_toInt]) ?_
  exact k1
theorem x_lushr {x y : Int} (hd : dok M.2.1 (pc, .lushr, 1, nx, tg)) (k : RunX l G M R nx L (vl (lUsh x y) :: st) S ca sl Q) : RunX l G M R pc L (vi y :: vl x :: st) S ca sl Q := by
  intro p e s m args below meth c H locs Z ls hc hn hks hr hi hlo hl
  obtain ⟨hd1, hd2, hd3⟩ := hd
  dsimp only at hd1 hd2 hd3
  subst hd2
  have k1 := k p e s m args below meth c H locs Z ls hc hn hks hr hi hlo hl
  refine lv_lushr hc.1 hc.2.1 hd1 (v := Int64.ofInt (lUsh x y)) (by rw [lUsh, Int64.ofInt_toInt]) ?_
  exact k1
theorem o_i2l {x : Int} (hx : rgi x) : (Int32.ofInt x).toInt64 = Int64.ofInt x := by
  rw [← Int64.toInt_inj, Int32.toInt_toInt64, o32 hx, o64 (by omega)]
theorem o_l2i (x : Int) : (Int64.ofInt x).toInt32 = Int32.ofInt (l2iq x) := by rw [l2iq, Int32.ofInt_toInt]
theorem o_cmp {x y : Int} (hx : rgl x) (hy : rgl y) : lg_cmp (Int64.ofInt x) (Int64.ofInt y) = Int32.ofInt (lCmp x y) := by
  unfold lg_cmp lCmp
  have h1 : Int64.ofInt x > Int64.ofInt y ↔ y < x := o64_lt hy hx
  by_cases a : y < x
  · rw [if_pos a, if_pos (h1.mpr a)]; rfl
  · rw [if_neg a, if_neg (fun q => a (h1.mp q))]
    by_cases b : x = y
    · rw [if_pos b, if_pos (by rw [b])]; rfl
    · rw [if_neg b, if_neg (fun q => b ((o64_eq hx hy).mp q))]; rfl
theorem x_i2l {x : Int} (hd : dok M.2.1 (pc, .i2l, 1, nx, tg)) (hx : rgi x) (k : RunX l G M R nx L (vl x :: st) S ca sl Q) : RunX l G M R pc L (vi x :: st) S ca sl Q := by
  intro p e s m args below meth c H locs Z ls hc hn hks hr hi hlo hl
  obtain ⟨hd1, hd2, hd3⟩ := hd
  dsimp only at hd1 hd2 hd3
  subst hd2
  have k1 := k p e s m args below meth c H locs Z ls hc hn hks hr hi hlo hl
  refine lv_i2l hc.1 hc.2.1 hd1 (o_i2l hx) ?_
  exact k1
theorem x_l2i {x : Int} (hd : dok M.2.1 (pc, .l2i, 1, nx, tg)) (k : RunX l G M R nx L (vi (l2iq x) :: st) S ca sl Q) : RunX l G M R pc L (vl x :: st) S ca sl Q := by
  intro p e s m args below meth c H locs Z ls hc hn hks hr hi hlo hl
  obtain ⟨hd1, hd2, hd3⟩ := hd
  dsimp only at hd1 hd2 hd3
  subst hd2
  have k1 := k p e s m args below meth c H locs Z ls hc hn hks hr hi hlo hl
  refine lv_l2i hc.1 hc.2.1 hd1 (o_l2i x) ?_
  exact k1
theorem x_lcmp {x y : Int} (hd : dok M.2.1 (pc, .lcmp, 1, nx, tg)) (hx : rgl x) (hy : rgl y) (k : RunX l G M R nx L (vi (lCmp x y) :: st) S ca sl Q) : RunX l G M R pc L (vl y :: vl x :: st) S ca sl Q := by
  intro p e s m args below meth c H locs Z ls hc hn hks hr hi hlo hl
  obtain ⟨hd1, hd2, hd3⟩ := hd
  dsimp only at hd1 hd2 hd3
  subst hd2
  have k1 := k p e s m args below meth c H locs Z ls hc hn hks hr hi hlo hl
  refine W.lcmp hc.1 hc.2.1 hd1 ?_
  rw [o_cmp hx hy]
  exact k1
theorem cvl_i {G : GC} {z : Int} : (cvl G (vi z)).category = 1 := rfl
theorem cvl_r {G : GC} {k : Nat} : (cvl G (vr k)).category = 1 := rfl
theorem x_dupi {x : Int} (hd : dok M.2.1 (pc, .dup, 1, nx, tg)) (k : RunX l G M R nx L (vi x :: vi x :: st) S ca sl Q) : RunX l G M R pc L (vi x :: st) S ca sl Q := by
  intro p e s m args below meth c H locs Z ls hc hn hks hr hi hlo hl
  obtain ⟨hd1, hd2, hd3⟩ := hd
  dsimp only at hd1 hd2 hd3
  subst hd2
  have k1 := k p e s m args below meth c H locs Z ls hc hn hks hr hi hlo hl
  refine lv_dup hc.1 hc.2.1 hd1 cvl_i ?_
  exact k1
theorem x_dupr {x : Nat} (hd : dok M.2.1 (pc, .dup, 1, nx, tg)) (k : RunX l G M R nx L (vr x :: vr x :: st) S ca sl Q) : RunX l G M R pc L (vr x :: st) S ca sl Q := by
  intro p e s m args below meth c H locs Z ls hc hn hks hr hi hlo hl
  obtain ⟨hd1, hd2, hd3⟩ := hd
  dsimp only at hd1 hd2 hd3
  subst hd2
  have k1 := k p e s m args below meth c H locs Z ls hc hn hks hr hi hlo hl
  refine lv_dup hc.1 hc.2.1 hd1 cvl_r ?_
  exact k1
theorem x_dup2 {x : Int} {y : Nat} (hd : dok M.2.1 (pc, .dup2, 1, nx, tg)) (k : RunX l G M R nx L (vi x :: vr y :: vi x :: vr y :: st) S ca sl Q) : RunX l G M R pc L (vi x :: vr y :: st) S ca sl Q := by
  intro p e s m args below meth c H locs Z ls hc hn hks hr hi hlo hl
  obtain ⟨hd1, hd2, hd3⟩ := hd
  dsimp only at hd1 hd2 hd3
  subst hd2
  have k1 := k p e s m args below meth c H locs Z ls hc hn hks hr hi hlo hl
  refine lv_dup2_11 hc.1 hc.2.1 hd1 cvl_i cvl_r ?_
  exact k1
theorem x_pop {x : Int} (hd : dok M.2.1 (pc, .pop, 1, nx, tg)) (k : RunX l G M R nx L (st) S ca sl Q) : RunX l G M R pc L (vi x :: st) S ca sl Q := by
  intro p e s m args below meth c H locs Z ls hc hn hks hr hi hlo hl
  obtain ⟨hd1, hd2, hd3⟩ := hd
  dsimp only at hd1 hd2 hd3
  subst hd2
  have k1 := k p e s m args below meth c H locs Z ls hc hn hks hr hi hlo hl
  refine lv_pop hc.1 hc.2.1 hd1 cvl_i ?_
  exact k1
theorem x_goto {off : Int} (hd : dok M.2.1 (pc, .goto off, 3, nx, tg)) (k : RunX l G M R tg L st S ca sl Q) : RunX l G M R pc L st S ca sl Q := by
  intro p e s m args below meth c H locs Z ls hc hn hks hr hi hlo hl
  exact lv_goto hc.1 hc.2.1 hd.1 (hd.2.2 off rfl) (k p e s m args below meth c H locs Z ls hc hn hks hr hi hlo hl)
theorem x_icmp_eq {x y off : Int} (hd : dok M.2.1 (pc, .if_icmp .eq off, 3, nx, tg)) (hx : rgi x) (hy : rgi y) (kt : x = y → RunX l G M R tg L st S ca sl Q) (kf : ¬ (x = y) → RunX l G M R nx L st S ca sl Q) : RunX l G M R pc L (vi y :: vi x :: st) S ca sl Q := by
  intro p e s m args below meth c H locs Z ls hc hn hks hr hi hlo hl
  obtain ⟨hd1, hd2, hd3⟩ := hd
  dsimp only at hd1 hd2 hd3
  subst hd2
  have iff := o32_eq hx hy
  exact lv_icmp_eq hc.1 hc.2.1 hd1 (hd3 off rfl) (fun q => kt (iff.mp q) p e s m args below meth c H locs Z ls hc hn hks hr hi hlo hl) (fun q => kf (fun q2 => q (iff.mpr q2)) p e s m args below meth c H locs Z ls hc hn hks hr hi hlo hl)
theorem x_if_eq {x off : Int} (hd : dok M.2.1 (pc, .ifCond .eq off, 3, nx, tg)) (hx : rgi x) (kt : x = 0 → RunX l G M R tg L st S ca sl Q) (kf : ¬ (x = 0) → RunX l G M R nx L st S ca sl Q) : RunX l G M R pc L (vi x :: st) S ca sl Q := by
  intro p e s m args below meth c H locs Z ls hc hn hks hr hi hlo hl
  obtain ⟨hd1, hd2, hd3⟩ := hd
  dsimp only at hd1 hd2 hd3
  subst hd2
  have hy : rgi 0 := by decide
  have iff := o32_eq hx hy
  exact lv_if_eq hc.1 hc.2.1 hd1 (hd3 off rfl) (fun q => kt (iff.mp q) p e s m args below meth c H locs Z ls hc hn hks hr hi hlo hl) (fun q => kf (fun q2 => q (iff.mpr q2)) p e s m args below meth c H locs Z ls hc hn hks hr hi hlo hl)
theorem x_icmp_ne {x y off : Int} (hd : dok M.2.1 (pc, .if_icmp .ne off, 3, nx, tg)) (hx : rgi x) (hy : rgi y) (kt : x ≠ y → RunX l G M R tg L st S ca sl Q) (kf : x = y → RunX l G M R nx L st S ca sl Q) : RunX l G M R pc L (vi y :: vi x :: st) S ca sl Q := by
  intro p e s m args below meth c H locs Z ls hc hn hks hr hi hlo hl
  obtain ⟨hd1, hd2, hd3⟩ := hd
  dsimp only at hd1 hd2 hd3
  subst hd2
  have iff := not_congr (o32_eq hx hy)
  exact lv_icmp_ne hc.1 hc.2.1 hd1 (hd3 off rfl) (fun q => kt (iff.mp q) p e s m args below meth c H locs Z ls hc hn hks hr hi hlo hl) (fun q => kf ((o32_eq hx hy).mp q) p e s m args below meth c H locs Z ls hc hn hks hr hi hlo hl)
theorem x_if_ne {x off : Int} (hd : dok M.2.1 (pc, .ifCond .ne off, 3, nx, tg)) (hx : rgi x) (kt : x ≠ 0 → RunX l G M R tg L st S ca sl Q) (kf : x = 0 → RunX l G M R nx L st S ca sl Q) : RunX l G M R pc L (vi x :: st) S ca sl Q := by
  intro p e s m args below meth c H locs Z ls hc hn hks hr hi hlo hl
  obtain ⟨hd1, hd2, hd3⟩ := hd
  dsimp only at hd1 hd2 hd3
  subst hd2
  have hy : rgi 0 := by decide
  have iff := not_congr (o32_eq hx hy)
  exact lv_if_ne hc.1 hc.2.1 hd1 (hd3 off rfl) (fun q => kt (iff.mp q) p e s m args below meth c H locs Z ls hc hn hks hr hi hlo hl) (fun q => kf ((o32_eq hx hy).mp q) p e s m args below meth c H locs Z ls hc hn hks hr hi hlo hl)
theorem x_icmp_lt {x y off : Int} (hd : dok M.2.1 (pc, .if_icmp .lt off, 3, nx, tg)) (hx : rgi x) (hy : rgi y) (kt : x < y → RunX l G M R tg L st S ca sl Q) (kf : ¬ (x < y) → RunX l G M R nx L st S ca sl Q) : RunX l G M R pc L (vi y :: vi x :: st) S ca sl Q := by
  intro p e s m args below meth c H locs Z ls hc hn hks hr hi hlo hl
  obtain ⟨hd1, hd2, hd3⟩ := hd
  dsimp only at hd1 hd2 hd3
  subst hd2
  have iff := o32_lt hx hy
  exact lv_icmp_lt hc.1 hc.2.1 hd1 (hd3 off rfl) (fun q => kt (iff.mp q) p e s m args below meth c H locs Z ls hc hn hks hr hi hlo hl) (fun q => kf (fun q2 => q (iff.mpr q2)) p e s m args below meth c H locs Z ls hc hn hks hr hi hlo hl)
theorem x_if_lt {x off : Int} (hd : dok M.2.1 (pc, .ifCond .lt off, 3, nx, tg)) (hx : rgi x) (kt : x < 0 → RunX l G M R tg L st S ca sl Q) (kf : ¬ (x < 0) → RunX l G M R nx L st S ca sl Q) : RunX l G M R pc L (vi x :: st) S ca sl Q := by
  intro p e s m args below meth c H locs Z ls hc hn hks hr hi hlo hl
  obtain ⟨hd1, hd2, hd3⟩ := hd
  dsimp only at hd1 hd2 hd3
  subst hd2
  have hy : rgi 0 := by decide
  have iff := o32_lt hx hy
  exact lv_if_lt hc.1 hc.2.1 hd1 (hd3 off rfl) (fun q => kt (iff.mp q) p e s m args below meth c H locs Z ls hc hn hks hr hi hlo hl) (fun q => kf (fun q2 => q (iff.mpr q2)) p e s m args below meth c H locs Z ls hc hn hks hr hi hlo hl)
theorem x_icmp_ge {x y off : Int} (hd : dok M.2.1 (pc, .if_icmp .ge off, 3, nx, tg)) (hx : rgi x) (hy : rgi y) (kt : y ≤ x → RunX l G M R tg L st S ca sl Q) (kf : ¬ (y ≤ x) → RunX l G M R nx L st S ca sl Q) : RunX l G M R pc L (vi y :: vi x :: st) S ca sl Q := by
  intro p e s m args below meth c H locs Z ls hc hn hks hr hi hlo hl
  obtain ⟨hd1, hd2, hd3⟩ := hd
  dsimp only at hd1 hd2 hd3
  subst hd2
  have iff := o32_le hy hx
  exact lv_icmp_ge hc.1 hc.2.1 hd1 (hd3 off rfl) (fun q => kt (iff.mp q) p e s m args below meth c H locs Z ls hc hn hks hr hi hlo hl) (fun q => kf (fun q2 => q (iff.mpr q2)) p e s m args below meth c H locs Z ls hc hn hks hr hi hlo hl)
theorem x_if_ge {x off : Int} (hd : dok M.2.1 (pc, .ifCond .ge off, 3, nx, tg)) (hx : rgi x) (kt : 0 ≤ x → RunX l G M R tg L st S ca sl Q) (kf : ¬ (0 ≤ x) → RunX l G M R nx L st S ca sl Q) : RunX l G M R pc L (vi x :: st) S ca sl Q := by
  intro p e s m args below meth c H locs Z ls hc hn hks hr hi hlo hl
  obtain ⟨hd1, hd2, hd3⟩ := hd
  dsimp only at hd1 hd2 hd3
  subst hd2
  have hy : rgi 0 := by decide
  have iff := o32_le hy hx
  exact lv_if_ge hc.1 hc.2.1 hd1 (hd3 off rfl) (fun q => kt (iff.mp q) p e s m args below meth c H locs Z ls hc hn hks hr hi hlo hl) (fun q => kf (fun q2 => q (iff.mpr q2)) p e s m args below meth c H locs Z ls hc hn hks hr hi hlo hl)
theorem x_icmp_gt {x y off : Int} (hd : dok M.2.1 (pc, .if_icmp .gt off, 3, nx, tg)) (hx : rgi x) (hy : rgi y) (kt : y < x → RunX l G M R tg L st S ca sl Q) (kf : ¬ (y < x) → RunX l G M R nx L st S ca sl Q) : RunX l G M R pc L (vi y :: vi x :: st) S ca sl Q := by
  intro p e s m args below meth c H locs Z ls hc hn hks hr hi hlo hl
  obtain ⟨hd1, hd2, hd3⟩ := hd
  dsimp only at hd1 hd2 hd3
  subst hd2
  have iff := o32_lt hy hx
  exact lv_icmp_gt hc.1 hc.2.1 hd1 (hd3 off rfl) (fun q => kt (iff.mp q) p e s m args below meth c H locs Z ls hc hn hks hr hi hlo hl) (fun q => kf (fun q2 => q (iff.mpr q2)) p e s m args below meth c H locs Z ls hc hn hks hr hi hlo hl)
theorem x_if_gt {x off : Int} (hd : dok M.2.1 (pc, .ifCond .gt off, 3, nx, tg)) (hx : rgi x) (kt : 0 < x → RunX l G M R tg L st S ca sl Q) (kf : ¬ (0 < x) → RunX l G M R nx L st S ca sl Q) : RunX l G M R pc L (vi x :: st) S ca sl Q := by
  intro p e s m args below meth c H locs Z ls hc hn hks hr hi hlo hl
  obtain ⟨hd1, hd2, hd3⟩ := hd
  dsimp only at hd1 hd2 hd3
  subst hd2
  have hy : rgi 0 := by decide
  have iff := o32_lt hy hx
  exact lv_if_gt hc.1 hc.2.1 hd1 (hd3 off rfl) (fun q => kt (iff.mp q) p e s m args below meth c H locs Z ls hc hn hks hr hi hlo hl) (fun q => kf (fun q2 => q (iff.mpr q2)) p e s m args below meth c H locs Z ls hc hn hks hr hi hlo hl)
theorem x_icmp_le {x y off : Int} (hd : dok M.2.1 (pc, .if_icmp .le off, 3, nx, tg)) (hx : rgi x) (hy : rgi y) (kt : x ≤ y → RunX l G M R tg L st S ca sl Q) (kf : ¬ (x ≤ y) → RunX l G M R nx L st S ca sl Q) : RunX l G M R pc L (vi y :: vi x :: st) S ca sl Q := by
  intro p e s m args below meth c H locs Z ls hc hn hks hr hi hlo hl
  obtain ⟨hd1, hd2, hd3⟩ := hd
  dsimp only at hd1 hd2 hd3
  subst hd2
  have iff := o32_le hx hy
  exact lv_icmp_le hc.1 hc.2.1 hd1 (hd3 off rfl) (fun q => kt (iff.mp q) p e s m args below meth c H locs Z ls hc hn hks hr hi hlo hl) (fun q => kf (fun q2 => q (iff.mpr q2)) p e s m args below meth c H locs Z ls hc hn hks hr hi hlo hl)
theorem x_if_le {x off : Int} (hd : dok M.2.1 (pc, .ifCond .le off, 3, nx, tg)) (hx : rgi x) (kt : x ≤ 0 → RunX l G M R tg L st S ca sl Q) (kf : ¬ (x ≤ 0) → RunX l G M R nx L st S ca sl Q) : RunX l G M R pc L (vi x :: st) S ca sl Q := by
  intro p e s m args below meth c H locs Z ls hc hn hks hr hi hlo hl
  obtain ⟨hd1, hd2, hd3⟩ := hd
  dsimp only at hd1 hd2 hd3
  subst hd2
  have hy : rgi 0 := by decide
  have iff := o32_le hx hy
  exact lv_if_le hc.1 hc.2.1 hd1 (hd3 off rfl) (fun q => kt (iff.mp q) p e s m args below meth c H locs Z ls hc hn hks hr hi hlo hl) (fun q => kf (fun q2 => q (iff.mpr q2)) p e s m args below meth c H locs Z ls hc hn hks hr hi hlo hl)
/-- the table of a switch: the offset for x -/
def swq (dflt lo hi : Int) (offs : Array Int) (x : Int) : Int := if x < lo ∨ hi < x then dflt else (offs[(x - lo).toNat]?).getD dflt
theorem x_tsw {dflt lo hi x : Int} {offs : Array Int} {len : Nat} (hd : dok M.2.1 (pc, .tableswitch dflt lo hi offs, len, nx, tg)) (hx : rgi x) (hsz : hi - lo < offs.size) {t : Nat} (ht : (pc : Int) + swq dflt lo hi offs x = (t : Int)) (k : RunX l G M R t L st S ca sl Q) : RunX l G M R pc L (vi x :: st) S ca sl Q := by
  intro p e s m args below meth c H locs Z ls hc hn hks hr hi9 hlo hl
  have k1 := k p e s m args below meth c H locs Z ls hc hn hks hr hi9 hlo hl
  unfold swq at ht
  by_cases h : x < lo ∨ hi < x
  · rw [if_pos h] at ht
    exact lv_tableOut hc.1 hc.2.1 hd.1 (by rw [o32 hx]; exact h) ht k1
  · rw [if_neg h] at ht
    have hlt : (x - lo).toNat < offs.size := by omega
    have he : offs[(x - lo).toNat]? = some (offs[(x - lo).toNat]'hlt) := Array.getElem?_eq_getElem hlt
    rw [he] at ht
    exact lv_tableIn hc.1 hc.2.1 hd.1 (by rw [o32 hx]; omega) (by rw [o32 hx]; omega) (by rw [o32 hx]; exact he) ht k1
theorem x_iald {n0 n k : Nat} {ρ : Nat → Int → Option Nat} {σ : Nat → Int → Int} {i : Int} (hd : dok M.2.1 (pc, .iaload, 1, nx, tg)) (hs : shp k = (12, n)) (hk : k < n0) (hix : 0 ≤ i ∧ i < n) (kk : RunX l G M R nx L (vi (σ k i) :: st) (n0, ρ, σ) ca sl Q) : RunX l G M R pc L (vi i :: vr k :: st) (n0, ρ, σ) ca sl Q := by
  intro p e s m args below meth c H locs Z ls hc hn hks hr hi hlo hl
  obtain ⟨hd1, hd2, hd3⟩ := hd
  dsimp only at hd1 hd2 hd3
  subst hd2
  have k1 := kk p e s m args below meth c H locs Z ls hc hn hks hr hi hlo hl
  have hcl := hi.2.2 k hk
  have hle := shp_le k (Nat.lt_of_lt_of_le hk hi.1.2)
  unfold cellq at hcl
  rw [hs] at hcl hle
  obtain ⟨cA, h1, h2⟩ := hcl
  have hle : n ≤ 256 := hle
  have hnn := o32_in hix (by omega)
  have hcn := o32_ix (i := i) hix.1 (by omega)
  have hin : ((i.toNat : Nat) : Int) = i := Int.toNat_of_nonneg hix.1
  refine W.iald (v := Value.int (Int32.ofInt (σ k i))) hc.1 hc.2.1 h1 (h2 _ _) (fun q => by cases q) (by rw [arrV_size]; exact hnn) (by rw [hcn, arrV_read _ _ (by omega)]; show some _ = _; rw [hin]) rfl rfl hd1 k1
theorem x_zald {n0 n k : Nat} {ρ : Nat → Int → Option Nat} {σ : Nat → Int → Int} {i : Int} (hd : dok M.2.1 (pc, .baload, 1, nx, tg)) (hs : shp k = (13, n)) (hk : k < n0) (hix : 0 ≤ i ∧ i < n) (kk : RunX l G M R nx L (vi (σ k i) :: st) (n0, ρ, σ) ca sl Q) : RunX l G M R pc L (vi i :: vr k :: st) (n0, ρ, σ) ca sl Q := by
  intro p e s m args below meth c H locs Z ls hc hn hks hr hi hlo hl
  obtain ⟨hd1, hd2, hd3⟩ := hd
  dsimp only at hd1 hd2 hd3
  subst hd2
  have k1 := kk p e s m args below meth c H locs Z ls hc hn hks hr hi hlo hl
  have hcl := hi.2.2 k hk
  have hle := shp_le k (Nat.lt_of_lt_of_le hk hi.1.2)
  unfold cellq at hcl
  rw [hs] at hcl hle
  obtain ⟨cA, h1, h2⟩ := hcl
  have hle : n ≤ 256 := hle
  have hnn := o32_in hix (by omega)
  have hcn := o32_ix (i := i) hix.1 (by omega)
  have hin : ((i.toNat : Nat) : Int) = i := Int.toNat_of_nonneg hix.1
  refine W.zald (v := Value.int (Int32.ofInt (σ k i))) hc.1 hc.2.1 h1 (h2 _ _) (fun q => by cases q) (by rw [arrV_size]; exact hnn) (by rw [hcn, arrV_read _ _ (by omega)]; show some _ = _; rw [hin]) rfl rfl hd1 k1
theorem x_lald {n0 n k : Nat} {ρ : Nat → Int → Option Nat} {σ : Nat → Int → Int} {i : Int} (hd : dok M.2.1 (pc, .laload, 1, nx, tg)) (hs : shp k = (14, n)) (hk : k < n0) (hix : 0 ≤ i ∧ i < n) (kk : RunX l G M R nx L (vl (σ k i) :: st) (n0, ρ, σ) ca sl Q) : RunX l G M R pc L (vi i :: vr k :: st) (n0, ρ, σ) ca sl Q := by
  intro p e s m args below meth c H locs Z ls hc hn hks hr hi hlo hl
  obtain ⟨hd1, hd2, hd3⟩ := hd
  dsimp only at hd1 hd2 hd3
  subst hd2
  have k1 := kk p e s m args below meth c H locs Z ls hc hn hks hr hi hlo hl
  have hcl := hi.2.2 k hk
  have hle := shp_le k (Nat.lt_of_lt_of_le hk hi.1.2)
  unfold cellq at hcl
  rw [hs] at hcl hle
  obtain ⟨cA, h1, h2⟩ := hcl
  have hle : n ≤ 256 := hle
  have hnn := o32_in hix (by omega)
  have hcn := o32_ix (i := i) hix.1 (by omega)
  have hin : ((i.toNat : Nat) : Int) = i := Int.toNat_of_nonneg hix.1
  refine W.lald (v := Value.long (Int64.ofInt (σ k i))) hc.1 hc.2.1 h1 (h2 _ _) (fun q => by cases q) (by rw [arrV_size]; exact hnn) (by rw [hcn, arrV_read _ _ (by omega)]; show some _ = _; rw [hin]) rfl rfl hd1 k1
theorem x_aald {n0 n k r : Nat} {ρ : Nat → Int → Option Nat} {σ : Nat → Int → Int} {i : Int} (hd : dok M.2.1 (pc, .aaload, 1, nx, tg)) (hs : shp k = (15, n)) (hk : k < n0) (hix : 0 ≤ i ∧ i < n) (hρ : ρ k i = some r) (kk : RunX l G M R nx L (vr r :: st) (n0, ρ, σ) ca sl Q) : RunX l G M R pc L (vi i :: vr k :: st) (n0, ρ, σ) ca sl Q := by
  intro p e s m args below meth c H locs Z ls hc hn hks hr hi hlo hl
  obtain ⟨hd1, hd2, hd3⟩ := hd
  dsimp only at hd1 hd2 hd3
  subst hd2
  have k1 := kk p e s m args below meth c H locs Z ls hc hn hks hr hi hlo hl
  have hcl := hi.2.2 k hk
  have hle := shp_le k (Nat.lt_of_lt_of_le hk hi.1.2)
  unfold cellq at hcl
  rw [hs] at hcl hle
  obtain ⟨cA, h1, h2⟩ := hcl
  have hle : n ≤ 256 := hle
  have hnn := o32_in hix (by omega)
  have hcn := o32_ix (i := i) hix.1 (by omega)
  have hin : ((i.toNat : Nat) : Int) = i := Int.toNat_of_nonneg hix.1
  refine W.aald (v := crf G (some r)) hc.1 hc.2.1 h1 (h2 _ _) rfl (fun q => by cases q) (by rw [arrV_size]; exact hnn) (by rw [hcn, arrV_read _ _ (by omega)]; show some (crf G (ρ k _)) = _; rw [hin, hρ]) rfl rfl hd1 k1
theorem x_iast {n0 n k : Nat} {ρ : Nat → Int → Option Nat} {σ : Nat → Int → Int} {i v : Int} (hd : dok M.2.1 (pc, .iastore, 1, nx, tg)) (hs : shp k = (12, n)) (hk : k < n0) (hix : 0 ≤ i ∧ i < n) (kk : RunX l G M R nx L st (n0, ρ, upq σ k i v) ca sl Q) : RunX l G M R pc L (vi v :: vi i :: vr k :: st) (n0, ρ, σ) ca sl Q := by
  intro p e s m args below meth c H locs Z ls hc hn hks hr hi hlo hl
  obtain ⟨hd1, hd2, hd3⟩ := hd
  dsimp only at hd1 hd2 hd3
  subst hd2
  have hcl := hi.2.2 k hk
  have hle := shp_le k (Nat.lt_of_lt_of_le hk hi.1.2)
  unfold cellq at hcl
  rw [hs] at hcl hle
  obtain ⟨cA, h1, h2⟩ := hcl
  have hle : n ≤ 256 := hle
  have hnn := o32_in hix (by omega)
  have hcn := o32_ix (i := i) hix.1 (by omega)
  have hin : ((i.toNat : Nat) : Int) = i := Int.toNat_of_nonneg hix.1
  refine W.iast hc.1 hc.2.1 h1 (h2 _ _) (fun q => by cases q) (by rw [arrV_size]; exact hnn) rfl rfl hd1 (fun H1 e1 e2 e3 => ?_)
  have hI : Invq G (n0, ρ, upq σ k i v) s H1 := by
    refine hi.put hk e2 e3 ?_ (fun _ _ => rfl) (fun a ha => upq_ne ha)
    unfold cellq
    rw [hs]
    refine ⟨cA, ?_, h2⟩
    rw [e1, hcn, arrV_store]
    refine congrArg some (congrArg (arrV cA n) (funext fun j => ?_))
    show updV _ _ _ j = Value.int (Int32.ofInt (upq σ k i v k j))
    rw [upq_eq]
    by_cases q : j = i.toNat
    · subst q
      rw [if_pos hin]
      simp [updV]
    · rw [if_neg (by omega)]
      simp [updV, q]
  refine kk p e s m args below meth c H1 _ Z ls hc hn hks hr hI (fun q hq => ?_) hl
  rcases List.mem_append.mp hq with q1 | q1
  · exact hlo q q1
  · rw [List.mem_singleton] at q1
    subst q1
    show G.1 ≤ adr G k
    rw [adr_lt (Nat.lt_of_lt_of_le hk (Nat.le_trans hi.1.2 (by decide)))]
    omega
theorem x_zast {n0 n k : Nat} {ρ : Nat → Int → Option Nat} {σ : Nat → Int → Int} {i v : Int} (hd : dok M.2.1 (pc, .bastore, 1, nx, tg)) (hs : shp k = (13, n)) (hk : k < n0) (hix : 0 ≤ i ∧ i < n) (hz : v = 0 ∨ v = 1) (kk : RunX l G M R nx L st (n0, ρ, upq σ k i v) ca sl Q) : RunX l G M R pc L (vi v :: vi i :: vr k :: st) (n0, ρ, σ) ca sl Q := by
  intro p e s m args below meth c H locs Z ls hc hn hks hr hi hlo hl
  obtain ⟨hd1, hd2, hd3⟩ := hd
  dsimp only at hd1 hd2 hd3
  subst hd2
  have hcl := hi.2.2 k hk
  have hle := shp_le k (Nat.lt_of_lt_of_le hk hi.1.2)
  unfold cellq at hcl
  rw [hs] at hcl hle
  obtain ⟨cA, h1, h2⟩ := hcl
  have hle : n ≤ 256 := hle
  have hnn := o32_in hix (by omega)
  have hcn := o32_ix (i := i) hix.1 (by omega)
  have hin : ((i.toNat : Nat) : Int) = i := Int.toNat_of_nonneg hix.1
  refine W.zast hc.1 hc.2.1 h1 (h2 _ _) (fun q => by cases q) (by rw [arrV_size]; exact hnn) rfl rfl hd1 (fun H1 e1 e2 e3 => ?_)
  have hI : Invq G (n0, ρ, upq σ k i v) s H1 := by
    refine hi.put hk e2 e3 ?_ (fun _ _ => rfl) (fun a ha => upq_ne ha)
    unfold cellq
    rw [hs]
    refine ⟨cA, ?_, h2⟩
    rw [show narrow .boolean (.int (Int32.ofInt v)) = .int (Int32.ofInt v) by rcases hz with rfl | rfl <;> rfl] at e1
    rw [e1, hcn, arrV_store]
    refine congrArg some (congrArg (arrV cA n) (funext fun j => ?_))
    show updV _ _ _ j = Value.int (Int32.ofInt (upq σ k i v k j))
    rw [upq_eq]
    by_cases q : j = i.toNat
    · subst q
      rw [if_pos hin]
      simp [updV]
    · rw [if_neg (by omega)]
      simp [updV, q]
  refine kk p e s m args below meth c H1 _ Z ls hc hn hks hr hI (fun q hq => ?_) hl
  rcases List.mem_append.mp hq with q1 | q1
  · exact hlo q q1
  · rw [List.mem_singleton] at q1
    subst q1
    show G.1 ≤ adr G k
    rw [adr_lt (Nat.lt_of_lt_of_le hk (Nat.le_trans hi.1.2 (by decide)))]
    omega
theorem x_last {n0 n k : Nat} {ρ : Nat → Int → Option Nat} {σ : Nat → Int → Int} {i v : Int} (hd : dok M.2.1 (pc, .lastore, 1, nx, tg)) (hs : shp k = (14, n)) (hk : k < n0) (hix : 0 ≤ i ∧ i < n) (kk : RunX l G M R nx L st (n0, ρ, upq σ k i v) ca sl Q) : RunX l G M R pc L (vl v :: vi i :: vr k :: st) (n0, ρ, σ) ca sl Q := by
  intro p e s m args below meth c H locs Z ls hc hn hks hr hi hlo hl
  obtain ⟨hd1, hd2, hd3⟩ := hd
  dsimp only at hd1 hd2 hd3
  subst hd2
  have hcl := hi.2.2 k hk
  have hle := shp_le k (Nat.lt_of_lt_of_le hk hi.1.2)
  unfold cellq at hcl
  rw [hs] at hcl hle
  obtain ⟨cA, h1, h2⟩ := hcl
  have hle : n ≤ 256 := hle
  have hnn := o32_in hix (by omega)
  have hcn := o32_ix (i := i) hix.1 (by omega)
  have hin : ((i.toNat : Nat) : Int) = i := Int.toNat_of_nonneg hix.1
  refine W.last hc.1 hc.2.1 h1 (h2 _ _) (fun q => by cases q) (by rw [arrV_size]; exact hnn) rfl rfl hd1 (fun H1 e1 e2 e3 => ?_)
  have hI : Invq G (n0, ρ, upq σ k i v) s H1 := by
    refine hi.put hk e2 e3 ?_ (fun _ _ => rfl) (fun a ha => upq_ne ha)
    unfold cellq
    rw [hs]
    refine ⟨cA, ?_, h2⟩
    rw [e1, hcn, arrV_store]
    refine congrArg some (congrArg (arrV cA n) (funext fun j => ?_))
    show updV _ _ _ j = Value.long (Int64.ofInt (upq σ k i v k j))
    rw [upq_eq]
    by_cases q : j = i.toNat
    · subst q
      rw [if_pos hin]
      simp [updV]
    · rw [if_neg (by omega)]
      simp [updV, q]
  refine kk p e s m args below meth c H1 _ Z ls hc hn hks hr hI (fun q hq => ?_) hl
  rcases List.mem_append.mp hq with q1 | q1
  · exact hlo q q1
  · rw [List.mem_singleton] at q1
    subst q1
    show G.1 ≤ adr G k
    rw [adr_lt (Nat.lt_of_lt_of_le hk (Nat.le_trans hi.1.2 (by decide)))]
    omega
end XR
end
section
/-! fields, returns, calls, contracts -/
theorem cellq_obj {G : GC} {ρ : Nat → Int → Option Nat} {σ : Nat → Int → Int} {U : State} {H : Heap} {k ci N : Nat} (hci : ci < 12) (hs : shp k = (ci, N)) : cellq G ρ σ U H k = t_OB (adr G k) (G.2.2.1.1 ci) N (G.2.2.1.2 ci) H (fun j => fvl G ci ρ σ k j) := by
  unfold cellq
  rw [hs]
  split
  · rename_i h; cases h; omega
  · rename_i h; cases h; omega
  · rename_i h; cases h; omega
  · rename_i h; cases h; omega
  · rename_i h; cases h; rfl
def clkq (ci : Nat) (C : String) (T : u_T) (N : Nat) (ty : Nat → FieldType) : Prop := vwCl[ci]? = some (C, T, N) ∧ (∀ w ∈ u_ws C T N, w ∈ tbG) ∧ (∀ k, k < N → parseFieldDescriptor (T k).2.2.1 = some (ty k)) ∧ (∀ a, a < N → ∀ b, b < N → a ≠ b → (T a).2.1 ≠ (T b).2.1) ∧ ci < 12
/-- field j of class ci, by entry idx of class own; z is j as an Int; int or not; final or not -/
def flq (own : String) (idx ci N j : Nat) (z : Int) (isI fin : Bool) : Prop := ∃ (C : String) (T : u_T) (ty : Nat → FieldType), clkq ci C T N ty ∧ j < N ∧ (j : Int) = z ∧ Cond.fieldLink own idx (T j).1 (T j).2.1 (T j).2.2.1 ∈ tbG ∧ fI ci j = isI ∧ (T j).2.2.2 = fin ∧ (T j).1 = C ∧ (if isI = true then ty j = .int else (∃ n, ty j = .object n) ∨ ∃ t, ty j = .array t)
section XF
variable {l : Launch} {G : GC} {M : MI} {R : Room} {pc nx tg : Nat} {L : List (Option AV)} {st : List AV} {S : WS} {ca sl : Nat} {Q : Option AV → WS → Prop}
variable {n0 k idx ci N j : Nat} {ρ : Nat → Int → Option Nat} {σ : Nat → Int → Int} {z : Int} {fin : Bool}
theorem x_getI (hd : dok M.2.1 (pc, .getfield idx, 3, nx, tg)) (hf : flq M.1.cls idx ci N j z true fin) (hs : shp k = (ci, N)) (hk : k < n0) (kk : RunX l G M R nx L (vi (σ k z) :: st) (n0, ρ, σ) ca sl Q) : RunX l G M R pc L (vr k :: st) (n0, ρ, σ) ca sl Q := by
  intro p e s m args below meth c H locs Z ls hc hn hks hr hi hlo hl
  obtain ⟨hd1, hd2, hd3⟩ := hd
  dsimp only at hd1 hd2 hd3
  subst hd2
  have k1 := kk p e s m args below meth c H locs Z ls hc hn hks hr hi hlo hl
  obtain ⟨C, T, ty, ⟨hcl, hin, hty, hnm, hci⟩, hj, hz, hlk, hI, -, -, -⟩ := hf
  subst hz
  have hce := hi.2.2 k hk
  rw [cellq_obj hci hs] at hce
  obtain ⟨cell, q1, q2, q3, q4⟩ := hce
  obtain ⟨hS, hfc, kC, hkC, hkind⟩ := hks.1.1 ci _ hcl
  obtain ⟨cf, kf, fi, f, hff, hsl⟩ := hS j hj
  refine W.getf hc.1 hc.2.1 hc.2.2.2.1 (hc.2.2.2.2 _ hlk) hff (u_facts hfc hkC (u_lays hc.2.2.2.2 hin hj) hff).1 q1 (by rw [q3]; exact fun h => by cases h) (v := .int (Int32.ofInt (σ k j))) ?_ rfl rfl hd1 k1
  rw [hsl, q4 j hj]
  show some (fvl G ci ρ σ k j) = _
  rw [fvl, if_pos hI]
theorem x_getR {r : Nat} (hd : dok M.2.1 (pc, .getfield idx, 3, nx, tg)) (hf : flq M.1.cls idx ci N j z false fin) (hs : shp k = (ci, N)) (hk : k < n0) (hρ : ρ k z = some r) (kk : RunX l G M R nx L (vr r :: st) (n0, ρ, σ) ca sl Q) : RunX l G M R pc L (vr k :: st) (n0, ρ, σ) ca sl Q := by
  intro p e s m args below meth c H locs Z ls hc hn hks hr hi hlo hl
  obtain ⟨hd1, hd2, hd3⟩ := hd
  dsimp only at hd1 hd2 hd3
  subst hd2
  have k1 := kk p e s m args below meth c H locs Z ls hc hn hks hr hi hlo hl
  obtain ⟨C, T, ty, ⟨hcl, hin, hty, hnm, hci⟩, hj, hz, hlk, hI, -, -, -⟩ := hf
  subst hz
  have hce := hi.2.2 k hk
  rw [cellq_obj hci hs] at hce
  obtain ⟨cell, q1, q2, q3, q4⟩ := hce
  obtain ⟨hS, hfc, kC, hkC, hkind⟩ := hks.1.1 ci _ hcl
  obtain ⟨cf, kf, fi, f, hff, hsl⟩ := hS j hj
  refine W.getf hc.1 hc.2.1 hc.2.2.2.1 (hc.2.2.2.2 _ hlk) hff (u_facts hfc hkC (u_lays hc.2.2.2.2 hin hj) hff).1 q1 (by rw [q3]; exact fun h => by cases h) (v := crf G (some r)) ?_ rfl rfl hd1 k1
  rw [hsl, q4 j hj]
  show some (fvl G ci ρ σ k j) = _
  rw [fvl, if_neg (by rw [hI]; decide), hρ]
theorem locs_add {locs : List Loc} {G : GC} {i : Nat} (hlo : ∀ q ∈ locs, G.1 ≤ q.base) (hk : k < 1000) : ∀ q ∈ locs ++ [⟨adr G k, i⟩], G.1 ≤ q.base := by
  intro q hq
  rcases List.mem_append.mp hq with q1 | q1
  · exact hlo q q1
  · rw [List.mem_singleton] at q1
    subst q1
    show G.1 ≤ adr G k
    rw [adr_lt hk]
    omega
theorem x_putI {v : Int} (hd : dok M.2.1 (pc, .putfield idx, 3, nx, tg)) (hf : flq M.1.cls idx ci N j z true false) (hs : shp k = (ci, N)) (hk : k < n0) (kk : RunX l G M R nx L st (n0, ρ, upq σ k z v) ca sl Q) : RunX l G M R pc L (vi v :: vr k :: st) (n0, ρ, σ) ca sl Q := by
  intro p e s m args below meth c H locs Z ls hc hn hks hr hi hlo hl
  obtain ⟨hd1, hd2, hd3⟩ := hd
  dsimp only at hd1 hd2 hd3
  subst hd2
  obtain ⟨C, T, ty, ⟨hcl, hin, hty, hnm, hci⟩, hj, hz, hlk, hI, hfin, -, ht⟩ := hf
  subst hz
  have ht : ty j = .int := ht
  have hap := va_apart (own := M.1.cls) hc.2.2.2.2 hin ty hty hnm hks.1 hcl
  have hce := hi.2.2 k hk
  rw [cellq_obj hci hs] at hce
  obtain ⟨cell, q1, q2, q3, q4⟩ := hce
  obtain ⟨hS, hfc, kC, hkC, hkind⟩ := hks.1.1 ci _ hcl
  obtain ⟨cf, kf, fi, f, hff, hsl⟩ := hS j hj
  have hlay := hc.2.2.2.2 _ (hin _ (u_in_lay hj))
  unfold u_lay at hlay
  rw [if_neg (by rw [hfin]; decide)] at hlay
  have hst := (u_facts hfc hkC (u_lays hc.2.2.2.2 hin hj) hff).1
  have h6 := u_store hfc hkC hkind hlay hff (hty j hj) (v := .int (Int32.ofInt v)) (by rw [ht]; rfl) (by rw [ht]; rfl)
  have hk9 : k < 1000 := Nat.lt_of_lt_of_le hk (Nat.le_trans hi.1.2 (by decide))
  refine W.putK hc.1 hc.2.1 (f := f) ⟨hc.2.2.2.1, hc.2.2.2.2 _ hlk, ⟨_, _, _, hff⟩, hst⟩ (by rw [q2]; exact h6) q1 q3 (by rw [hsl]; exact k2_hasslot (q4 j hj)) rfl rfl hd1 (fun H1 e1 e2 e3 => ?_)
  rw [hsl] at e1 ⊢
  have hI1 : Invq G (n0, ρ, upq σ k j v) s H1 := by
    refine hi.put hk e2 e3 ?_ (fun _ _ => rfl) (fun a ha => upq_ne ha)
    rw [cellq_obj hci hs]
    refine t_OB.to (V := updV (fun j => fvl G ci ρ σ k j) j (.int (Int32.ofInt v))) ⟨_, e1, q2, q3, t_set q4 hap hj _⟩ (fun i _ => ?_)
    unfold fvl
    rw [upq_eq]
    by_cases q : i = j
    · subst q
      rw [if_pos hI, if_pos rfl]
      simp [updV]
    · rw [if_neg (show ¬ (i : Int) = (j : Int) by omega)]
      simp [updV, q]
  exact kk p e s m args below meth c H1 _ Z ls hc hn hks hr hI1 (locs_add hlo hk9) hl
theorem x_putR {r : Nat} (hd : dok M.2.1 (pc, .putfield idx, 3, nx, tg)) (hf : flq M.1.cls idx ci N j z false true) (hs : shp k = (ci, N)) (hk : k < n0) (hin2 : M.1.name = "<init>") (hown : vwCl[ci]?.map (·.1) = some M.1.cls) (kk : RunX l G M R nx L st (n0, upq ρ k z (some r), σ) ca sl Q) : RunX l G M R pc L (vr r :: vr k :: st) (n0, ρ, σ) ca sl Q := by
  intro p e s m args below meth c H locs Z ls hc hn hks hr hi hlo hl
  obtain ⟨hd1, hd2, hd3⟩ := hd
  dsimp only at hd1 hd2 hd3
  subst hd2
  obtain ⟨C, T, ty, ⟨hcl, hin, hty, hnm, hci⟩, hj, hz, hlk, hI, hfin, hTC, ht⟩ := hf
  subst hz
  rw [hcl] at hown
  have hown : C = M.1.cls := Option.some.inj hown
  have ht : (∃ n, ty j = .object n) ∨ ∃ t, ty j = .array t := ht
  have hap := va_apart (own := M.1.cls) hc.2.2.2.2 hin ty hty hnm hks.1 hcl
  have hce := hi.2.2 k hk
  rw [cellq_obj hci hs] at hce
  obtain ⟨cell, q1, q2, q3, q4⟩ := hce
  obtain ⟨hS, hfc, kC, hkC, hkind⟩ := hks.1.1 ci _ hcl
  obtain ⟨cf, kf, fi, f, hff, hsl⟩ := hS j hj
  have hlay := hc.2.2.2.2 _ (hin _ (u_in_lay hj))
  unfold u_lay at hlay
  rw [if_pos hfin] at hlay
  have hst := (u_facts hfc hkC (u_lays hc.2.2.2.2 hin hj) hff).1
  have hcf : m.cls = cf := by
    obtain ⟨_, _, c', _, _, _, -, -, hf', -, -, -, hown2, -⟩ := Cond.laysFinal_spec hlay
    have e1 : c' = cf := by have := hff.symm.trans hf'; simp at this; exact this.1.symm
    rw [hTC, hown] at hown2
    rw [← e1]; exact Option.some.inj (hc.2.2.2.1.symm.trans hown2)
  have h6 := u_fits hfc hkC hkind (Or.inr hlay) hff (hty j hj) (v := .ref (adr G r)) (by rcases ht with ⟨n, h⟩ | ⟨n, h⟩ <;> rw [h] <;> rfl) (by rcases ht with ⟨n, h⟩ | ⟨n, h⟩ <;> rw [h] <;> rfl)
  have hk9 : k < 1000 := Nat.lt_of_lt_of_le hk (Nat.le_trans hi.1.2 (by decide))
  refine W.putFinK hc.1 hc.2.1 hc.2.2.2.1 (hc.2.2.2.2 _ hlk) hff hst hcf (hn.trans hin2) (by rw [q2]; exact h6) q1 q3 (by rw [hsl]; exact k2_hasslot (q4 j hj)) rfl rfl hd1 (fun H1 e1 e2 e3 => ?_)
  rw [hsl] at e1 ⊢
  have hI1 : Invq G (n0, upq ρ k j (some r), σ) s H1 := by
    refine hi.put hk e2 e3 ?_ (fun a ha => upq_ne ha) (fun _ _ => rfl)
    rw [cellq_obj hci hs]
    refine t_OB.to (V := updV (fun j => fvl G ci ρ σ k j) j (.ref (adr G r))) ⟨_, e1, q2, q3, t_set q4 hap hj _⟩ (fun i _ => ?_)
    unfold fvl
    rw [upq_eq]
    by_cases q : i = j
    · subst q
      rw [if_neg (by rw [hI]; decide), if_pos rfl]
      simp [updV, crf]
    · rw [if_neg (show ¬ (i : Int) = (j : Int) by omega)]
      simp [updV, q]
  exact kk p e s m args below meth c H1 _ Z ls hc hn hks hr hI1 (locs_add hlo hk9) hl
theorem x_ret {r : Option AV} (hd : dok M.2.1 (pc, rinq r, 1, nx, tg)) (hok : rokq M.2.2.2 r) (h1 : ca ≤ R.cells) (h2 : sl ≤ R.slots) (hq : Q r S) : RunX l G M R pc L r.toList S ca sl Q := by
  intro p e s m args below meth c H locs Z ls hc hn hks hr hi hlo hl
  exact hr r S pc ls H locs ca sl hq hok hd.1 hi hlo h1 h2
theorem x_iret {z : Int} (hd : dok M.2.1 (pc, .ireturn, 1, nx, tg)) (hok : rokq M.2.2.2 (some (vi z))) (hq : Q (some (vi z)) S) : RunX l G M R pc L [vi z] S 0 0 Q := x_ret (r := some (vi z)) hd hok (Nat.zero_le _) (Nat.zero_le _) hq
theorem x_aret {z : Nat} (hd : dok M.2.1 (pc, .areturn, 1, nx, tg)) (hok : rokq M.2.2.2 (some (vr z))) (hq : Q (some (vr z)) S) : RunX l G M R pc L [vr z] S 0 0 Q := x_ret (r := some (vr z)) hd hok (Nat.zero_le _) (Nat.zero_le _) hq
theorem x_vret (hd : dok M.2.1 (pc, .return_, 1, nx, tg)) (hok : rokq M.2.2.2 none) (h1 : ca ≤ R.cells) (h2 : sl ≤ R.slots) (hq : Q none S) : RunX l G M R pc L [] S ca sl Q := x_ret (r := none) hd hok h1 h2 hq
/-- what follows may be asked of less -/
theorem RunX.mono {Q' : Option AV → WS → Prop} (h : RunX l G M R pc L st S ca sl Q) (hQ : ∀ r S', Q r S' → Q' r S') : RunX l G M R pc L st S ca sl Q' := by
  intro p e s m args below meth c H locs Z ls hc hn hks hr hi hlo hl
  exact h p e s m args below meth c H locs Z ls hc hn hks (fun r S' pc' ls' H' locs' ca' sl' hq => hr r S' pc' ls' H' locs' ca' sl' (hQ r S' hq)) hi hlo hl
end XF
/-! contracts -/
def rmq (d mc ms : Nat) : Room := { frames := d, cells := mc, slots := ms, locals := 40 * d }
def Cwq (M : MI) : List Cond := Cond.code M.1 M.2.1 M.2.2.1 M.2.2.2 :: tbG
def Qcq (G : GC) (Q : Option AV → WS → Prop) : Array Value → State → Outcome → State → Prop := fun _ _ o t => ∃ (r : Option AV) (S' : WS), o = .returned (r.map (cvl G)) ∧ Q r S' ∧ Invq G S' t t.heap
def Ct (l : Launch) (G : GC) (M : MI) (d mc ms : Nat) (As : List AV) (S : WS) (Q : Option AV → WS → Prop) : Prop := Met l M.1 (Cwq M) (rmq d mc ms) (va_Pc (As.map (cvl G)) (fun U => Invq G S U U.heap ∧ Kst G U)) (Qcq G Q) mc ms (fun q => G.1 ≤ q)
def eLq : List AV → List (Option AV)
  | [] => []
  | .inr (.inl z) :: vs => some (vl z) :: none :: eLq vs
  | v :: vs => some v :: eLq vs
theorem eLq_pr {G : GC} : ∀ (vs : List AV) (n : Nat), prL G n (eLq vs) = lv_args n (vs.map (cvl G))
  | [], n => rfl
  | .inr (.inl z) :: vs, n => by
    show (n, cvl G (vl z)) :: prL G (n + 2) (eLq vs) = _
    rw [eLq_pr vs]; rfl
  | .inl z :: vs, n => by
    show (n, cvl G (vi z)) :: prL G (n + 1) (eLq vs) = _
    rw [eLq_pr vs]; rfl
  | .inr (.inr none) :: vs, n => by
    show (n, _) :: prL G (n + 1) (eLq vs) = _
    rw [eLq_pr vs]; rfl
  | .inr (.inr (some k)) :: vs, n => by
    show (n, _) :: prL G (n + 1) (eLq vs) = _
    rw [eLq_pr vs]; rfl
theorem eLq_len {G : GC} : ∀ (vs : List AV), (lg_sl (vs.map (cvl G))).length = (eLq vs).length
  | [] => rfl
  | .inr (.inl z) :: vs => by
    have := eLq_len (G := G) vs
    show (Slot.val _ :: Slot.second :: lg_sl (vs.map (cvl G))).length = _
    simp [eLq, this]
  | .inl z :: vs => by
    have := eLq_len (G := G) vs
    show (Slot.val _ :: lg_sl (vs.map (cvl G))).length = _
    simp [eLq, this]
  | .inr (.inr none) :: vs => by
    have := eLq_len (G := G) vs
    show (Slot.val _ :: lg_sl (vs.map (cvl G))).length = _
    simp [eLq, this]
  | .inr (.inr (some k)) :: vs => by
    have := eLq_len (G := G) vs
    show (Slot.val _ :: lg_sl (vs.map (cvl G))).length = _
    simp [eLq, this]
theorem Ct.of {l : Launch} {G : GC} {M : MI} {d mc ms : Nat} {As : List AV} {S : WS} {Q : Option AV → WS → Prop} (hy : plainName M.1.cls = true) (hlen : (eLq As).length ≤ M.2.2.1) (h : RunX l G M (rmq d mc ms) 0 (eLq As) [] S 0 0 Q) : Ct l G M d mc ms As S Q := by
  refine Met.ofW (cc := M.2.1) (maxL := M.2.2.1) (ret := M.2.2.2) hy rfl ?_
  intro p e s m args below meth c s₁ B hml hv
  obtain ⟨rfl, hI, hK⟩ := hv
  have hts := atoms_spec (ws := Cwq M) B.pre
  have hown : s.vm.findClass M.1.cls = some m.cls := findClass_of_methodNamed B.named
  have hlocks := B.notSynchronized
  have hin : meth.name = M.1.name := (name_of_methodNamed B.named B.method).1
  have hr := B.returns
  have hl0 := lv_entry (As.map (cvl G)) (n := M.2.2.1) (by rw [eLq_len]; exact hlen)
  rw [lg_entry_eq]
  generalize (lg_sl (As.map (cvl G)) ++ List.replicate (M.2.2.1 - (lg_sl (As.map (cvl G))).length) Slot.unset).toArray = ls at hl0 ⊢
  have hl : lh G ls M.2.2.1 (eLq As) := by
    unfold lh
    rw [eLq_pr]
    exact hl0
  refine h p e s m _ below meth c s.heap [] _ ls ⟨B.exec, B.bytes, hml, hown, fun w hw => hts w (List.mem_cons_of_mem _ hw)⟩ hin hK ?_ hI (fun q hq => by cases hq) hl
  intro r S' pc' ls' H' locs' ca' sl' hq hok hdec hI' hlo h1 h2
  have h1 : ca' ≤ mc := h1
  have h2 : sl' ≤ ms := h2
  refine W.widen h1 h2 ?_
  have hpost : ∀ t : State, t.heap = H' → s.WarmedH t.vm → Qcq G Q (As.map (cvl G)).toArray s (.returned (r.map (cvl G))) t := fun t ht hW => ⟨r, S', rfl, hq, by rw [ht]; exact hI'.moved hW.alike⟩
  match hM : M.2.2.2, r, hok, hdec, hpost with
  | none, none, _, hdec, hpost => exact W.vret B.exec B.bytes (hr.trans hM) hpost hlo hdec
  | some .int, some (.inl z), _, hdec, hpost => exact W.iret (v := Int32.ofInt z) B.exec B.bytes (hr.trans hM) hpost hlo hdec
  | some .boolean, some (.inl z), hok, hdec, hpost =>
    have hok : z = 0 ∨ z = 1 := hok
    exact W.zret (v := Int32.ofInt z) B.exec B.bytes (hr.trans hM) (by rcases hok with rfl | rfl <;> rfl) hpost hlo hdec
  | some .byte, some (.inl z), hok, hdec, hpost =>
    have hok : z = 0 := hok
    exact W.zret (v := Int32.ofInt z) B.exec B.bytes (hr.trans hM) (by rw [hok]; rfl) hpost hlo hdec
  | some .char, some (.inl z), hok, hdec, hpost =>
    have hok : 0 ≤ z ∧ z < 65536 := hok
    refine W.zret (v := Int32.ofInt z) B.exec B.bytes (hr.trans hM) ?_ hpost hlo hdec
    have := (pk_charN (q := z.toNat) (by omega)).1
    rw [show nI z.toNat = Int32.ofInt z by unfold nI; rw [← Int32.ofInt_eq_ofNat, Int.toNat_of_nonneg hok.1]] at this
    exact this
  | some .long, some (.inr (.inl z)), _, hdec, hpost => exact W.lret (v := Int64.ofInt z) B.exec B.bytes (hr.trans hM) hpost hlo hdec
  | some (.object n), some (.inr (.inr (some k))), _, hdec, hpost => exact W.aret (v := .ref (adr G k)) B.exec B.bytes (hr.trans hM) (Or.inl ⟨n, rfl⟩) (Or.inr ⟨_, rfl⟩) hpost hlo hdec
theorem tbl_good : tbG.all goodWord = true := List.all_eq_true.mpr fun w hw => (List.mem_filter.mp hw).2
theorem Cwq_good {M : MI} (h : Cond.code M.1 M.2.1 M.2.2.1 M.2.2.2 ∈ tbG) : GoodIn tbG (Cwq M) := by
  intro w hw
  have hm : w ∈ tbG := by
    rcases List.mem_cons.mp hw with rfl | h1
    · exact h
    · exact h1
  exact ⟨hm, good_of_word (List.all_eq_true.mp tbl_good w hm)⟩
theorem good_in {w : Cond} (h : w ∈ tbG) : w ∈ tbG ∧ ((w.onTables && w.keeps) = true ∨ ∃ ty, w = .arrayClass ty) := ⟨h, good_of_word (List.all_eq_true.mp tbl_good w h)⟩
/-- what a call needs of the one that is called -/
def mokq (M : MI) (n : Nat) : Prop := Cond.code M.1 M.2.1 M.2.2.1 M.2.2.2 ∈ tbG ∧ Cond.initialized M.1.cls ∈ tbG ∧ (M.1.cls ≠ "java/lang/invoke/MethodHandle" ∧ M.1.cls ≠ "java/lang/invoke/VarHandle" ∧ (parseMethodDescriptor M.1.desc).map (fun d => d.parameters.length) = some n)
def mvq (M : MI) (n : Nat) : Prop := mokq M n ∧ Cond.instanceMethod M.1 ∈ tbG ∧ Cond.selects M.1.cls M.1 M.1 ∈ tbG
def msq (M : MI) (n : Nat) : Prop := mokq M n ∧ Cond.static M.1 ∈ tbG
def miq (M : MI) (n : Nat) : Prop := mokq M n ∧ Cond.instanceMethod M.1 ∈ tbG ∧ M.1.name = "<init>" ∧ M.2.2.2 = none
theorem Invq.blind {G : GC} {S : WS} {av : List Value} : FrameBlind (va_Pc av (fun U => Invq G S U U.heap ∧ Kst G U)) := by
  intro a U g mk q
  obtain ⟨q0, q1, q2⟩ := q
  exact ⟨q0, Invq.moved (u := U) (U := U.calling g mk a) (Vm.Alike.refl U.vm) q1, Kst.same rfl q2⟩
section XC
variable {l : Launch} {G : GC} {M : MI} {R : Room} {pc nx tg : Nat} {L : List (Option AV)} {st rest : List AV} {S : WS} {ca sl : Nat} {Q : Option AV → WS → Prop}
variable {K : MI} {d mc ms n idx : Nat} {As : List AV} {Q1 : Option AV → WS → Prop}
def catq (st : List AV) : Nat := match st with
  | [] => 0
  | .inr (.inl _) :: r => 2 + catq r
  | _ :: r => 1 + catq r
theorem catq_sum {G : GC} : ∀ st : List AV, ((st.map (cvl G)).map fun v => v.category).sum = catq st
  | [] => rfl
  | .inr (.inl z) :: r => by
    rw [List.map_cons, List.map_cons, List.sum_cons, catq_sum r]; rfl
  | .inl z :: r => by
    rw [List.map_cons, List.map_cons, List.sum_cons, catq_sum r]; rfl
  | .inr (.inr none) :: r => by
    rw [List.map_cons, List.map_cons, List.sum_cons, catq_sum r]; rfl
  | .inr (.inr (some k)) :: r => by
    rw [List.map_cons, List.map_cons, List.sum_cons, catq_sum r]; rfl
/-- a call that has run: the caller goes on -/
theorem x_back {p : Program} {e : Env} {s : State} {m : MethodId} {args a : Array Value} {below : List Frame} {meth : Method} {c : Code} {H : Heap} {locs : List Loc} {Z : State → Prop} {ls : Array Slot} {st0 : List Value}
    (hrun : va_Run p l e R s m args below meth c H locs ca sl mc ms (F0 m pc ls st0) (rest.map (cvl G)) (Qcq G Q1 a) (fun q => G.1 ≤ q)) (hlo : ∀ q ∈ locs, G.1 ≤ q.base)
    (kk : ∀ (r : Option AV) (S' : WS) (H1 : Heap) (locs1 : List Loc), Q1 r S' → Invq G S' s H1 → (∀ q ∈ locs1, G.1 ≤ q.base) → W p l e R s m args below meth c H1 locs1 (ca + mc) (sl + ms) Z (F0 m (pc + 3) ls ((r.toList ++ rest).map (cvl G)))) : W p l e R s m args below meth c H locs ca sl Z (F0 m pc ls st0) := by
  intro T hT X
  obtain ⟨v, st₀, t, T', L, h0, X', hL, e1, e2, ⟨r, S', hv, hq, hI⟩, st⟩ := hrun T hT X
  cases hv
  have hI2 : Invq G S' s T'.heap := by
    rw [e1]
    exact hI.moved (by rw [← e2]; exact X'.warmed.alike.symm)
  obtain ⟨t2, a1, b1⟩ := kk r S' T'.heap (locs ++ L) hq hI2 (fun q hq => by
    rcases List.mem_append.mp hq with h | h
    · exact hlo q h
    · exact hL q h) T' rfl X'
  refine ⟨t2, st t2 ?_, b1⟩
  have hst : (r.map (cvl G)).toList ++ rest.map (cvl G) = (r.toList ++ rest).map (cvl G) := by cases r <;> simp
  show Steps p.tables e below (T'.setTop { (F0 m pc ls st0) with pc := pc + 3, stack := (r.map (cvl G)).toList ++ rest.map (cvl G) }) t2
  rw [hst]
  exact a1
theorem x_callV {k ci N : Nat} (hd : dok M.2.1 (pc, .invokevirtual idx, 3, nx, tg)) (hlk : Cond.methodLink M.1.cls idx K.1 ∈ tbG) (hm : mvq K n) (hs : shp k = (ci, N)) (hk : k < S.1) (hcc : ci < 12 ∧ vwCl[ci]?.map (·.1) = some K.1.cls) (hct : Ct l G K d mc ms (vr k :: As) S Q1) (hR : d + 1 ≤ R.frames ∧ 8 + (K.2.2.1 + 11) + 40 * d ≤ R.locals) (hca : ca + mc ≤ R.cells ∧ sl + ms ≤ R.slots) (hst : st = As.reverse ++ vr k :: rest) (hn : As.length = n) (hcat : catq rest ≤ 8)
    (kk : ∀ (r : Option AV) (S' : WS), Q1 r S' → RunX l G M R nx L (r.toList ++ rest) S' (ca + mc) (sl + ms) Q) : RunX l G M R pc L st S ca sl Q := by
  intro p e s m args below meth c H locs Z ls hc hnm hks hr hi hlo hl
  obtain ⟨hd1, hd2, hd3⟩ := hd
  dsimp only at hd1 hd2 hd3
  subst hd2
  subst hst
  obtain ⟨⟨m1, m2, m3⟩, m4, m5⟩ := hm
  obtain ⟨hci, hcls⟩ := hcc
  have hT : GoodIn tbG (wsV M.1.cls idx K.1.cls K.1 (Cwq K)) := by
    intro w hw
    rcases List.mem_append.mp hw with h | h
    · simp only [List.mem_cons, List.not_mem_nil, or_false] at h
      rcases h with rfl | rfl | rfl | rfl
      · exact good_in hlk
      · exact good_in m4
      · exact good_in m5
      · exact good_in m2
    · exact Cwq_good m1 w h
  have hce := hi.2.2 k hk
  rw [cellq_obj hci hs] at hce
  obtain ⟨cell, q1, q2, q3, q4⟩ := hce
  refine x_back (rest := rest) (hrun := va_runV (As := As.map (cvl G)) hc hct (cwV (bytes := K.2.1) (maxL := K.2.2.1) (ret := K.2.2.2) n hc.2.2.2.2 hT rfl rfl rfl ⟨rfl, m3⟩ hR) (b := adr G k) ⟨Invq.blind, ?_, fun U hU hW => ⟨rfl, by rw [hU]; exact hi.moved hW.alike, hks.warm hW⟩⟩ rfl (by rw [List.length_map]; exact hn) hl.1 (by show List.map (cvl G) (As.reverse ++ vr k :: rest) = _; rw [List.map_append, List.map_reverse]; rfl) (lv_room (by rw [catq_sum]; exact hcat)) hd1 hca) hlo ?_
  · cases hv : vwCl[ci]? with
    | none => rw [hv] at hcls; cases hcls
    | some q =>
      rw [hv] at hcls
      obtain ⟨-, hfc, -⟩ := hks.1.1 ci q hv
      refine ⟨cell, q1, by rw [q3]; rfl, ?_⟩
      rw [q2, ← hfc, show K.1.cls = q.1 from (Option.some.inj hcls).symm]
  · intro r S' H1 locs1 hq hI hlo1
    exact kk r S' hq p e s m args below meth c H1 locs1 Z ls hc hnm hks hr hI hlo1 hl
theorem x_callS (hd : dok M.2.1 (pc, .invokestatic idx, 3, nx, tg)) (hlk : Cond.methodLink M.1.cls idx K.1 ∈ tbG) (hm : msq K n) (hct : Ct l G K d mc ms As S Q1) (hR : d + 1 ≤ R.frames ∧ 8 + (K.2.2.1 + 11) + 40 * d ≤ R.locals) (hca : ca + mc ≤ R.cells ∧ sl + ms ≤ R.slots) (hst : st = As.reverse ++ rest) (hn : As.length = n) (hcat : catq rest ≤ 8)
    (kk : ∀ (r : Option AV) (S' : WS), Q1 r S' → RunX l G M R nx L (r.toList ++ rest) S' (ca + mc) (sl + ms) Q) : RunX l G M R pc L st S ca sl Q := by
  intro p e s m args below meth c H locs Z ls hc hnm hks hr hi hlo hl
  obtain ⟨hd1, hd2, hd3⟩ := hd
  dsimp only at hd1 hd2 hd3
  subst hd2
  subst hst
  obtain ⟨⟨m1, m2, m3⟩, m4⟩ := hm
  have hT : GoodIn tbG (va_wsS M.1.cls idx K.1 (Cwq K)) := by
    intro w hw
    rcases List.mem_append.mp hw with h | h
    · simp only [List.mem_cons, List.not_mem_nil, or_false] at h
      rcases h with rfl | rfl | rfl
      · exact good_in hlk
      · exact good_in m4
      · exact good_in m2
    · exact Cwq_good m1 w h
  refine x_back (rest := rest) (hrun := va_runS (As := As.map (cvl G)) hc hct (va_cwS (bytes := K.2.1) (maxL := K.2.2.1) (ret := K.2.2.2) n hc.2.2.2.2 hT rfl rfl rfl m3 hR) ⟨Invq.blind, fun U hU hW => ⟨rfl, by rw [hU]; exact hi.moved hW.alike, hks.warm hW⟩⟩ rfl (by rw [List.length_map]; exact hn) hl.1 (by show List.map (cvl G) (As.reverse ++ rest) = _; rw [List.map_append, List.map_reverse]) (lv_room (by rw [catq_sum]; exact hcat)) hd1 hca) hlo ?_
  intro r S' H1 locs1 hq hI hlo1
  exact kk r S' hq p e s m args below meth c H1 locs1 Z ls hc hnm hks hr hI hlo1 hl
theorem x_callSN {host : String} (hd : dok M.2.1 (pc, .invokestatic idx, 3, nx, tg)) (hlk : (M.1.cls, idx, K.1, host) ∈ nstq) (hm : msq K n) (hct : Ct l G K d mc ms As S Q1) (hR : d + 1 ≤ R.frames ∧ 8 + (K.2.2.1 + 11) + 40 * d ≤ R.locals) (hca : ca + mc ≤ R.cells ∧ sl + ms ≤ R.slots) (hst : st = As.reverse ++ rest) (hn : As.length = n) (hcat : catq rest ≤ 8)
    (kk : ∀ (r : Option AV) (S' : WS), Q1 r S' → RunX l G M R nx L (r.toList ++ rest) S' (ca + mc) (sl + ms) Q) : RunX l G M R pc L st S ca sl Q := by
  intro p e s m args below meth c H locs Z ls hc hnm hks hr hi hlo hl
  obtain ⟨hd1, hd2, hd3⟩ := hd
  dsimp only at hd1 hd2 hd3
  subst hd2
  subst hst
  obtain ⟨⟨m1, m2, m3⟩, m4⟩ := hm
  have hnw : va_Nw (.methodLinkNest M.1.cls idx K.1 host) s := hks.2.2.2.2.2.2.2.1 _ hlk
  refine x_back (rest := rest) (hrun := va_runSN (As := As.map (cvl G)) (host := host) hc hct ⟨va_cnB (bytes := K.2.1) (maxL := K.2.2.1) (ret := K.2.2.2) n hc.2.2.2.2 (Cwq_good m1) rfl rfl rfl hnw (hc.2.2.2.2 _ m2) m3 hR, hc.2.2.2.2 _ m4, trivial⟩ ⟨Invq.blind, fun U hU hW => ⟨rfl, by rw [hU]; exact hi.moved hW.alike, hks.warm hW⟩⟩ rfl (by rw [List.length_map]; exact hn) hl.1 (by show List.map (cvl G) (As.reverse ++ rest) = _; rw [List.map_append, List.map_reverse]) (lv_room (by rw [catq_sum]; exact hcat)) hd1 hca) hlo ?_
  intro r S' H1 locs1 hq hI hlo1
  exact kk r S' hq p e s m args below meth c H1 locs1 Z ls hc hnm hks hr hI hlo1 hl
theorem x_callI {k : Nat} (hd : dok M.2.1 (pc, .invokespecial idx, 3, nx, tg)) (hlk : Cond.methodLink M.1.cls idx K.1 ∈ tbG) (hm : miq K n) (hct : Ct l G K d mc ms (vr k :: As) S Q1) (hR : d + 1 ≤ R.frames ∧ 8 + (K.2.2.1 + 11) + 40 * d ≤ R.locals) (hca : ca + mc ≤ R.cells ∧ sl + ms ≤ R.slots) (hst : st = As.reverse ++ vr k :: rest) (hn : As.length = n) (hcat : catq rest ≤ 8)
    (kk : ∀ (r : Option AV) (S' : WS), Q1 r S' → RunX l G M R nx L (r.toList ++ rest) S' (ca + mc) (sl + ms) Q) : RunX l G M R pc L st S ca sl Q := by
  intro p e s m args below meth c H locs Z ls hc hnm hks hr hi hlo hl
  obtain ⟨hd1, hd2, hd3⟩ := hd
  dsimp only at hd1 hd2 hd3
  subst hd2
  subst hst
  obtain ⟨⟨m1, m2, m3⟩, m4, m5, m6⟩ := hm
  have m1' := m1
  rw [m6] at m1'
  refine x_back (rest := rest) (hrun := va_runI (As := As.map (cvl G)) (b := adr G k) hc hct (cwI (bytes := K.2.1) (maxL := K.2.2.1) n hc.2.2.2.2 (Cwq_good m1) (by unfold Cwq; rw [m6]) rfl rfl (hc.2.2.2.2 _ m2) (hc.2.2.2.2 _ hlk) (hc.2.2.2.2 _ m4) m5 m3 hR) ⟨Invq.blind, fun U hU hW => ⟨rfl, by rw [hU]; exact hi.moved hW.alike, hks.warm hW⟩⟩ rfl (by rw [List.length_map]; exact hn) hl.1 (by show List.map (cvl G) (As.reverse ++ vr k :: rest) = _; rw [List.map_append, List.map_reverse]; rfl) (lv_room (by rw [catq_sum]; exact hcat)) hd1 hca) hlo ?_
  intro r S' H1 locs1 hq hI hlo1
  exact kk r S' hq p e s m args below meth c H1 locs1 Z ls hc hnm hks hr hI hlo1 hl
theorem x_callIN {k : Nat} {host : String} (hd : dok M.2.1 (pc, .invokespecial idx, 3, nx, tg)) (hlk : (M.1.cls, idx, K.1, host) ∈ nstq) (hm : miq K n) (hct : Ct l G K d mc ms (vr k :: As) S Q1) (hR : d + 1 ≤ R.frames ∧ 8 + (K.2.2.1 + 11) + 40 * d ≤ R.locals) (hca : ca + mc ≤ R.cells ∧ sl + ms ≤ R.slots) (hst : st = As.reverse ++ vr k :: rest) (hn : As.length = n) (hcat : catq rest ≤ 8)
    (kk : ∀ (r : Option AV) (S' : WS), Q1 r S' → RunX l G M R nx L (r.toList ++ rest) S' (ca + mc) (sl + ms) Q) : RunX l G M R pc L st S ca sl Q := by
  intro p e s m args below meth c H locs Z ls hc hnm hks hr hi hlo hl
  obtain ⟨hd1, hd2, hd3⟩ := hd
  dsimp only at hd1 hd2 hd3
  subst hd2
  subst hst
  obtain ⟨⟨m1, m2, m3⟩, m4, m5, m6⟩ := hm
  have hnw : va_Nw (.methodLinkNest M.1.cls idx K.1 host) s := hks.2.2.2.2.2.2.2.1 _ hlk
  refine x_back (rest := rest) (hrun := va_runIN (As := As.map (cvl G)) (host := host) (b := adr G k) hc hct ⟨va_cnB (bytes := K.2.1) (maxL := K.2.2.1) n hc.2.2.2.2 (Cwq_good m1) (by unfold Cwq; rw [m6]) rfl rfl hnw (hc.2.2.2.2 _ m2) m3 hR, m5, hc.2.2.2.2 _ m4⟩ ⟨Invq.blind, fun U hU hW => ⟨rfl, by rw [hU]; exact hi.moved hW.alike, hks.warm hW⟩⟩ rfl (by rw [List.length_map]; exact hn) hl.1 (by show List.map (cvl G) (As.reverse ++ vr k :: rest) = _; rw [List.map_append, List.map_reverse]; rfl) (lv_room (by rw [catq_sum]; exact hcat)) hd1 hca) hlo ?_
  intro r S' H1 locs1 hq hI hlo1
  exact kk r S' hq p e s m args below meth c H1 locs1 Z ls hc hnm hks hr hI hlo1 hl
end XC
end
section
/-! constants, texts, the script; what is made -/
section XS
variable {l : Launch} {G : GC} {M : MI} {R : Room} {pc nx tg : Nat} {L : List (Option AV)} {st : List AV} {S : WS} {ca sl : Nat} {Q : Option AV → WS → Prop}
theorem o_nat (n : Nat) : Int32.ofNat n = Int32.ofInt (n : Int) := Int32.ofInt_eq_ofNat.symm
/-- a constant's cell lies below the base -/
theorem x_below {U : State} {H : Heap} (hi : Invq G S U H) {a : Nat} {cell : Cell} (h : G.2.1[a]? = some cell) (ha : ¬ G.1 ≤ a) : H[a]? = some cell := by rw [hi.2.1 a (Nat.not_le.mp ha)]; exact h
theorem x_gets {i idx : Nat} {q : String × String × List Int} (hd : dok M.2.1 (pc, .getstatic idx, 3, nx, tg)) (hq : stq[i]? = some q) (hlk : Cond.fieldLink M.1.cls idx q.1 q.2.1 "[I" ∈ tbG) (kk : RunX l G M R nx L (vr (1000 + i) :: st) S ca sl Q) : RunX l G M R pc L st S ca sl Q := by
  intro p e s m args below meth c H locs Z ls hc hn hks hr hi hlo hl
  obtain ⟨hd1, hd2, hd3⟩ := hd
  dsimp only at hd1 hd2 hd3
  subst hd2
  obtain ⟨⟨cf, kf, fi, f, a, cell, h1, h2, h3, h4, h5, h6, h7, h8⟩, -⟩ := hks.2.1 i q hq
  exact W.gets hc.1 hc.2.1 hc.2.2.2.1 (hc.2.2.2.2 _ hlk) h1 h2 h3 h4 (x_below hi h5 h8) (fun e => by rw [e] at h6; cases h6) h7 rfl hd1 (kk p e s m args below meth c H locs Z ls hc hn hks hr hi hlo hl)
theorem x_getsZ {idx : Nat} (hd : dok M.2.1 (pc, .getstatic idx, 3, nx, tg)) (hlk : Cond.fieldLink M.1.cls idx "java/lang/String" "COMPACT_STRINGS" "Z" ∈ tbG) (kk : RunX l G M R nx L (vi 1 :: st) S ca sl Q) : RunX l G M R pc L st S ca sl Q := by
  intro p e s m args below meth c H locs Z ls hc hn hks hr hi hlo hl
  obtain ⟨hd1, hd2, hd3⟩ := hd
  dsimp only at hd1 hd2 hd3
  subst hd2
  obtain ⟨cf, kf, fi, f, a, cell, h1, h2, h3, h4, h5, h6, h7, h8⟩ := hks.2.2.2.2.1
  exact W.gets hc.1 hc.2.1 hc.2.2.2.1 (hc.2.2.2.2 _ hlk) h1 h2 h3 h4 (x_below hi h5 h8) (fun e => by rw [e] at h6; cases h6) h7 rfl hd1 (kk p e s m args below meth c H locs Z ls hc hn hks hr hi hlo hl)
theorem x_getsF {idx : Nat} (hd : dok M.2.1 (pc, .getstatic idx, 3, nx, tg)) (hlk : Cond.fieldLink M.1.cls idx "jdk/internal/util/Preconditions" "SIOOBE_FORMATTER" sfmt ∈ tbG) (kk : ∀ r : Option Nat, RunX l G M R nx L (.inr (.inr r) :: st) S ca sl Q) : RunX l G M R pc L st S ca sl Q := by
  intro p e s m args below meth c H locs Z ls hc hn hks hr hi hlo hl
  obtain ⟨hd1, hd2, hd3⟩ := hd
  dsimp only at hd1 hd2 hd3
  subst hd2
  obtain ⟨r, cf, kf, fi, f, a, cell, h1, h2, h3, h4, h5, h6, h7, h8⟩ := hks.2.2.2.2.2.1
  exact W.gets hc.1 hc.2.1 hc.2.2.2.1 (hc.2.2.2.2 _ hlk) h1 h2 h3 h4 (x_below hi h5 h8) (fun e => by rw [e] at h6; cases h6) h7 rfl hd1 (kk r p e s m args below meth c H locs Z ls hc hn hks hr hi hlo hl)
theorem x_Tin {i : Int} {N n : Nat} (h : 0 ≤ i ∧ i < N) (hN : N ≤ n) (hs : N < 2147483648) : ¬ (Int32.ofInt i < 0 ∨ n ≤ (Int32.ofInt i).toNatClampNeg) := by
  rw [o32_0, o32_lt (by omega) (by decide), o32_ix h.1 (by omega)]
  omega
/-- a static array is read -/
theorem x_ialdS {i : Nat} {z : Int} {q : String × String × List Int} (hd : dok M.2.1 (pc, .iaload, 1, nx, tg)) (hq : stq[i]? = some q) (hz : 0 ≤ z ∧ z < q.2.2.length) (hln : q.2.2.length < 100) (kk : RunX l G M R nx L (vi (q.2.2.getD z.toNat 0) :: st) S ca sl Q) : RunX l G M R pc L (vi z :: vr (1000 + i) :: st) S ca sl Q := by
  intro p e s m args below meth c H locs Z ls hc hn hks hr hi hlo hl
  obtain ⟨hd1, hd2, hd3⟩ := hd
  dsimp only at hd1 hd2 hd3
  subst hd2
  obtain ⟨-, cell, h1, h2, h3, h4, h5, h6, h7⟩ := hks.2.1 i q hq
  refine W.iald (v := .int (Int32.ofInt (q.2.2.getD z.toNat 0))) hc.1 hc.2.1 (x_below hi h1 h7) h2 h3 (x_Tin hz h4 (by omega)) ?_ rfl rfl hd1 (kk p e s m args below meth c H locs Z ls hc hn hks hr hi hlo hl)
  rw [o32_ix hz.1 (by omega)]
  exact h6 _ (by omega)
/-- the script is read -/
theorem x_sld {z : Int} (hd : dok M.2.1 (pc, .iaload, 1, nx, tg)) (hz : 0 ≤ z ∧ z < G.2.2.2.2.1) (hln : G.2.2.2.2.1 < 100000) (kk : RunX l G M R nx L (vi (G.2.2.2.2.2 z.toNat) :: st) S ca sl Q) : RunX l G M R pc L (vi z :: vr 1060 :: st) S ca sl Q := by
  intro p e s m args below meth c H locs Z ls hc hn hks hr hi hlo hl
  obtain ⟨hd1, hd2, hd3⟩ := hd
  dsimp only at hd1 hd2 hd3
  subst hd2
  obtain ⟨cell, h1, h2, h3, h4, h5, h6, h7⟩ := hks.2.2.2.2.2.2.1
  refine W.iald (v := .int (Int32.ofInt (G.2.2.2.2.2 z.toNat))) hc.1 hc.2.1 (x_below hi h1 h7) h2 h3 (x_Tin hz h4 (by omega)) ?_ rfl rfl hd1 (kk p e s m args below meth c H locs Z ls hc hn hks hr hi hlo hl)
  rw [o32_ix hz.1 (by omega)]
  exact h6 _ (by omega)
theorem x_slen (hd : dok M.2.1 (pc, .arraylength, 1, nx, tg)) (kk : RunX l G M R nx L (vi G.2.2.2.2.1 :: st) S ca sl Q) : RunX l G M R pc L (vr 1060 :: st) S ca sl Q := by
  intro p e s m args below meth c H locs Z ls hc hn hks hr hi hlo hl
  obtain ⟨hd1, hd2, hd3⟩ := hd
  dsimp only at hd1 hd2 hd3
  subst hd2
  obtain ⟨cell, h1, h2, h3, h4, h5, h6, h7⟩ := hks.2.2.2.2.2.2.1
  exact W.alen (n := Int32.ofInt G.2.2.2.2.1) hc.1 hc.2.1 (x_below hi h1 h7) h2 (by rw [h5, o_nat]) rfl rfl hd1 (kk p e s m args below meth c H locs Z ls hc hn hks hr hi hlo hl)
/-- a text constant -/
theorem x_ldcS {i : Nat} {q : Nat × String × List Int32} (hd : dok M.2.1 (pc, .ldc q.1, 2, nx, tg)) (hM : M.1.cls = "WharfPapers$Reader") (hq : txq[i]? = some q) (kk : RunX l G M R nx L (vr (1010 + i) :: st) S ca sl Q) : RunX l G M R pc L st S ca sl Q := by
  intro p e s m args below meth c H locs Z ls hc hn hks hr hi hlo hl
  obtain ⟨hd1, hd2, hd3⟩ := hd
  dsimp only at hd1 hd2 hd3
  subst hd2
  have ho := hc.2.2.2.1
  rw [hM] at ho
  exact va_ldcS hc.1 hc.2.1 ho (hks.2.2.1 i q hq) hd1 (kk p e s m args below meth c H locs Z ls hc hn hks hr hi hlo hl)
theorem x_strV {i idx : Nat} (hd : dok M.2.1 (pc, .getfield idx, 3, nx, tg)) (hi9 : i < 13) (hlk : Cond.fieldLink M.1.cls idx "java/lang/String" "value" "[B" ∈ tbG) (kk : RunX l G M R nx L (vr (1030 + i) :: st) S ca sl Q) : RunX l G M R pc L (vr (1010 + i) :: st) S ca sl Q := by
  intro p e s m args below meth c H locs Z ls hc hn hks hr hi hlo hl
  obtain ⟨hd1, hd2, hd3⟩ := hd
  dsimp only at hd1 hd2 hd3
  subst hd2
  obtain ⟨cf, k, fi, f, cell, h1, h2, h3, h4, h5, h6⟩ := (hks.2.2.2.1.1 i hi9).2.2.1
  exact W.getf hc.1 hc.2.1 hc.2.2.2.1 (hc.2.2.2.2 _ hlk) h1 h2 (x_below hi h3 h6) h4 h5 rfl rfl hd1 (kk p e s m args below meth c H locs Z ls hc hn hks hr hi hlo hl)
theorem x_strC {i idx : Nat} (hd : dok M.2.1 (pc, .getfield idx, 3, nx, tg)) (hi9 : i < 13) (hlk : Cond.fieldLink M.1.cls idx "java/lang/String" "coder" "B" ∈ tbG) (kk : RunX l G M R nx L (vi 0 :: st) S ca sl Q) : RunX l G M R pc L (vr (1010 + i) :: st) S ca sl Q := by
  intro p e s m args below meth c H locs Z ls hc hn hks hr hi hlo hl
  obtain ⟨hd1, hd2, hd3⟩ := hd
  dsimp only at hd1 hd2 hd3
  subst hd2
  obtain ⟨cf, k, fi, f, cell, h1, h2, h3, h4, h5, h6⟩ := (hks.2.2.2.1.1 i hi9).2.1
  exact W.getf hc.1 hc.2.1 hc.2.2.2.1 (hc.2.2.2.2 _ hlk) h1 h2 (x_below hi h3 h6) h4 h5 rfl rfl hd1 (kk p e s m args below meth c H locs Z ls hc hn hks hr hi hlo hl)
theorem x_strL {i n : Nat} (hd : dok M.2.1 (pc, .arraylength, 1, nx, tg)) (hi9 : i < 13) (hn9 : lenq.getD i 0 = n) (kk : RunX l G M R nx L (vi n :: st) S ca sl Q) : RunX l G M R pc L (vr (1030 + i) :: st) S ca sl Q := by
  intro p e s m args below meth c H locs Z ls hc hn hks hr hi hlo hl
  obtain ⟨hd1, hd2, hd3⟩ := hd
  dsimp only at hd1 hd2 hd3
  subst hd2
  subst hn9
  obtain ⟨cell, h1, h2, h3, h4, h5, h6, h7⟩ := (hks.2.2.2.1.1 i hi9).2.2.2
  exact W.alen (n := Int32.ofInt (lenq.getD i 0)) hc.1 hc.2.1 (x_below hi h1 h7) h2 (by rw [h5, o_nat]) rfl rfl hd1 (kk p e s m args below meth c H locs Z ls hc hn hks hr hi hlo hl)
theorem x_strB {i : Nat} {z v : Int} (hd : dok M.2.1 (pc, .baload, 1, nx, tg)) (hi9 : i < 13) (hz : 0 ≤ z ∧ z < lenq.getD i 0) (hln : lenq.getD i 0 < 100) (hv : (bytq.getD i []).getD z.toNat 0 = Int32.ofInt v) (kk : RunX l G M R nx L (vi v :: st) S ca sl Q) : RunX l G M R pc L (vi z :: vr (1030 + i) :: st) S ca sl Q := by
  intro p e s m args below meth c H locs Z ls hc hn hks hr hi hlo hl
  obtain ⟨hd1, hd2, hd3⟩ := hd
  dsimp only at hd1 hd2 hd3
  subst hd2
  obtain ⟨cell, h1, h2, h3, h4, h5, h6, h7⟩ := (hks.2.2.2.1.1 i hi9).2.2.2
  refine W.bald (v := .int (Int32.ofInt v)) hc.1 hc.2.1 (x_below hi h1 h7) h2 h3 (x_Tin hz h4 (by omega)) ?_ rfl rfl hd1 (kk p e s m args below meth c H locs Z ls hc hn hks hr hi hlo hl)
  rw [o32_ix hz.1 (by omega), ← hv]
  exact h6 _ (by omega)
theorem x_i2c {z : Int} (hd : dok M.2.1 (pc, .i2c, 1, nx, tg)) (hz : 0 ≤ z ∧ z < 65536) (kk : RunX l G M R nx L (vi z :: st) S ca sl Q) : RunX l G M R pc L (vi z :: st) S ca sl Q := by
  intro p e s m args below meth c H locs Z ls hc hn hks hr hi hlo hl
  obtain ⟨hd1, hd2, hd3⟩ := hd
  dsimp only at hd1 hd2 hd3
  subst hd2
  refine lv_i2c hc.1 hc.2.1 hd1 (v := Int32.ofInt z) ?_ (kk p e s m args below meth c H locs Z ls hc hn hks hr hi hlo hl)
  rw [pk_char, show (Int32.ofInt z).toBitVec.toNat = z.toNat by
    rw [show Int32.ofInt z = nI z.toNat by unfold nI; rw [← Int32.ofInt_eq_ofNat, Int.toNat_of_nonneg hz.1]]
    exact pk_tn (by omega), Nat.mod_eq_of_lt (by omega)]
  unfold nI
  rw [← Int32.ofInt_eq_ofNat, Int.toNat_of_nonneg hz.1]
theorem x_ldcw {z : Int} {v : Int32} {idx : Nat} (hd : dok M.2.1 (pc, .ldc_w idx, 3, nx, tg)) (hw : Jvm.Cond.constant M.1.cls idx v ∈ tbG) (hz : v = Int32.ofInt z) (kk : RunX l G M R nx L (vi z :: st) S ca sl Q) : RunX l G M R pc L st S ca sl Q := by
  intro p e s m args below meth c H locs Z ls hc hn hks hr hi hlo hl
  obtain ⟨hd1, hd2, hd3⟩ := hd
  dsimp only at hd1 hd2 hd3
  subst hd2
  refine lv_ldcw hc.1 hc.2.1 hc.2.2.2.1 (hc.2.2.2.2 _ hw) hd1 ?_
  rw [hz]
  exact kk p e s m args below meth c H locs Z ls hc hn hks hr hi hlo hl
theorem x_lret {z : Int} (hd : dok M.2.1 (pc, .lreturn, 1, nx, tg)) (hok : rokq M.2.2.2 (some (vl z))) (hq : Q (some (vl z)) S) : RunX l G M R pc L [vl z] S 0 0 Q := x_ret (r := some (vl z)) hd hok (Nat.zero_le _) (Nat.zero_le _) hq
theorem x_popr {r : Option Nat} (hd : dok M.2.1 (pc, .pop, 1, nx, tg)) (kk : RunX l G M R nx L st S ca sl Q) : RunX l G M R pc L (.inr (.inr r) :: st) S ca sl Q := by
  intro p e s m args below meth c H locs Z ls hc hn hks hr hi hlo hl
  obtain ⟨hd1, hd2, hd3⟩ := hd
  dsimp only at hd1 hd2 hd3
  subst hd2
  exact lv_pop hc.1 hc.2.1 hd1 (by cases r <;> rfl) (kk p e s m args below meth c H locs Z ls hc hn hks hr hi hlo hl)
/-- a method of a text constant is called -/
theorem x_callVS {K : MI} {d n idx i : Nat} {As rest : List AV} {Q1 : Option AV → WS → Prop} (hd : dok M.2.1 (pc, .invokevirtual idx, 3, nx, tg)) (hlk : Cond.methodLink M.1.cls idx K.1 ∈ tbG) (hm : mvq K n) (hi9 : i < 13) (hK : K.1.cls = "java/lang/String") (hct : Ct l G K d 0 0 (vr (1010 + i) :: As) S Q1) (hR : d + 1 ≤ R.frames ∧ 8 + (K.2.2.1 + 11) + 40 * d ≤ R.locals) (hca : ca + 0 ≤ R.cells ∧ sl + 0 ≤ R.slots) (hst : st = As.reverse ++ vr (1010 + i) :: rest) (hn : As.length = n) (hcat : catq rest ≤ 8)
    (kk : ∀ (r : Option AV) (S' : WS), Q1 r S' → RunX l G M R nx L (r.toList ++ rest) S' ca sl Q) : RunX l G M R pc L st S ca sl Q := by
  intro p e s m args below meth c H locs Z ls hc hnm hks hr hi hlo hl
  obtain ⟨hd1, hd2, hd3⟩ := hd
  dsimp only at hd1 hd2 hd3
  subst hd2
  subst hst
  obtain ⟨⟨m1, m2, m3⟩, m4, m5⟩ := hm
  have hT : GoodIn tbG (wsV M.1.cls idx K.1.cls K.1 (Cwq K)) := by
    intro w hw
    rcases List.mem_append.mp hw with h | h
    · simp only [List.mem_cons, List.not_mem_nil, or_false] at h
      rcases h with rfl | rfl | rfl | rfl
      · exact good_in hlk
      · exact good_in m4
      · exact good_in m5
      · exact good_in m2
    · exact Cwq_good m1 w h
  obtain ⟨cell, q1, q2, q3, q4⟩ := (hks.2.2.2.1.1 i hi9).1
  refine x_back (rest := rest) (hrun := va_runV (As := As.map (cvl G)) hc hct (cwV (bytes := K.2.1) (maxL := K.2.2.1) (ret := K.2.2.2) n hc.2.2.2.2 hT rfl rfl rfl ⟨rfl, m3⟩ hR) (b := adr G (1010 + i)) ⟨Invq.blind, ⟨cell, x_below hi q1 q4, q2, by rw [hK]; exact q3⟩, fun U hU hW => ⟨rfl, by rw [hU]; exact hi.moved hW.alike, hks.warm hW⟩⟩ rfl (by rw [List.length_map]; exact hn) hl.1 (by show List.map (cvl G) (As.reverse ++ vr (1010 + i) :: rest) = _; rw [List.map_append, List.map_reverse]; rfl) (lv_room (by rw [catq_sum]; exact hcat)) hd1 hca) hlo ?_
  intro r S' H1 locs1 hq hI hlo1
  exact kk r S' hq p e s m args below meth c H1 locs1 Z ls hc hnm hks hr hI hlo1 hl
end XS
end
section
/-! what is made: objects and arrays, the next cell -/
section XN
variable {l : Launch} {G : GC} {M : MI} {R : Room} {pc nx tg : Nat} {L : List (Option AV)} {st : List AV} {ca sl : Nat} {Q : Option AV → WS → Prop} {n0 : Nat} {ρ : Nat → Int → Option Nat} {σ : Nat → Int → Int}
theorem x_objinit {idx k : Nat} {S : WS} (hd : dok M.2.1 (pc, .invokespecial idx, 3, nx, tg)) (hlk : Cond.methodLink M.1.cls idx Lib.objectInit ∈ tbG) (h2 : Cond.instanceMethod Lib.objectInit ∈ tbG) (h3 : Cond.code Lib.objectInit ⟨#[0xb1]⟩ 1 none ∈ tbG) (hR : 1 ≤ R.frames ∧ catq st + 12 ≤ R.locals) (kk : RunX l G M R nx L st S ca sl Q) : RunX l G M R pc L (vr k :: st) S ca sl Q := by
  intro p e s m args below meth c H locs Z ls hc hn hks hr hi hlo hl
  obtain ⟨hd1, hd2, hd3⟩ := hd
  dsimp only at hd1 hd2 hd3
  subst hd2
  exact W.objInit hc.1 hc.2.1 hc.2.2.2.1 (hc.2.2.2.2 _ hlk) (hc.2.2.2.2 _ h2) (hc.2.2.2.2 _ h3) (g := F0 m pc ls (List.map (cvl G) (vr k :: st))) (rest := st.map (cvl G)) rfl (by rw [hc.2.2.1]; exact hl.1) rfl hd1 hR.1 (by rw [catq_sum]; show 2 * 0 + _ + 12 ≤ _; omega) (kk p e s m args below meth c H locs Z ls hc hn hks hr hi hlo hl)
/-- a new cell behind the others -/
theorem Invq.push {U : State} {H H' : Heap} {ρ' : Nat → Int → Option Nat} {σ' : Nat → Int → Int} (h : Invq G (n0, ρ, σ) U H) (h9 : n0 + 1 ≤ 175) (hs : H'.size = H.size + 1) (ho : ∀ q, q < H.size → H'[q]? = H[q]?) (hρ : ∀ a, a < n0 → ρ' a = ρ a) (hσ : ∀ a, a < n0 → σ' a = σ a) (hc : cellq G ρ' σ' U H' n0) : Invq G (n0 + 1, ρ', σ') U H' := by
  obtain ⟨⟨h1, h0⟩, h2, h3⟩ := h
  have h1 : H.size = G.1 + n0 := h1
  refine ⟨⟨by rw [hs, h1]; omega, h9⟩, fun q hq => ?_, fun a ha => ?_⟩
  · rw [ho q (by omega)]; exact h2 q hq
  · by_cases e : a = n0
    · subst e; exact hc
    · have ha : a < n0 + 1 := ha
      have ha2 : a < n0 := by omega
      refine (h3 a ha2).kept (ho _ ?_) (hρ a ha2) (hσ a ha2)
      rw [adr_lt (by omega)]; omega
theorem x_new {idx ci N : Nat} {C : String} {T : u_T} {ty : Nat → FieldType} (hd : dok M.2.1 (pc, .new idx, 3, nx, tg)) (hcl : clkq ci C T N ty) (hty : ∀ j, j < N → (fI ci j = true → ty j = .int) ∧ (fI ci j = false → (∃ n, ty j = .object n) ∨ ∃ t, ty j = .array t)) (hlk : Cond.classLink M.1.cls idx C ∈ tbG) (h2 : Cond.instantiable C N ∈ tbG) (h3 : Cond.initialized C ∈ tbG) (hs : shp n0 = (ci, N)) (h9 : n0 + 1 ≤ 175) (hca : ca + 1 ≤ R.cells ∧ sl + N ≤ R.slots) (hz : σ n0 = fun _ => 0) (hρ : ρ n0 = fun _ => none) (kk : RunX l G M R nx L (vr n0 :: st) (n0 + 1, ρ, σ) (ca + 1) (sl + N) Q) : RunX l G M R pc L st (n0, ρ, σ) ca sl Q := by
  intro p e s m args below meth c H locs Z ls hc hn hks hr hi hlo hl
  obtain ⟨hd1, hd2, hd3⟩ := hd
  dsimp only at hd1 hd2 hd3
  subst hd2
  obtain ⟨hcl, hin, hpt, hnm, hci⟩ := hcl
  have hKn := hks.1.1 ci _ hcl
  have hsz : H.size = adr G n0 := by rw [adr_lt (by omega)]; exact hi.1.1
  refine W.newcK hc.1 hc.2.1 hc.2.2.2.1 (hc.2.2.2.2 _ hlk) (hc.2.2.2.2 _ h2) (hc.2.2.2.2 _ h3) rfl hd1 hca.1 hca.2 hKn.2.1 hsz (fun H1 kC hkC e1 z1 o1 => ?_)
  have hI : Invq G (n0 + 1, ρ, σ) s H1 := by
    refine hi.push h9 (by rw [z1, ← hsz]) (fun q hq => o1 q (by rw [← hsz]; exact hq)) (fun _ _ => rfl) (fun _ _ => rfl) ?_
    rw [cellq_obj hci hs]
    refine (u_born ty hc.2.2.2.2 hin hKn hkC e1 hpt).to (fun j hj => ?_)
    unfold fvl
    rw [hz, hρ]
    cases hf : fI ci j with
    | true => rw [(hty j hj).1 hf, if_pos rfl]; rfl
    | false =>
      rw [if_neg (by decide)]
      rcases (hty j hj).2 hf with ⟨n, h⟩ | ⟨n, h⟩ <;> rw [h] <;> rfl
  exact kk p e s m args below meth c H1 locs Z ls hc hn hks hr hI hlo hl
theorem o32_cl {z : Int} {N : Nat} (h : z = (N : Int)) (hN : N ≤ 256) : ¬ Int32.ofInt z < 0 ∧ (Int32.ofInt z).toNatClampNeg = N := by
  subst h
  rw [o32_0, o32_lt (by omega) (by decide), o32_ix (by omega) (by omega)]
  omega
theorem x_newa {at9 : ArrayType} {ty : FieldType} {kd N : Nat} {z : Int} (hd : dok M.2.1 (pc, .newarray at9, 2, nx, tg)) (ht : newarray.typeOf at9 = ty) (hkd : (kd = 12 ∧ ty = .int) ∨ (kd = 13 ∧ ty = .boolean) ∨ (kd = 14 ∧ ty = .long)) (hw : Cond.arrayClass ty ∈ tbG) (hzN : z = (N : Int)) (hN : N ≤ 256) (hs : shp n0 = (kd, N)) (h9 : n0 + 1 ≤ 175) (hca : ca + 1 ≤ R.cells ∧ sl + N ≤ R.slots) (hz : σ n0 = fun _ => 0) (kk : RunX l G M R nx L (vr n0 :: st) (n0 + 1, ρ, σ) (ca + 1) (sl + N) Q) : RunX l G M R pc L (vi z :: st) (n0, ρ, σ) ca sl Q := by
  intro p e s m args below meth c H locs Z ls hc hn hks hr hi hlo hl
  obtain ⟨hd1, hd2, hd3⟩ := hd
  dsimp only at hd1 hd2 hd3
  subst hd2
  subst ht
  have hsz : H.size = adr G n0 := by rw [adr_lt (by omega)]; exact hi.1.1
  obtain ⟨hz1, hz2⟩ := o32_cl hzN hN
  refine va_newaK hc.1 hc.2.1 (hc.2.2.2.2 _ hw) rfl hd1 (rest := st.map (cvl G)) rfl hz1 hz2 ?_ hca.1 hca.2 hsz (fun H1 cA e1 z1 o1 hAr hNm => ?_)
  · rcases hkd with ⟨-, h⟩ | ⟨-, h⟩ | ⟨-, h⟩ <;> rw [h] <;> simp [componentBytes] <;> omega
  have hI : Invq G (n0 + 1, ρ, σ) s H1 := by
    refine hi.push h9 (by rw [z1, ← hsz]) (fun q hq => o1 q (by rw [← hsz]; exact hq)) (fun _ _ => rfl) (fun _ _ => rfl) ?_
    unfold cellq
    rw [hs]
    rcases hkd with ⟨rfl, h⟩ | ⟨rfl, h⟩ | ⟨rfl, h⟩
    · rw [h] at e1 hAr
      refine ⟨cA, ?_, hAr⟩
      rw [e1, hz]; rfl
    · rw [h] at e1 hAr
      refine ⟨cA, ?_, hAr⟩
      rw [e1, hz]; rfl
    · rw [h] at e1 hAr
      refine ⟨cA, ?_, hAr⟩
      rw [e1, hz]; rfl
  exact kk p e s m args below meth c H1 locs Z ls hc hn hks hr hI hlo hl
theorem vr_outer2 (c : ClassId) (N h0 : Nat) : ∀ i : Nat, Jvm.Free.Multi.outerC c N h0 i = arrV c N (fun j => va_rf (if j < i then some (h0 + 1 + j) else none))
  | 0 => by
    show ({ cls := c, slots := Array.replicate N .null, vm := .none } : Cell) = _
    rw [arrV_new]
    refine congrArg (arrV c N) (funext fun j => ?_)
    simp [va_rf]
  | i + 1 => by
    show (Jvm.Free.Multi.outerC c N h0 i).setSlot i (.ref (h0 + 1 + i)) = _
    rw [vr_outer2 c N h0 i, arrV_store]
    refine congrArg (arrV c N) (funext fun j => ?_)
    by_cases e : j = i
    · subst e
      simp [updV, va_rf]
    · by_cases h : j < i
      · simp [updV, e, h, Nat.lt_succ_of_lt h]
      · simp [updV, e, h, show ¬ j < i + 1 by omega]
/-- new int[8][K]: the outer array, then its rows -/
theorem x_mna {idx K : Nat} {z w : Int} (hd : dok M.2.1 (pc, .multianewarray idx 2, 4, nx, tg)) (hlk : Cond.classLink M.1.cls idx "[[I" ∈ tbG) (har : Cond.arrayClass .int ∈ tbG) (hz8 : z = 8) (hwK : w = (K : Int)) (hK : K ≤ 256) (hs : shp n0 = (15, 8)) (hsr : ∀ i, i < 8 → shp (n0 + 1 + i) = (12, K)) (h9 : n0 + 9 ≤ 175) (hca : ca + 9 ≤ R.cells ∧ sl + (8 + 8 * K) ≤ R.slots) (hz : ∀ i, i < 9 → σ (n0 + i) = fun _ => 0) {ρ' : Nat → Int → Option Nat} (hρ : ∀ a, a < n0 → ρ' a = ρ a) (hρn : ∀ j : Nat, j < 8 → ρ' n0 j = some (n0 + 1 + j)) (kk : RunX l G M R nx L (vr n0 :: st) (n0 + 9, ρ', σ) (ca + 9) (sl + (8 + 8 * K)) Q) : RunX l G M R pc L (vi w :: vi z :: st) (n0, ρ, σ) ca sl Q := by
  intro p e s m args below meth c H locs Z ls hc hn hks hr hi hlo hl
  obtain ⟨hd1, hd2, hd3⟩ := hd
  dsimp only at hd1 hd2 hd3
  subst hd2
  have hsz : H.size = G.1 + n0 := hi.1.1
  obtain ⟨hz1, hz2⟩ := o32_cl (N := 8) (z := z) hz8 (by decide)
  obtain ⟨hw1, hw2⟩ := o32_cl hwK hK
  intro T hT Xs
  obtain ⟨vm₁, cA, comp, -, fA, fC, hO, hIn, X', step⟩ := Xs.multianewarray2F (ty := .int) hc.1 hc.2.2.2.1 (hc.2.2.2.2 _ hlk) hks.2.2.2.2.2.2.2.2.use (hc.2.2.2.2 _ har) (g := F0 m pc ls (List.map (cvl G) (vi w :: vi z :: st))) rfl (by rw [hc.2.1]; exact hd1) (rest := st.map (cvl G)) rfl hz1 hw1 (by rw [hz2]; decide) (by rw [hw2]; simp [componentBytes]; omega) (by rw [hw2]; omega) rfl rfl (by rw [hz2]; exact hca.1) (by rw [hz2, hw2]; exact hca.2)
  rw [hz2, hw2] at X' step
  generalize hF : Jvm.Free.Multi.fill (T.setVm vm₁) cA comp 8 K (defaultValue .int) 8 = F at X' step
  have hTh : (T.setVm vm₁).heap = H := hT
  obtain ⟨f1, f2, -, -⟩ := Jvm.Free.Multi.fill_facts (T.setVm vm₁) cA comp 8 K (defaultValue .int) 8
  rw [hF, hTh] at f1 f2
  have hold : ∀ x : Nat, x < H.size → F.heap[x]? = H[x]? := fun x hx => by
    have := Jvm.Free.Multi.fill_old (T.setVm vm₁) cA comp 8 K (defaultValue .int) (a := x) (by rw [hTh]; exact hx) 8
    rw [hF, hTh] at this
    exact this
  have hrow : ∀ j : Nat, j < 8 → F.heap[H.size + 1 + j]? = some (arrV comp K (fun _ => .int 0)) := fun j hj => by
    have := Jvm.Free.Multi.fill_inner (T.setVm vm₁) cA comp 8 K (defaultValue .int) 8 j hj
    rw [hF, hTh] at this
    rw [this]
    show some ({ cls := comp, slots := Array.replicate K _, vm := .none } : Cell) = _
    rw [arrV_new]; rfl
  rw [vr_outer2] at f2
  have hAr : ArrOfT s cA (.array .int) := fun N9 z9 => by
    obtain ⟨-, k9, hk9, cm9, hkk9⟩ := (hO 0 0 0).1
    exact ⟨(fun q hq => by cases hq), k9, hk9, cm9, hkk9⟩
  have hArI : ArrOfT s comp .int := fun N9 z9 => by
    obtain ⟨-, k9, hk9, cm9, hkk9⟩ := (hIn 0 .null).1
    exact ⟨(fun q hq => by cases hq), k9, hk9, cm9, hkk9⟩
  have hI : Invq G (n0 + 9, ρ', σ) s F.heap := by
    refine ⟨⟨by rw [f1, hsz]; omega, h9⟩, fun q hq => by rw [hold q (by omega)]; exact hi.2.1 q hq, fun a ha => ?_⟩
    have ha : a < n0 + 9 := ha
    by_cases e1 : a < n0
    · refine (hi.2.2 a e1).kept (hold _ ?_) (hρ a e1) rfl
      rw [adr_lt (by omega)]; omega
    · by_cases e2 : a = n0
      · subst e2
        unfold cellq
        rw [hs]
        refine ⟨cA, ?_, hAr⟩
        rw [adr_lt (by omega), ← hsz, f2]
        refine congrArg some ?_
        unfold arrV
        congr 1
        refine congrArg (Array.ofFn (n := 8)) (funext fun j => ?_)
        show va_rf _ = crf G (ρ' a _)
        rw [hρn j.val j.isLt, if_pos j.isLt]
        show Value.ref (H.size + 1 + j.val) = .ref (adr G (a + 1 + j.val))
        rw [adr_lt (by omega), hsz]
        exact congrArg Value.ref (show (G.1 + a + 1 + j.val : Nat) = G.1 + (a + 1 + j.val) by omega)
      · obtain ⟨i, hi8, rfl⟩ : ∃ i, i < 8 ∧ a = n0 + 1 + i := ⟨a - n0 - 1, by omega, by omega⟩
        unfold cellq
        rw [hsr i hi8]
        refine ⟨comp, ?_, hArI⟩
        have hzi := hz (i + 1) (by omega)
        rw [show n0 + (i + 1) = n0 + 1 + i by omega] at hzi
        rw [adr_lt (by omega), show G.1 + (n0 + 1 + i) = H.size + 1 + i by omega, hrow i hi8]
        show _ = some (arrV comp K fun j => Value.int (Int32.ofInt (σ (n0 + 1 + i) j)))
        rw [hzi]
        rfl
  rw [show sl + 8 + 8 * K = sl + (8 + 8 * K) by omega] at X'
  obtain ⟨t, a1, b1⟩ := kk p e s m args below meth c F.heap locs Z ls hc hn hks hr hI hlo hl F rfl X'
  refine ⟨t, step t ?_, b1⟩
  have e : T.heap.size = adr G n0 := by rw [hT, adr_lt (by omega)]; exact hsz
  rw [e]
  exact a1
end XN
end
section
theorem nthq_mem {α : Type} : ∀ {l : List α} {i : Nat} {a : α}, nthq l i = some a → a ∈ l
  | [], i, a, h => by cases h
  | b :: l, 0, a, h => by cases h; exact List.mem_cons_self
  | b :: l, i + 1, a, h => List.mem_cons_of_mem _ (nthq_mem (l := l) (i := i) h)
theorem tbT {w : Cond} (h : w ∈ tables_1) (hg : goodWord w = true) : w ∈ tbG := List.mem_filter.mpr ⟨List.mem_append_right _ h, hg⟩
theorem tb1 (i : Nat) {w : Cond} (hi : nthq tables_1_1 i = some w) (hg : goodWord w = true) : w ∈ tbG := by
  have h := nthq_mem hi
  exact tbT (List.mem_append_left _ (h)) hg
theorem tb2 (i : Nat) {w : Cond} (hi : nthq tables_1_2 i = some w) (hg : goodWord w = true) : w ∈ tbG := by
  have h := nthq_mem hi
  exact tbT (List.mem_append_right _ (List.mem_append_left _ (h))) hg
theorem tb3 (i : Nat) {w : Cond} (hi : nthq tables_1_3 i = some w) (hg : goodWord w = true) : w ∈ tbG := by
  have h := nthq_mem hi
  exact tbT (List.mem_append_right _ (List.mem_append_right _ (List.mem_append_left _ (h)))) hg
theorem tb4 (i : Nat) {w : Cond} (hi : nthq tables_1_4 i = some w) (hg : goodWord w = true) : w ∈ tbG := by
  have h := nthq_mem hi
  exact tbT (List.mem_append_right _ (List.mem_append_right _ (List.mem_append_right _ (List.mem_append_left _ (h))))) hg
theorem tb5 (i : Nat) {w : Cond} (hi : nthq tables_1_5 i = some w) (hg : goodWord w = true) : w ∈ tbG := by
  have h := nthq_mem hi
  exact tbT (List.mem_append_right _ (List.mem_append_right _ (List.mem_append_right _ (List.mem_append_right _ (List.mem_append_left _ (h)))))) hg
theorem tb6 (i : Nat) {w : Cond} (hi : nthq tables_1_6 i = some w) (hg : goodWord w = true) : w ∈ tbG := by
  have h := nthq_mem hi
  exact tbT (List.mem_append_right _ (List.mem_append_right _ (List.mem_append_right _ (List.mem_append_right _ (List.mem_append_right _ (List.mem_append_left _ (h))))))) hg
theorem tb7 (i : Nat) {w : Cond} (hi : nthq tables_1_7 i = some w) (hg : goodWord w = true) : w ∈ tbG := by
  have h := nthq_mem hi
  exact tbT (List.mem_append_right _ (List.mem_append_right _ (List.mem_append_right _ (List.mem_append_right _ (List.mem_append_right _ (List.mem_append_right _ (h))))))) hg
theorem tbP {q : MethodName × Nat} (h : q ∈ lw_privs) : Cond.selects q.1.cls q.1 q.1 ∈ tbG := List.mem_filter.mpr ⟨List.mem_append_left _ (List.mem_map.mpr ⟨q, h, rfl⟩), rfl⟩
abbrev M_X0_init : MI := (⟨RX0, "<init>", "()V"⟩, prog_2_method_1_code, 1, none)
abbrev M_X0_find : MI := (⟨RX0, "find", "(LWharfPapers$Story;II)V"⟩, prog_2_method_2_code, 7, none)
abbrev M_X0_isOf : MI := (⟨RX0, "isOf", "(LWharfPapers$Story;II)Z"⟩, prog_2_method_3_code, 4, some .boolean)
abbrev M_X0_fewest : MI := (⟨RX0, "fewest", "(I)I"⟩, prog_2_method_4_code, 6, some .int)
abbrev M_X0_at : MI := (⟨RX0, "at", "(I)I"⟩, prog_2_method_5_code, 2, some .int)
abbrev M_X1_init : MI := (⟨RX1, "<init>", "()V"⟩, prog_3_method_1_code, 1, none)
abbrev M_X1_add : MI := (⟨RX1, "add", "(III)I"⟩, prog_3_method_2_code, 4, some .int)
abbrev M_X1_settle : MI := (⟨RX1, "settle", "()V"⟩, prog_3_method_3_code, 3, none)
abbrev M_X1_begin : MI := (⟨RX1, "begin", "()V"⟩, prog_3_method_4_code, 2, none)
abbrev M_X1_isRoundChanging : MI := (⟨RX1, "isRoundChanging", "()Z"⟩, prog_3_method_5_code, 4, some .boolean)
abbrev M_X1_partOf : MI := (⟨RX1, "partOf", "(II)I"⟩, prog_3_method_6_code, 3, some .int)
abbrev M_X1_receive : MI := (⟨RX1, "receive", "()V"⟩, prog_3_method_7_code, 2, none)
abbrev M_X1_givenBy : MI := (⟨RX1, "givenBy", "(I)I"⟩, prog_3_method_8_code, 4, some .int)
abbrev M_X1_failedCount : MI := (⟨RX1, "failedCount", "()I"⟩, prog_3_method_9_code, 3, some .int)
abbrev M_X2_init : MI := (⟨RX2, "<init>", "()V"⟩, prog_4_method_1_code, 1, none)
abbrev M_X2_has : MI := (⟨RX2, "has", "(I)Z"⟩, prog_4_method_2_code, 2, some .boolean)
abbrev M_X2_isPaper : MI := (⟨RX2, "isPaper", "(I)Z"⟩, prog_4_method_3_code, 2, some .boolean)
abbrev M_X2_add : MI := (⟨RX2, "add", "(IIIIIII)I"⟩, prog_4_method_4_code, 10, some .int)
abbrev M_X2_know : MI := (⟨RX2, "know", "(I)V"⟩, prog_4_method_5_code, 3, none)
abbrev M_X2_isInBook : MI := (⟨RX2, "isInBook", "(I)Z"⟩, prog_4_method_6_code, 2, some .boolean)
abbrev M_X2_inBookAt : MI := (⟨RX2, "inBookAt", "(I)I"⟩, prog_4_method_7_code, 4, some .int)
abbrev M_X2_voidCount : MI := (⟨RX2, "voidCount", "()I"⟩, prog_4_method_8_code, 3, some .int)
abbrev M_X3_init : MI := (⟨RX3, "<init>", "()V"⟩, prog_5_method_1_code, 1, none)
abbrev M_X3_has : MI := (⟨RX3, "has", "(I)Z"⟩, prog_5_method_2_code, 2, some .boolean)
abbrev M_X3_add : MI := (⟨RX3, "add", "(IIIII)I"⟩, prog_5_method_3_code, 7, some .int)
abbrev M_X4_init : MI := (⟨RX4, "<init>", "()V"⟩, prog_6_method_1_code, 1, none)
abbrev M_X4_lay : MI := (⟨RX4, "lay", "(ILWharfPapers$Lots;LWharfPapers$Story;[I[I)V"⟩, prog_6_method_2_code, 11, none)
abbrev M_X4_choose : MI := (⟨RX4, "choose", "(II)V"⟩, prog_6_method_3_code, 4, none)
abbrev M_X4_gather : MI := (⟨RX4, "gather", "(LWharfPapers$Lots;LWharfPapers$Story;)V"⟩, prog_6_method_4_code, 6, none)
abbrev M_X4_priceOn : MI := (⟨RX4, "priceOn", "(ILWharfPapers$Lots;LWharfPapers$Story;)V"⟩, prog_6_method_5_code, 9, none)
abbrev M_X4_shut : MI := (⟨RX4, "shut", "(II[I)V"⟩, prog_6_method_6_code, 5, none)
abbrev M_X4_isParted : MI := (⟨RX4, "isParted", "(II[I)Z"⟩, prog_6_method_7_code, 5, some .boolean)
abbrev M_X4_openFloor : MI := (⟨RX4, "openFloor", "()V"⟩, prog_6_method_8_code, 4, none)
abbrev M_X4_isFound : MI := (⟨RX4, "isFound", "()Z"⟩, prog_6_method_9_code, 1, some .boolean)
abbrev M_X4_moved : MI := (⟨RX4, "moved", "()I"⟩, prog_6_method_10_code, 1, some .int)
abbrev M_X4_floorOf : MI := (⟨RX4, "floorOf", "(I)I"⟩, prog_6_method_11_code, 2, some .int)
abbrev M_X5_init : MI := (⟨RX5, "<init>", "()V"⟩, prog_7_method_1_code, 1, none)
abbrev M_X5_add : MI := (⟨RX5, "add", "(I)V"⟩, prog_7_method_2_code, 2, none)
abbrev M_X5_read : MI := (⟨RX5, "read", "(I)V"⟩, prog_7_method_3_code, 3, none)
abbrev M_X5_readClause : MI := (⟨RX5, "readClause", "(I)V"⟩, prog_7_method_4_code, 3, none)
abbrev M_X5_readLet : MI := (⟨RX5, "readLet", "()V"⟩, prog_7_method_5_code, 2, none)
abbrev M_X5_readDry : MI := (⟨RX5, "readDry", "()V"⟩, prog_7_method_6_code, 2, none)
abbrev M_X5_takeTerm : MI := (⟨RX5, "takeTerm", "(I)I"⟩, prog_7_method_7_code, 3, some .int)
abbrev M_X5_takeKeys : MI := (⟨RX5, "takeKeys", "()I"⟩, prog_7_method_8_code, 6, some .int)
abbrev M_X5_keep : MI := (⟨RX5, "keep", "(II)V"⟩, prog_7_method_9_code, 3, none)
abbrev M_X5_takeIf : MI := (⟨RX5, "takeIf", "(C)Z"⟩, prog_7_method_10_code, 2, some .boolean)
abbrev M_X5_takeWord : MI := (⟨RX5, "takeWord", "(II)I"⟩, prog_7_method_11_code, 5, some .int)
abbrev M_X5_isSpelled : MI := (⟨RX5, "isSpelled", "(Ljava/lang/String;I)Z"⟩, prog_7_method_12_code, 4, some .boolean)
abbrev M_X5_takeNumber : MI := (⟨RX5, "takeNumber", "(I)I"⟩, prog_7_method_13_code, 4, some .int)
abbrev M_X5_skipBlanks : MI := (⟨RX5, "skipBlanks", "()V"⟩, prog_7_method_14_code, 1, none)
abbrev M_X5_fail : MI := (⟨RX5, "fail", "(II)V"⟩, prog_7_method_15_code, 3, none)
abbrev M_X5_spelling : MI := (⟨RX5, "spelling", "(I)Ljava/lang/String;"⟩, prog_7_method_16_code, 1, some (.object "java/lang/String"))
abbrev M_X6_init : MI := (⟨RX6, "<init>", "()V"⟩, prog_8_method_1_code, 1, none)
abbrev M_X6_add : MI := (⟨RX6, "add", "(IIII)I"⟩, prog_8_method_2_code, 5, some .int)
abbrev M_X6_netOf : MI := (⟨RX6, "netOf", "(II)I"⟩, prog_8_method_3_code, 5, some .int)
abbrev M_X6_fewestHandings : MI := (⟨RX6, "fewestHandings", "(I)I"⟩, prog_8_method_4_code, 5, some .int)
abbrev M_X6_mostGroups : MI := (⟨RX6, "mostGroups", "(I)I"⟩, prog_8_method_5_code, 7, some .int)
abbrev M_X7_init : MI := (⟨RX7, "<init>", "(LWharfPapers$Lots;LWharfPapers$Lines;LWharfPapers$Terms;)V"⟩, prog_9_method_1_code, 4, none)
abbrev M_X7_tell : MI := (⟨RX7, "tell", "(II)V"⟩, prog_9_method_2_code, 5, none)
abbrev M_X7_clear : MI := (⟨RX7, "clear", "()V"⟩, prog_9_method_3_code, 2, none)
abbrev M_X7_isDone : MI := (⟨RX7, "isDone", "(I)Z"⟩, prog_9_method_4_code, 5, some .boolean)
abbrev M_X7_issue : MI := (⟨RX7, "issue", "(II)Z"⟩, prog_9_method_5_code, 3, some .boolean)
abbrev M_X7_make : MI := (⟨RX7, "make", "(IIIII)V"⟩, prog_9_method_6_code, 6, none)
abbrev M_X7_burn : MI := (⟨RX7, "burn", "(II)Z"⟩, prog_9_method_7_code, 3, some .boolean)
abbrev M_X7_pass : MI := (⟨RX7, "pass", "(II)Z"⟩, prog_9_method_8_code, 6, some .boolean)
abbrev M_X7_divide : MI := (⟨RX7, "divide", "(II)Z"⟩, prog_9_method_9_code, 3, some .boolean)
abbrev M_X7_isBound : MI := (⟨RX7, "isBound", "(I)Z"⟩, prog_9_method_10_code, 2, some .boolean)
abbrev M_X7_lend : MI := (⟨RX7, "lend", "(II)Z"⟩, prog_9_method_11_code, 3, some .boolean)
abbrev M_X7_repay : MI := (⟨RX7, "repay", "(I)Z"⟩, prog_9_method_12_code, 2, some .boolean)
abbrev M_X7_stop : MI := (⟨RX7, "stop", "(II)Z"⟩, prog_9_method_13_code, 3, some .boolean)
abbrev M_X7_free : MI := (⟨RX7, "free", "(I)Z"⟩, prog_9_method_14_code, 2, some .boolean)
abbrev M_X7_handOut : MI := (⟨RX7, "handOut", "(II)Z"⟩, prog_9_method_15_code, 5, some .boolean)
abbrev M_X7_steal : MI := (⟨RX7, "steal", "(II)Z"⟩, prog_9_method_16_code, 3, some .boolean)
abbrev M_X7_thereOf : MI := (⟨RX7, "thereOf", "(I)I"⟩, prog_9_method_17_code, 2, some .int)
abbrev M_X7_overOf : MI := (⟨RX7, "overOf", "(I)I"⟩, prog_9_method_18_code, 2, some .int)
abbrev M_X7_vainCount : MI := (⟨RX7, "vainCount", "()I"⟩, prog_9_method_19_code, 3, some .int)
abbrev M_X7_papersWithCasks : MI := (⟨RX7, "papersWithCasks", "(I)I"⟩, prog_9_method_20_code, 4, some .int)
abbrev M_X7_casksOf : MI := (⟨RX7, "casksOf", "(IIZ)I"⟩, prog_9_method_21_code, 6, some .int)
abbrev M_X7_lentOn : MI := (⟨RX7, "lentOn", "(I)I"⟩, prog_9_method_22_code, 4, some .int)
abbrev M_X7_unlike : MI := (⟨RX7, "unlike", "(LWharfPapers$Story;)I"⟩, prog_9_method_23_code, 5, some .int)
abbrev M_X7_isHadOtherwise : MI := (⟨RX7, "isHadOtherwise", "(LWharfPapers$Story;I)Z"⟩, prog_9_method_24_code, 3, some .boolean)
abbrev M_X8_init : MI := (⟨RX8, "<init>", "()V"⟩, prog_10_method_1_code, 1, none)
abbrev M_X8_add : MI := (⟨RX8, "add", "(ILWharfPapers$Reader;)I"⟩, prog_10_method_2_code, 5, some .int)
abbrev M_X8_on : MI := (⟨RX8, "on", "(II)I"⟩, prog_10_method_3_code, 3, some .int)
abbrev M_X8_keyOn : MI := (⟨RX8, "keyOn", "(II)I"⟩, prog_10_method_4_code, 3, some .int)
abbrev M_X8_keysOn : MI := (⟨RX8, "keysOn", "(I)I"⟩, prog_10_method_5_code, 4, some .int)
abbrev M_X8_hold : MI := (⟨RX8, "hold", "(I)V"⟩, prog_10_method_6_code, 4, none)
abbrev M_X8_strike : MI := (⟨RX8, "strike", "(I)V"⟩, prog_10_method_7_code, 5, none)
abbrev M_X8_rule : MI := (⟨RX8, "rule", "(I)V"⟩, prog_10_method_8_code, 3, none)
abbrev M_X9_init : MI := (⟨RX9, "<init>", "()V"⟩, prog_11_method_1_code, 1, none)
abbrev M_X9_add : MI := (⟨RX9, "add", "(IIII)I"⟩, prog_11_method_2_code, 5, some .int)
abbrev M_X10_init : MI := (⟨RX10, "<init>", "()V"⟩, prog_1_method_1_code, 2, none)
abbrev M_X10_go : MI := (⟨RX10, "go", "(I)I"⟩, prog_1_method_2_code, 2, some .int)
abbrev M_X10_lot : MI := (⟨RX10, "lot", "(IIIII)I"⟩, prog_1_method_3_code, 6, some .int)
abbrev M_X10_room : MI := (⟨RX10, "room", "(II)I"⟩, prog_1_method_4_code, 4, some .int)
abbrev M_X10_move : MI := (⟨RX10, "move", "(II)I"⟩, prog_1_method_5_code, 4, some .int)
abbrev M_X10_line : MI := (⟨RX10, "line", "(IIIIII)I"⟩, prog_1_method_6_code, 10, some .int)
abbrev M_X10_told : MI := (⟨RX10, "told", "(II)I"⟩, prog_1_method_7_code, 3, some .int)
abbrev M_X10_book : MI := (⟨RX10, "book", "(II)I"⟩, prog_1_method_8_code, 3, some .int)
abbrev M_X10_count : MI := (⟨RX10, "count", "(I)I"⟩, prog_1_method_9_code, 2, some .int)
abbrev M_X10_feed : MI := (⟨RX10, "feed", "(IJ)I"⟩, prog_1_method_10_code, 5, some .int)
abbrev M_X10_term : MI := (⟨RX10, "term", "(I)I"⟩, prog_1_method_11_code, 2, some .int)
abbrev M_X10_fault : MI := (⟨RX10, "fault", "()I"⟩, prog_1_method_12_code, 1, some .int)
abbrev M_X10_force : MI := (⟨RX10, "force", "(II)I"⟩, prog_1_method_13_code, 3, some .int)
abbrev M_X10_paper : MI := (⟨RX10, "paper", "(IIII)I"⟩, prog_1_method_14_code, 5, some .int)
abbrev M_X10_goods : MI := (⟨RX10, "goods", "(IIII)I"⟩, prog_1_method_15_code, 5, some .int)
abbrev M_X10_share : MI := (⟨RX10, "share", "(IIII)I"⟩, prog_1_method_16_code, 5, some .int)
abbrev M_X10_doubt : MI := (⟨RX10, "doubt", "(IIII)I"⟩, prog_1_method_17_code, 5, some .int)
abbrev M_X10_stock : MI := (⟨RX10, "stock", "(III)I"⟩, prog_1_method_18_code, 4, some .int)
abbrev M_X10_news : MI := (⟨RX10, "news", "(III)I"⟩, prog_1_method_19_code, 4, some .int)
abbrev M_X10_rent : MI := (⟨RX10, "rent", "(II)I"⟩, prog_1_method_20_code, 3, some .int)
abbrev M_X10_weight : MI := (⟨RX10, "weight", "(II)I"⟩, prog_1_method_21_code, 3, some .int)
abbrev M_X10_weigh : MI := (⟨RX10, "weigh", "(III)I"⟩, prog_1_method_22_code, 4, some .int)
abbrev M_X10_loss : MI := (⟨RX10, "loss", "(II)I"⟩, prog_1_method_23_code, 7, some .int)
abbrev M_X10_unpaid : MI := (⟨RX10, "unpaid", "(III)I"⟩, prog_1_method_24_code, 5, some .int)
abbrev M_X10_money : MI := (⟨RX10, "money", "(IIII)I"⟩, prog_1_method_25_code, 9, some .int)
abbrev M_X10_sale : MI := (⟨RX10, "sale", "(IIII)I"⟩, prog_1_method_26_code, 5, some .int)
abbrev M_X10_net : MI := (⟨RX10, "net", "(II)I"⟩, prog_1_method_27_code, 3, some .int)
abbrev M_X10_handings : MI := (⟨RX10, "handings", "(I)I"⟩, prog_1_method_28_code, 2, some .int)
abbrev M_X10_due : MI := (⟨RX10, "due", "(III)I"⟩, prog_1_method_29_code, 4, some .int)
abbrev M_X10_coin : MI := (⟨RX10, "coin", "(II)I"⟩, prog_1_method_30_code, 4, some .int)
abbrev M_X10_fails : MI := (⟨RX10, "fails", "(II)I"⟩, prog_1_method_31_code, 3, some .int)
abbrev M_X10_part : MI := (⟨RX10, "part", "(IIZ)I"⟩, prog_1_method_32_code, 5, some .int)
abbrev M_X10_plan : MI := (⟨RX10, "plan", "(II)I"⟩, prog_1_method_33_code, 3, some .int)
abbrev M_X10_within : MI := (⟨RX10, "within", "(III)Z"⟩, prog_1_method_34_code, 3, some .boolean)
abbrev M_X10_isHouse : MI := (⟨RX10, "isHouse", "(I)Z"⟩, prog_1_method_35_code, 1, some .boolean)
abbrev M_X10_isFloor : MI := (⟨RX10, "isFloor", "(I)Z"⟩, prog_1_method_36_code, 1, some .boolean)
abbrev M_X10_isSort : MI := (⟨RX10, "isSort", "(I)Z"⟩, prog_1_method_37_code, 1, some .boolean)
abbrev M_X10_isDay : MI := (⟨RX10, "isDay", "(I)Z"⟩, prog_1_method_38_code, 1, some .boolean)
abbrev M_X10_isTarget : MI := (⟨RX10, "isTarget", "(II)Z"⟩, prog_1_method_39_code, 3, some .boolean)
abbrev M_X10_isAsked : MI := (⟨RX10, "isAsked", "(II)Z"⟩, prog_1_method_40_code, 3, some .boolean)
abbrev M_X10_shareAsTold : MI := (⟨RX10, "shareAsTold", "(IZ)I"⟩, prog_1_method_41_code, 7, some .int)
abbrev M_X10_commonDivisor : MI := (⟨RX10, "commonDivisor", "(II)I"⟩, prog_1_method_42_code, 6, some .int)
abbrev M_X10_rentAsTold : MI := (⟨RX10, "rentAsTold", "(II)I"⟩, prog_1_method_43_code, 4, some .int)
abbrev M_X10_caskWeight : MI := (⟨RX10, "caskWeight", "(II)I"⟩, prog_1_method_44_code, 5, some .int)
abbrev M_X10_wanted : MI := (⟨RX10, "wanted", "(IIII)I"⟩, prog_1_method_45_code, 5, some .int)
abbrev M_X10_unpaidFor : MI := (⟨RX10, "unpaidFor", "(I)I"⟩, prog_1_method_46_code, 4, some .int)
abbrev M_X11_init : MI := (⟨RX11, "<init>", "()V"⟩, prog_13_method_1_code, 2, none)
abbrev M_X11_in : MI := (⟨RX11, "in", "(JJJ)Z"⟩, prog_13_method_3_code, 6, some .boolean)
abbrev M_X11_one : MI := (⟨RX11, "one", "(Z)I"⟩, prog_13_method_4_code, 1, some .int)
abbrev M_X11_isHouse : MI := (⟨RX11, "isHouse", "(I)Z"⟩, prog_13_method_5_code, 1, some .boolean)
abbrev M_X11_isFloor : MI := (⟨RX11, "isFloor", "(I)Z"⟩, prog_13_method_6_code, 1, some .boolean)
abbrev M_X11_isDay : MI := (⟨RX11, "isDay", "(I)Z"⟩, prog_13_method_7_code, 1, some .boolean)
abbrev M_X11_isKnown : MI := (⟨RX11, "isKnown", "(I)Z"⟩, prog_13_method_8_code, 2, some .boolean)
abbrev M_X11_gcd : MI := (⟨RX11, "gcd", "(II)I"⟩, prog_13_method_9_code, 5, some .int)
abbrev M_X11_noLot : MI := (⟨RX11, "noLot", "(I)Z"⟩, prog_13_method_10_code, 2, some .boolean)
abbrev M_X11_go : MI := (⟨RX11, "go", "(I)I"⟩, prog_13_method_11_code, 2, some .int)
abbrev M_X11_lot : MI := (⟨RX11, "lot", "(IIIII)I"⟩, prog_13_method_12_code, 6, some .int)
abbrev M_X11_room : MI := (⟨RX11, "room", "(II)I"⟩, prog_13_method_13_code, 4, some .int)
abbrev M_X11_move : MI := (⟨RX11, "move", "(II)I"⟩, prog_13_method_14_code, 4, some .int)
abbrev M_X11_hasP : MI := (⟨RX11, "hasP", "(I)Z"⟩, prog_13_method_15_code, 1, some .boolean)
abbrev M_X11_isOfLot : MI := (⟨RX11, "isOfLot", "(I)Z"⟩, prog_13_method_16_code, 1, some .boolean)
abbrev M_X11_hasMany : MI := (⟨RX11, "hasMany", "(I)Z"⟩, prog_13_method_17_code, 1, some .boolean)
abbrev M_X11_mostOf : MI := (⟨RX11, "mostOf", "(I)I"⟩, prog_13_method_18_code, 1, some .int)
abbrev M_X11_isPaper : MI := (⟨RX11, "isPaper", "(I)Z"⟩, prog_13_method_19_code, 2, some .boolean)
abbrev M_X11_noTarget : MI := (⟨RX11, "noTarget", "(II)Z"⟩, prog_13_method_20_code, 3, some .boolean)
abbrev M_X11_line : MI := (⟨RX11, "line", "(IIIIII)I"⟩, prog_13_method_21_code, 7, some .int)
abbrev M_X11_findBook : MI := (⟨RX11, "findBook", "(I)V"⟩, prog_13_method_22_code, 4, none)
abbrev M_X11_book : MI := (⟨RX11, "book", "(II)I"⟩, prog_13_method_23_code, 3, some .int)
abbrev M_X11_feed : MI := (⟨RX11, "feed", "(IJ)I"⟩, prog_13_method_24_code, 5, some .int)
abbrev M_X11_here : MI := (⟨RX11, "here", "()I"⟩, prog_13_method_25_code, 1, some .int)
abbrev M_X11_want : MI := (⟨RX11, "want", "(ZII)Z"⟩, prog_13_method_26_code, 4, some .boolean)
abbrev M_X11_takeWord : MI := (⟨RX11, "takeWord", "()V"⟩, prog_13_method_27_code, 2, none)
abbrev M_X11_isWord : MI := (⟨RX11, "isWord", "(IIIIIII)Z"⟩, prog_13_method_28_code, 10, some .boolean)
abbrev M_X11_takeNumber : MI := (⟨RX11, "takeNumber", "(I)I"⟩, prog_13_method_29_code, 5, some .int)
abbrev M_X11_nameOf : MI := (⟨RX11, "nameOf", "()I"⟩, prog_13_method_30_code, 1, some .int)
abbrev M_X11_mostOfName : MI := (⟨RX11, "mostOfName", "(I)I"⟩, prog_13_method_31_code, 1, some .int)
abbrev M_X11_keyOf : MI := (⟨RX11, "keyOf", "()I"⟩, prog_13_method_32_code, 1, some .int)
abbrev M_X11_readRank : MI := (⟨RX11, "readRank", "(I)V"⟩, prog_13_method_33_code, 7, none)
abbrev M_X11_readClause : MI := (⟨RX11, "readClause", "(II)V"⟩, prog_13_method_34_code, 4, none)
abbrev M_X11_term : MI := (⟨RX11, "term", "(I)I"⟩, prog_13_method_35_code, 4, some .int)
abbrev M_X11_fault : MI := (⟨RX11, "fault", "()I"⟩, prog_13_method_36_code, 1, some .int)
abbrev M_X11_findTerms : MI := (⟨RX11, "findTerms", "(I)V"⟩, prog_13_method_37_code, 5, none)
abbrev M_X11_force : MI := (⟨RX11, "force", "(II)I"⟩, prog_13_method_38_code, 3, some .int)
abbrev M_X11_there : MI := (⟨RX11, "there", "(I)I"⟩, prog_13_method_39_code, 2, some .int)
abbrev M_X11_onPapers : MI := (⟨RX11, "onPapers", "(I)I"⟩, prog_13_method_40_code, 4, some .int)
abbrev M_X11_lay : MI := (⟨RX11, "lay", "(IIIII)V"⟩, prog_13_method_41_code, 6, none)
abbrev M_X11_pass : MI := (⟨RX11, "pass", "(II)Z"⟩, prog_13_method_42_code, 5, some .boolean)
abbrev M_X11_partFrom : MI := (⟨RX11, "partFrom", "(II)Z"⟩, prog_13_method_43_code, 3, some .boolean)
abbrev M_X11_lend : MI := (⟨RX11, "lend", "(II)Z"⟩, prog_13_method_44_code, 3, some .boolean)
abbrev M_X11_handOut : MI := (⟨RX11, "handOut", "(II)Z"⟩, prog_13_method_45_code, 4, some .boolean)
abbrev M_X11_burn : MI := (⟨RX11, "burn", "(II)Z"⟩, prog_13_method_46_code, 3, some .boolean)
abbrev M_X11_issue : MI := (⟨RX11, "issue", "(I)Z"⟩, prog_13_method_47_code, 2, some .boolean)
abbrev M_X11_change : MI := (⟨RX11, "change", "(II)Z"⟩, prog_13_method_48_code, 3, some .boolean)
abbrev M_X11_befall : MI := (⟨RX11, "befall", "(I)Z"⟩, prog_13_method_49_code, 4, some .boolean)
abbrev M_X11_tell : MI := (⟨RX11, "tell", "(II)V"⟩, prog_13_method_50_code, 4, none)
abbrev M_X11_told : MI := (⟨RX11, "told", "(II)I"⟩, prog_13_method_51_code, 3, some .int)
abbrev M_X11_linesNow : MI := (⟨RX11, "linesNow", "(I)I"⟩, prog_13_method_52_code, 4, some .int)
abbrev M_X11_papersToday : MI := (⟨RX11, "papersToday", "()I"⟩, prog_13_method_53_code, 3, some .int)
abbrev M_X11_count : MI := (⟨RX11, "count", "(I)I"⟩, prog_13_method_54_code, 2, some .int)
abbrev M_X11_whyNot : MI := (⟨RX11, "whyNot", "(IIIII)I"⟩, prog_13_method_55_code, 6, some .int)
abbrev M_X11_paper : MI := (⟨RX11, "paper", "(IIII)I"⟩, prog_13_method_56_code, 6, some .int)
abbrev M_X11_over : MI := (⟨RX11, "over", "(I)I"⟩, prog_13_method_57_code, 3, some .int)
abbrev M_X11_goods : MI := (⟨RX11, "goods", "(IIII)I"⟩, prog_13_method_58_code, 7, some .int)
abbrev M_X11_share : MI := (⟨RX11, "share", "(IIII)I"⟩, prog_13_method_59_code, 12, some .int)
abbrev M_X11_fewestFrom : MI := (⟨RX11, "fewestFrom", "(II)I"⟩, prog_13_method_60_code, 11, some .int)
abbrev M_X11_doubt : MI := (⟨RX11, "doubt", "(IIII)I"⟩, prog_13_method_61_code, 10, some .int)
abbrev M_X11_stock : MI := (⟨RX11, "stock", "(III)I"⟩, prog_13_method_62_code, 7, some .int)
abbrev M_X11_news : MI := (⟨RX11, "news", "(III)I"⟩, prog_13_method_63_code, 8, some .int)
abbrev M_X11_rentOf : MI := (⟨RX11, "rentOf", "(II)I"⟩, prog_13_method_64_code, 3, some .int)
abbrev M_X11_rent : MI := (⟨RX11, "rent", "(II)I"⟩, prog_13_method_65_code, 3, some .int)
abbrev M_X11_weightOn : MI := (⟨RX11, "weightOn", "(II)I"⟩, prog_13_method_66_code, 5, some .int)
abbrev M_X11_weight : MI := (⟨RX11, "weight", "(II)I"⟩, prog_13_method_67_code, 3, some .int)
abbrev M_X11_weigh : MI := (⟨RX11, "weigh", "(III)I"⟩, prog_13_method_68_code, 4, some .int)
abbrev M_X11_loss : MI := (⟨RX11, "loss", "(II)I"⟩, prog_13_method_69_code, 6, some .int)
abbrev M_X11_unpaid : MI := (⟨RX11, "unpaid", "(III)I"⟩, prog_13_method_70_code, 5, some .int)
abbrev M_X11_wants : MI := (⟨RX11, "wants", "(III)I"⟩, prog_13_method_71_code, 6, some .int)
abbrev M_X11_money : MI := (⟨RX11, "money", "(IIII)I"⟩, prog_13_method_72_code, 13, some .int)
abbrev M_X11_sale : MI := (⟨RX11, "sale", "(IIII)I"⟩, prog_13_method_73_code, 5, some .int)
abbrev M_X11_net : MI := (⟨RX11, "net", "(II)I"⟩, prog_13_method_74_code, 3, some .int)
abbrev M_X11_handings : MI := (⟨RX11, "handings", "(I)I"⟩, prog_13_method_75_code, 8, some .int)
abbrev M_X11_due : MI := (⟨RX11, "due", "(III)I"⟩, prog_13_method_76_code, 4, some .int)
abbrev M_X11_coin : MI := (⟨RX11, "coin", "(II)I"⟩, prog_13_method_77_code, 4, some .int)
abbrev M_X11_owes : MI := (⟨RX11, "owes", "(I)I"⟩, prog_13_method_78_code, 4, some .int)
abbrev M_X11_has : MI := (⟨RX11, "has", "(I)I"⟩, prog_13_method_79_code, 4, some .int)
abbrev M_X11_gives : MI := (⟨RX11, "gives", "(I)I"⟩, prog_13_method_80_code, 4, some .int)
abbrev M_X11_goRounds : MI := (⟨RX11, "goRounds", "()V"⟩, prog_13_method_81_code, 6, none)
abbrev M_X11_fails : MI := (⟨RX11, "fails", "(II)I"⟩, prog_13_method_82_code, 5, some .int)
abbrev M_X11_part : MI := (⟨RX11, "part", "(IIZ)I"⟩, prog_13_method_83_code, 5, some .int)
abbrev M_X11_mayLie : MI := (⟨RX11, "mayLie", "(II)Z"⟩, prog_13_method_84_code, 5, some .boolean)
abbrev M_X11_put : MI := (⟨RX11, "put", "(III)V"⟩, prog_13_method_85_code, 4, none)
abbrev M_X11_layAll : MI := (⟨RX11, "layAll", "()I"⟩, prog_13_method_86_code, 5, some .int)
abbrev M_X11_plan : MI := (⟨RX11, "plan", "(II)I"⟩, prog_13_method_87_code, 7, some .int)
abbrev M_J6_bitCount_0f7a4 : MI := (⟨"java/lang/Integer", "bitCount", "(I)I"⟩, prog_14_method_49_code, 1, some .int)
abbrev M_J9_max_7cf53 : MI := (⟨"java/lang/Math", "max", "(II)I"⟩, prog_15_method_65_code, 2, some .int)
abbrev M_J9_min_7cf53 : MI := (⟨"java/lang/Math", "min", "(II)I"⟩, prog_15_method_69_code, 2, some .int)
abbrev M_J9_min_f86c9 : MI := (⟨"java/lang/Math", "min", "(JJ)J"⟩, prog_15_method_70_code, 4, some .long)
abbrev M_J0_length_8abf5 : MI := (⟨"java/lang/String", "length", "()I"⟩, prog_16_method_54_code, 1, some .int)
abbrev M_J0_charAt_5068e : MI := (⟨"java/lang/String", "charAt", "(I)C"⟩, prog_16_method_56_code, 2, some .char)
abbrev M_J0_coder_7d493 : MI := (⟨"java/lang/String", "coder", "()B"⟩, prog_16_method_152_code, 1, some .byte)
abbrev M_J0_isLatin1_aae02 : MI := (⟨"java/lang/String", "isLatin1", "()Z"⟩, prog_16_method_154_code, 1, some .boolean)
abbrev M_J0_checkIndex_df160 : MI := (⟨"java/lang/String", "checkIndex", "(II)V"⟩, prog_16_method_155_code, 2, none)
abbrev M_J1_charAt_3b067 : MI := (⟨"java/lang/StringLatin1", "charAt", "([BI)C"⟩, prog_17_method_2_code, 2, some .char)
abbrev M_J2_getChar_3b067 : MI := (⟨"java/lang/StringUTF16", "getChar", "([BI)C"⟩, prog_18_method_5_code, 2, some .char)
abbrev M_J2_length_9d52b : MI := (⟨"java/lang/StringUTF16", "length", "([B)I"⟩, prog_18_method_6_code, 1, some .int)
abbrev M_J2_charAt_3b067 : MI := (⟨"java/lang/StringUTF16", "charAt", "([BI)C"⟩, prog_18_method_83_code, 2, some .char)
abbrev M_J2_checkIndex_2214a : MI := (⟨"java/lang/StringUTF16", "checkIndex", "(I[B)V"⟩, prog_18_method_91_code, 2, none)
abbrev M_J3_checkIndex_8e157 : MI := (⟨"jdk/internal/util/Preconditions", "checkIndex", "(IILjava/util/function/BiFunction;)I"⟩, prog_19_method_11_code, 3, some .int)
abbrev M_L_law : MI := (⟨"WharfPapersLaw", "law", "([I)Z"⟩, code, 4, some .boolean)
theorem u_X0 : ∀ w ∈ u_ws RX0 TX0 3, w ∈ tbG := by
  intro w hw
  obtain ⟨j, hj, rfl⟩ := List.mem_map.mp hw
  have hj := List.mem_range.mp hj
  match j with
  | 0 => exact tb2 40 rfl rfl
  | 1 => exact tb2 42 rfl rfl
  | 2 => exact tb2 44 rfl rfl
  | j + 3 => exact absurd hj (by omega)
theorem clk_0 : clkq 0 RX0 TX0 3 tyX0 := ⟨rfl, u_X0, by decide +kernel, by decide +kernel, by decide⟩
theorem u_X1 : ∀ w ∈ u_ws RX1 TX1 10, w ∈ tbG := by
  intro w hw
  obtain ⟨j, hj, rfl⟩ := List.mem_map.mp hw
  have hj := List.mem_range.mp hj
  match j with
  | 0 => exact tb2 129 rfl rfl
  | 1 => exact tb2 131 rfl rfl
  | 2 => exact tb2 133 rfl rfl
  | 3 => exact tb2 135 rfl rfl
  | 4 => exact tb2 137 rfl rfl
  | 5 => exact tb2 139 rfl rfl
  | 6 => exact tb2 141 rfl rfl
  | 7 => exact tb2 143 rfl rfl
  | 8 => exact tb2 145 rfl rfl
  | 9 => exact tb2 147 rfl rfl
  | j + 10 => exact absurd hj (by omega)
theorem clk_1 : clkq 1 RX1 TX1 10 tyX1 := ⟨rfl, u_X1, by decide +kernel, by decide +kernel, by decide⟩
theorem u_X2 : ∀ w ∈ u_ws RX2 TX2 11, w ∈ tbG := by
  intro w hw
  obtain ⟨j, hj, rfl⟩ := List.mem_map.mp hw
  have hj := List.mem_range.mp hj
  match j with
  | 0 => exact tb1 98 rfl rfl
  | 1 => exact tb1 100 rfl rfl
  | 2 => exact tb1 102 rfl rfl
  | 3 => exact tb1 104 rfl rfl
  | 4 => exact tb1 106 rfl rfl
  | 5 => exact tb1 108 rfl rfl
  | 6 => exact tb1 110 rfl rfl
  | 7 => exact tb1 112 rfl rfl
  | 8 => exact tb1 114 rfl rfl
  | 9 => exact tb1 116 rfl rfl
  | 10 => exact tb1 118 rfl rfl
  | j + 11 => exact absurd hj (by omega)
theorem clk_2 : clkq 2 RX2 TX2 11 tyX2 := ⟨rfl, u_X2, by decide +kernel, by decide +kernel, by decide⟩
theorem u_X3 : ∀ w ∈ u_ws RX3 TX3 6, w ∈ tbG := by
  intro w hw
  obtain ⟨j, hj, rfl⟩ := List.mem_map.mp hw
  have hj := List.mem_range.mp hj
  match j with
  | 0 => exact tb1 50 rfl rfl
  | 1 => exact tb1 52 rfl rfl
  | 2 => exact tb1 54 rfl rfl
  | 3 => exact tb1 56 rfl rfl
  | 4 => exact tb1 58 rfl rfl
  | 5 => exact tb1 60 rfl rfl
  | j + 6 => exact absurd hj (by omega)
theorem clk_3 : clkq 3 RX3 TX3 6 tyX3 := ⟨rfl, u_X3, by decide +kernel, by decide +kernel, by decide⟩
theorem u_X4 : ∀ w ∈ u_ws RX4 TX4 7, w ∈ tbG := by
  intro w hw
  obtain ⟨j, hj, rfl⟩ := List.mem_map.mp hw
  have hj := List.mem_range.mp hj
  match j with
  | 0 => exact tb2 163 rfl rfl
  | 1 => exact tb2 165 rfl rfl
  | 2 => exact tb2 167 rfl rfl
  | 3 => exact tb2 169 rfl rfl
  | 4 => exact tb2 171 rfl rfl
  | 5 => exact tb2 173 rfl rfl
  | 6 => exact tb2 175 rfl rfl
  | j + 7 => exact absurd hj (by omega)
theorem clk_4 : clkq 4 RX4 TX4 7 tyX4 := ⟨rfl, u_X4, by decide +kernel, by decide +kernel, by decide⟩
theorem u_X5 : ∀ w ∈ u_ws RX5 TX5 9, w ∈ tbG := by
  intro w hw
  obtain ⟨j, hj, rfl⟩ := List.mem_map.mp hw
  have hj := List.mem_range.mp hj
  match j with
  | 0 => exact tb1 180 rfl rfl
  | 1 => exact tb1 182 rfl rfl
  | 2 => exact tb1 184 rfl rfl
  | 3 => exact tb1 186 rfl rfl
  | 4 => exact tb1 188 rfl rfl
  | 5 => exact tb1 190 rfl rfl
  | 6 => exact tb1 192 rfl rfl
  | 7 => exact tb1 194 rfl rfl
  | 8 => exact tb1 196 rfl rfl
  | j + 9 => exact absurd hj (by omega)
theorem clk_5 : clkq 5 RX5 TX5 9 tyX5 := ⟨rfl, u_X5, by decide +kernel, by decide +kernel, by decide⟩
theorem u_X6 : ∀ w ∈ u_ws RX6 TX6 8, w ∈ tbG := by
  intro w hw
  obtain ⟨j, hj, rfl⟩ := List.mem_map.mp hw
  have hj := List.mem_range.mp hj
  match j with
  | 0 => exact tb2 90 rfl rfl
  | 1 => exact tb2 92 rfl rfl
  | 2 => exact tb2 94 rfl rfl
  | 3 => exact tb2 96 rfl rfl
  | 4 => exact tb2 98 rfl rfl
  | 5 => exact tb2 100 rfl rfl
  | 6 => exact tb2 102 rfl rfl
  | 7 => exact tb2 104 rfl rfl
  | j + 8 => exact absurd hj (by omega)
theorem clk_6 : clkq 6 RX6 TX6 8 tyX6 := ⟨rfl, u_X6, by decide +kernel, by decide +kernel, by decide⟩
theorem u_X7 : ∀ w ∈ u_ws RX7 TX7 16, w ∈ tbG := by
  intro w hw
  obtain ⟨j, hj, rfl⟩ := List.mem_map.mp hw
  have hj := List.mem_range.mp hj
  match j with
  | 0 => exact tb1 237 rfl rfl
  | 1 => exact tb1 239 rfl rfl
  | 2 => exact tb2 1 rfl rfl
  | 3 => exact tb2 3 rfl rfl
  | 4 => exact tb2 5 rfl rfl
  | 5 => exact tb2 7 rfl rfl
  | 6 => exact tb2 9 rfl rfl
  | 7 => exact tb2 11 rfl rfl
  | 8 => exact tb2 13 rfl rfl
  | 9 => exact tb2 15 rfl rfl
  | 10 => exact tb2 17 rfl rfl
  | 11 => exact tb2 19 rfl rfl
  | 12 => exact tb2 21 rfl rfl
  | 13 => exact tb2 23 rfl rfl
  | 14 => exact tb2 25 rfl rfl
  | 15 => exact tb2 27 rfl rfl
  | j + 16 => exact absurd hj (by omega)
theorem clk_7 : clkq 7 RX7 TX7 16 tyX7 := ⟨rfl, u_X7, by decide +kernel, by decide +kernel, by decide⟩
theorem u_X8 : ∀ w ∈ u_ws RX8 TX8 9, w ∈ tbG := by
  intro w hw
  obtain ⟨j, hj, rfl⟩ := List.mem_map.mp hw
  have hj := List.mem_range.mp hj
  match j with
  | 0 => exact tb1 140 rfl rfl
  | 1 => exact tb1 142 rfl rfl
  | 2 => exact tb1 144 rfl rfl
  | 3 => exact tb1 146 rfl rfl
  | 4 => exact tb1 148 rfl rfl
  | 5 => exact tb1 150 rfl rfl
  | 6 => exact tb1 152 rfl rfl
  | 7 => exact tb1 154 rfl rfl
  | 8 => exact tb1 156 rfl rfl
  | j + 9 => exact absurd hj (by omega)
theorem clk_8 : clkq 8 RX8 TX8 9 tyX8 := ⟨rfl, u_X8, by decide +kernel, by decide +kernel, by decide⟩
theorem u_X9 : ∀ w ∈ u_ws RX9 TX9 5, w ∈ tbG := by
  intro w hw
  obtain ⟨j, hj, rfl⟩ := List.mem_map.mp hw
  have hj := List.mem_range.mp hj
  match j with
  | 0 => exact tb2 63 rfl rfl
  | 1 => exact tb2 65 rfl rfl
  | 2 => exact tb2 67 rfl rfl
  | 3 => exact tb2 69 rfl rfl
  | 4 => exact tb2 71 rfl rfl
  | j + 5 => exact absurd hj (by omega)
theorem clk_9 : clkq 9 RX9 TX9 5 tyX9 := ⟨rfl, u_X9, by decide +kernel, by decide +kernel, by decide⟩
theorem u_X10 : ∀ w ∈ u_ws RX10 TX10 15, w ∈ tbG := by
  intro w hw
  obtain ⟨j, hj, rfl⟩ := List.mem_map.mp hw
  have hj := List.mem_range.mp hj
  match j with
  | 0 => exact tb2 194 rfl rfl
  | 1 => exact tb2 196 rfl rfl
  | 2 => exact tb2 198 rfl rfl
  | 3 => exact tb2 200 rfl rfl
  | 4 => exact tb2 202 rfl rfl
  | 5 => exact tb2 204 rfl rfl
  | 6 => exact tb2 206 rfl rfl
  | 7 => exact tb2 208 rfl rfl
  | 8 => exact tb2 210 rfl rfl
  | 9 => exact tb2 212 rfl rfl
  | 10 => exact tb2 214 rfl rfl
  | 11 => exact tb2 216 rfl rfl
  | 12 => exact tb2 218 rfl rfl
  | 13 => exact tb2 220 rfl rfl
  | 14 => exact tb2 222 rfl rfl
  | j + 15 => exact absurd hj (by omega)
theorem clk_10 : clkq 10 RX10 TX10 15 tyX10 := ⟨rfl, u_X10, by decide +kernel, by decide +kernel, by decide⟩
theorem u_X11 : ∀ w ∈ u_ws RX11 TX11 79, w ∈ tbG := by
  intro w hw
  obtain ⟨j, hj, rfl⟩ := List.mem_map.mp hw
  have hj := List.mem_range.mp hj
  match j with
  | 0 => exact tb5 198 rfl rfl
  | 1 => exact tb5 200 rfl rfl
  | 2 => exact tb5 202 rfl rfl
  | 3 => exact tb5 204 rfl rfl
  | 4 => exact tb5 206 rfl rfl
  | 5 => exact tb5 208 rfl rfl
  | 6 => exact tb5 210 rfl rfl
  | 7 => exact tb5 212 rfl rfl
  | 8 => exact tb5 214 rfl rfl
  | 9 => exact tb5 216 rfl rfl
  | 10 => exact tb5 218 rfl rfl
  | 11 => exact tb5 220 rfl rfl
  | 12 => exact tb5 222 rfl rfl
  | 13 => exact tb5 224 rfl rfl
  | 14 => exact tb5 226 rfl rfl
  | 15 => exact tb5 228 rfl rfl
  | 16 => exact tb5 230 rfl rfl
  | 17 => exact tb5 232 rfl rfl
  | 18 => exact tb5 234 rfl rfl
  | 19 => exact tb5 236 rfl rfl
  | 20 => exact tb5 238 rfl rfl
  | 21 => exact tb6 0 rfl rfl
  | 22 => exact tb6 2 rfl rfl
  | 23 => exact tb6 4 rfl rfl
  | 24 => exact tb6 6 rfl rfl
  | 25 => exact tb6 8 rfl rfl
  | 26 => exact tb6 10 rfl rfl
  | 27 => exact tb6 12 rfl rfl
  | 28 => exact tb6 14 rfl rfl
  | 29 => exact tb6 16 rfl rfl
  | 30 => exact tb6 18 rfl rfl
  | 31 => exact tb6 20 rfl rfl
  | 32 => exact tb6 22 rfl rfl
  | 33 => exact tb6 24 rfl rfl
  | 34 => exact tb6 26 rfl rfl
  | 35 => exact tb6 28 rfl rfl
  | 36 => exact tb6 30 rfl rfl
  | 37 => exact tb6 32 rfl rfl
  | 38 => exact tb6 34 rfl rfl
  | 39 => exact tb6 36 rfl rfl
  | 40 => exact tb6 38 rfl rfl
  | 41 => exact tb6 40 rfl rfl
  | 42 => exact tb6 42 rfl rfl
  | 43 => exact tb6 44 rfl rfl
  | 44 => exact tb6 46 rfl rfl
  | 45 => exact tb6 48 rfl rfl
  | 46 => exact tb6 50 rfl rfl
  | 47 => exact tb6 52 rfl rfl
  | 48 => exact tb6 54 rfl rfl
  | 49 => exact tb6 56 rfl rfl
  | 50 => exact tb6 58 rfl rfl
  | 51 => exact tb6 60 rfl rfl
  | 52 => exact tb6 62 rfl rfl
  | 53 => exact tb6 64 rfl rfl
  | 54 => exact tb6 66 rfl rfl
  | 55 => exact tb6 68 rfl rfl
  | 56 => exact tb6 70 rfl rfl
  | 57 => exact tb6 72 rfl rfl
  | 58 => exact tb6 74 rfl rfl
  | 59 => exact tb6 76 rfl rfl
  | 60 => exact tb6 78 rfl rfl
  | 61 => exact tb6 80 rfl rfl
  | 62 => exact tb6 82 rfl rfl
  | 63 => exact tb6 84 rfl rfl
  | 64 => exact tb6 86 rfl rfl
  | 65 => exact tb6 88 rfl rfl
  | 66 => exact tb6 90 rfl rfl
  | 67 => exact tb6 92 rfl rfl
  | 68 => exact tb6 94 rfl rfl
  | 69 => exact tb6 96 rfl rfl
  | 70 => exact tb6 98 rfl rfl
  | 71 => exact tb6 100 rfl rfl
  | 72 => exact tb6 102 rfl rfl
  | 73 => exact tb6 104 rfl rfl
  | 74 => exact tb6 106 rfl rfl
  | 75 => exact tb6 108 rfl rfl
  | 76 => exact tb6 110 rfl rfl
  | 77 => exact tb6 112 rfl rfl
  | 78 => exact tb6 114 rfl rfl
  | j + 79 => exact absurd hj (by omega)
theorem clk_11 : clkq 11 RX11 TX11 79 tyX11 := ⟨rfl, u_X11, by decide +kernel, by decide +kernel, by decide⟩
theorem fl_X3_9 : flq RX3 9 3 6 0 0 false true := ⟨RX3, TX3, tyX3, clk_3, by decide, rfl, tb1 33 rfl rfl, rfl, rfl, rfl, Or.inr ⟨_, rfl⟩⟩
theorem fl_X4_57 : flq RX4 57 3 6 0 0 false true := ⟨RX3, TX3, tyX3, clk_3, by decide, rfl, tb1 34 rfl rfl, rfl, rfl, rfl, Or.inr ⟨_, rfl⟩⟩
theorem fl_X7_165 : flq RX7 165 3 6 0 0 false true := ⟨RX3, TX3, tyX3, clk_3, by decide, rfl, tb1 35 rfl rfl, rfl, rfl, rfl, Or.inr ⟨_, rfl⟩⟩
theorem fl_X10_385 : flq RX10 385 3 6 0 0 false true := ⟨RX3, TX3, tyX3, clk_3, by decide, rfl, tb1 36 rfl rfl, rfl, rfl, rfl, Or.inr ⟨_, rfl⟩⟩
theorem fl_X3_15 : flq RX3 15 3 6 1 1 false true := ⟨RX3, TX3, tyX3, clk_3, by decide, rfl, tb1 37 rfl rfl, rfl, rfl, rfl, Or.inr ⟨_, rfl⟩⟩
theorem fl_X7_159 : flq RX7 159 3 6 1 1 false true := ⟨RX3, TX3, tyX3, clk_3, by decide, rfl, tb1 38 rfl rfl, rfl, rfl, rfl, Or.inr ⟨_, rfl⟩⟩
theorem fl_X3_18 : flq RX3 18 3 6 2 2 false true := ⟨RX3, TX3, tyX3, clk_3, by decide, rfl, tb1 39 rfl rfl, rfl, rfl, rfl, Or.inr ⟨_, rfl⟩⟩
theorem fl_X10_388 : flq RX10 388 3 6 2 2 false true := ⟨RX3, TX3, tyX3, clk_3, by decide, rfl, tb1 40 rfl rfl, rfl, rfl, rfl, Or.inr ⟨_, rfl⟩⟩
theorem fl_X3_21 : flq RX3 21 3 6 3 3 false true := ⟨RX3, TX3, tyX3, clk_3, by decide, rfl, tb1 41 rfl rfl, rfl, rfl, rfl, Or.inr ⟨_, rfl⟩⟩
theorem fl_X4_48 : flq RX4 48 3 6 3 3 false true := ⟨RX3, TX3, tyX3, clk_3, by decide, rfl, tb1 42 rfl rfl, rfl, rfl, rfl, Or.inr ⟨_, rfl⟩⟩
theorem fl_X10_124 : flq RX10 124 3 6 3 3 false true := ⟨RX3, TX3, tyX3, clk_3, by decide, rfl, tb1 43 rfl rfl, rfl, rfl, rfl, Or.inr ⟨_, rfl⟩⟩
theorem fl_X3_24 : flq RX3 24 3 6 4 4 false true := ⟨RX3, TX3, tyX3, clk_3, by decide, rfl, tb1 44 rfl rfl, rfl, rfl, rfl, Or.inr ⟨_, rfl⟩⟩
theorem fl_X10_382 : flq RX10 382 3 6 4 4 false true := ⟨RX3, TX3, tyX3, clk_3, by decide, rfl, tb1 45 rfl rfl, rfl, rfl, rfl, Or.inr ⟨_, rfl⟩⟩
theorem fl_X4_31 : flq RX4 31 3 6 5 5 true false := ⟨RX3, TX3, tyX3, clk_3, by decide, rfl, tb1 46 rfl rfl, rfl, rfl, rfl, rfl⟩
theorem fl_X3_27 : flq RX3 27 3 6 5 5 true false := ⟨RX3, TX3, tyX3, clk_3, by decide, rfl, tb1 47 rfl rfl, rfl, rfl, rfl, rfl⟩
theorem fl_X7_87 : flq RX7 87 3 6 5 5 true false := ⟨RX3, TX3, tyX3, clk_3, by decide, rfl, tb1 48 rfl rfl, rfl, rfl, rfl, rfl⟩
theorem fl_X10_114 : flq RX10 114 3 6 5 5 true false := ⟨RX3, TX3, tyX3, clk_3, by decide, rfl, tb1 49 rfl rfl, rfl, rfl, rfl, rfl⟩
theorem fl_X2_9 : flq RX2 9 2 11 0 0 false true := ⟨RX2, TX2, tyX2, clk_2, by decide, rfl, tb1 70 rfl rfl, rfl, rfl, rfl, Or.inr ⟨_, rfl⟩⟩
theorem fl_X7_93 : flq RX7 93 2 11 0 0 false true := ⟨RX2, TX2, tyX2, clk_2, by decide, rfl, tb1 71 rfl rfl, rfl, rfl, rfl, Or.inr ⟨_, rfl⟩⟩
theorem fl_X10_145 : flq RX10 145 2 11 0 0 false true := ⟨RX2, TX2, tyX2, clk_2, by decide, rfl, tb1 72 rfl rfl, rfl, rfl, rfl, Or.inr ⟨_, rfl⟩⟩
theorem fl_X2_15 : flq RX2 15 2 11 1 1 false true := ⟨RX2, TX2, tyX2, clk_2, by decide, rfl, tb1 73 rfl rfl, rfl, rfl, rfl, Or.inr ⟨_, rfl⟩⟩
theorem fl_X7_81 : flq RX7 81 2 11 1 1 false true := ⟨RX2, TX2, tyX2, clk_2, by decide, rfl, tb1 74 rfl rfl, rfl, rfl, rfl, Or.inr ⟨_, rfl⟩⟩
theorem fl_X10_148 : flq RX10 148 2 11 1 1 false true := ⟨RX2, TX2, tyX2, clk_2, by decide, rfl, tb1 75 rfl rfl, rfl, rfl, rfl, Or.inr ⟨_, rfl⟩⟩
theorem fl_X2_18 : flq RX2 18 2 11 2 2 false true := ⟨RX2, TX2, tyX2, clk_2, by decide, rfl, tb1 76 rfl rfl, rfl, rfl, rfl, Or.inr ⟨_, rfl⟩⟩
theorem fl_X10_151 : flq RX10 151 2 11 2 2 false true := ⟨RX2, TX2, tyX2, clk_2, by decide, rfl, tb1 77 rfl rfl, rfl, rfl, rfl, Or.inr ⟨_, rfl⟩⟩
theorem fl_X2_21 : flq RX2 21 2 11 3 3 false true := ⟨RX2, TX2, tyX2, clk_2, by decide, rfl, tb1 78 rfl rfl, rfl, rfl, rfl, Or.inr ⟨_, rfl⟩⟩
theorem fl_X7_96 : flq RX7 96 2 11 3 3 false true := ⟨RX2, TX2, tyX2, clk_2, by decide, rfl, tb1 79 rfl rfl, rfl, rfl, rfl, Or.inr ⟨_, rfl⟩⟩
theorem fl_X10_154 : flq RX10 154 2 11 3 3 false true := ⟨RX2, TX2, tyX2, clk_2, by decide, rfl, tb1 80 rfl rfl, rfl, rfl, rfl, Or.inr ⟨_, rfl⟩⟩
theorem fl_X2_24 : flq RX2 24 2 11 4 4 false true := ⟨RX2, TX2, tyX2, clk_2, by decide, rfl, tb1 81 rfl rfl, rfl, rfl, rfl, Or.inr ⟨_, rfl⟩⟩
theorem fl_X7_133 : flq RX7 133 2 11 4 4 false true := ⟨RX2, TX2, tyX2, clk_2, by decide, rfl, tb1 82 rfl rfl, rfl, rfl, rfl, Or.inr ⟨_, rfl⟩⟩
theorem fl_X10_157 : flq RX10 157 2 11 4 4 false true := ⟨RX2, TX2, tyX2, clk_2, by decide, rfl, tb1 83 rfl rfl, rfl, rfl, rfl, Or.inr ⟨_, rfl⟩⟩
theorem fl_X2_27 : flq RX2 27 2 11 5 5 false true := ⟨RX2, TX2, tyX2, clk_2, by decide, rfl, tb1 84 rfl rfl, rfl, rfl, rfl, Or.inr ⟨_, rfl⟩⟩
theorem fl_X10_160 : flq RX10 160 2 11 5 5 false true := ⟨RX2, TX2, tyX2, clk_2, by decide, rfl, tb1 85 rfl rfl, rfl, rfl, rfl, Or.inr ⟨_, rfl⟩⟩
theorem fl_X7_147 : flq RX7 147 2 11 5 5 false true := ⟨RX2, TX2, tyX2, clk_2, by decide, rfl, tb1 86 rfl rfl, rfl, rfl, rfl, Or.inr ⟨_, rfl⟩⟩
theorem fl_X2_30 : flq RX2 30 2 11 6 6 false true := ⟨RX2, TX2, tyX2, clk_2, by decide, rfl, tb1 87 rfl rfl, rfl, rfl, rfl, Or.inr ⟨_, rfl⟩⟩
theorem fl_X7_130 : flq RX7 130 2 11 6 6 false true := ⟨RX2, TX2, tyX2, clk_2, by decide, rfl, tb1 88 rfl rfl, rfl, rfl, rfl, Or.inr ⟨_, rfl⟩⟩
theorem fl_X10_163 : flq RX10 163 2 11 6 6 false true := ⟨RX2, TX2, tyX2, clk_2, by decide, rfl, tb1 89 rfl rfl, rfl, rfl, rfl, Or.inr ⟨_, rfl⟩⟩
theorem fl_X2_33 : flq RX2 33 2 11 7 7 false true := ⟨RX2, TX2, tyX2, clk_2, by decide, rfl, tb1 90 rfl rfl, rfl, rfl, rfl, Or.inr ⟨_, rfl⟩⟩
theorem fl_X7_74 : flq RX7 74 2 11 7 7 false true := ⟨RX2, TX2, tyX2, clk_2, by decide, rfl, tb1 91 rfl rfl, rfl, rfl, rfl, Or.inr ⟨_, rfl⟩⟩
theorem fl_X2_36 : flq RX2 36 2 11 8 8 false true := ⟨RX2, TX2, tyX2, clk_2, by decide, rfl, tb1 92 rfl rfl, rfl, rfl, rfl, Or.inr ⟨_, rfl⟩⟩
theorem fl_X10_170 : flq RX10 170 2 11 8 8 false true := ⟨RX2, TX2, tyX2, clk_2, by decide, rfl, tb1 93 rfl rfl, rfl, rfl, rfl, Or.inr ⟨_, rfl⟩⟩
theorem fl_X2_40 : flq RX2 40 2 11 9 9 true false := ⟨RX2, TX2, tyX2, clk_2, by decide, rfl, tb1 94 rfl rfl, rfl, rfl, rfl, rfl⟩
theorem fl_X7_70 : flq RX7 70 2 11 9 9 true false := ⟨RX2, TX2, tyX2, clk_2, by decide, rfl, tb1 95 rfl rfl, rfl, rfl, rfl, rfl⟩
theorem fl_X10_140 : flq RX10 140 2 11 9 9 true false := ⟨RX2, TX2, tyX2, clk_2, by decide, rfl, tb1 96 rfl rfl, rfl, rfl, rfl, rfl⟩
theorem fl_X2_48 : flq RX2 48 2 11 10 10 true false := ⟨RX2, TX2, tyX2, clk_2, by decide, rfl, tb1 97 rfl rfl, rfl, rfl, rfl, rfl⟩
theorem fl_X8_11 : flq RX8 11 8 9 0 0 false true := ⟨RX8, TX8, tyX8, clk_8, by decide, rfl, tb1 130 rfl rfl, rfl, rfl, rfl, Or.inr ⟨_, rfl⟩⟩
theorem fl_X8_15 : flq RX8 15 8 9 1 1 false true := ⟨RX8, TX8, tyX8, clk_8, by decide, rfl, tb1 131 rfl rfl, rfl, rfl, rfl, Or.inr ⟨_, rfl⟩⟩
theorem fl_X8_22 : flq RX8 22 8 9 2 2 false true := ⟨RX8, TX8, tyX8, clk_8, by decide, rfl, tb1 132 rfl rfl, rfl, rfl, rfl, Or.inr ⟨_, rfl⟩⟩
theorem fl_X8_25 : flq RX8 25 8 9 3 3 false true := ⟨RX8, TX8, tyX8, clk_8, by decide, rfl, tb1 133 rfl rfl, rfl, rfl, rfl, Or.inr ⟨_, rfl⟩⟩
theorem fl_X8_28 : flq RX8 28 8 9 4 4 false true := ⟨RX8, TX8, tyX8, clk_8, by decide, rfl, tb1 134 rfl rfl, rfl, rfl, rfl, Or.inr ⟨_, rfl⟩⟩
theorem fl_X8_31 : flq RX8 31 8 9 5 5 false true := ⟨RX8, TX8, tyX8, clk_8, by decide, rfl, tb1 135 rfl rfl, rfl, rfl, rfl, Or.inr ⟨_, rfl⟩⟩
theorem fl_X8_35 : flq RX8 35 8 9 6 6 false true := ⟨RX8, TX8, tyX8, clk_8, by decide, rfl, tb1 136 rfl rfl, rfl, rfl, rfl, Or.inr ⟨_, rfl⟩⟩
theorem fl_X8_38 : flq RX8 38 8 9 7 7 true false := ⟨RX8, TX8, tyX8, clk_8, by decide, rfl, tb1 137 rfl rfl, rfl, rfl, rfl, rfl⟩
theorem fl_X8_42 : flq RX8 42 8 9 8 8 true false := ⟨RX8, TX8, tyX8, clk_8, by decide, rfl, tb1 138 rfl rfl, rfl, rfl, rfl, rfl⟩
theorem fl_X10_198 : flq RX10 198 8 9 8 8 true false := ⟨RX8, TX8, tyX8, clk_8, by decide, rfl, tb1 139 rfl rfl, rfl, rfl, rfl, rfl⟩
theorem fl_X5_11 : flq RX5 11 5 9 0 0 false true := ⟨RX5, TX5, tyX5, clk_5, by decide, rfl, tb1 165 rfl rfl, rfl, rfl, rfl, Or.inr ⟨_, rfl⟩⟩
theorem fl_X5_25 : flq RX5 25 5 9 1 1 true false := ⟨RX5, TX5, tyX5, clk_5, by decide, rfl, tb1 166 rfl rfl, rfl, rfl, rfl, rfl⟩
theorem fl_X10_201 : flq RX10 201 5 9 1 1 true false := ⟨RX5, TX5, tyX5, clk_5, by decide, rfl, tb1 167 rfl rfl, rfl, rfl, rfl, rfl⟩
theorem fl_X5_15 : flq RX5 15 5 9 2 2 false true := ⟨RX5, TX5, tyX5, clk_5, by decide, rfl, tb1 168 rfl rfl, rfl, rfl, rfl, Or.inr ⟨_, rfl⟩⟩
theorem fl_X8_47 : flq RX8 47 5 9 2 2 false true := ⟨RX5, TX5, tyX5, clk_5, by decide, rfl, tb1 169 rfl rfl, rfl, rfl, rfl, Or.inr ⟨_, rfl⟩⟩
theorem fl_X5_18 : flq RX5 18 5 9 3 3 false true := ⟨RX5, TX5, tyX5, clk_5, by decide, rfl, tb1 170 rfl rfl, rfl, rfl, rfl, Or.inr ⟨_, rfl⟩⟩
theorem fl_X8_49 : flq RX8 49 5 9 3 3 false true := ⟨RX5, TX5, tyX5, clk_5, by decide, rfl, tb1 171 rfl rfl, rfl, rfl, rfl, Or.inr ⟨_, rfl⟩⟩
theorem fl_X8_45 : flq RX8 45 5 9 4 4 true false := ⟨RX5, TX5, tyX5, clk_5, by decide, rfl, tb1 172 rfl rfl, rfl, rfl, rfl, rfl⟩
theorem fl_X5_31 : flq RX5 31 5 9 4 4 true false := ⟨RX5, TX5, tyX5, clk_5, by decide, rfl, tb1 173 rfl rfl, rfl, rfl, rfl, rfl⟩
theorem fl_X5_34 : flq RX5 34 5 9 5 5 true false := ⟨RX5, TX5, tyX5, clk_5, by decide, rfl, tb1 174 rfl rfl, rfl, rfl, rfl, rfl⟩
theorem fl_X10_213 : flq RX10 213 5 9 5 5 true false := ⟨RX5, TX5, tyX5, clk_5, by decide, rfl, tb1 175 rfl rfl, rfl, rfl, rfl, rfl⟩
theorem fl_X5_21 : flq RX5 21 5 9 6 6 true false := ⟨RX5, TX5, tyX5, clk_5, by decide, rfl, tb1 176 rfl rfl, rfl, rfl, rfl, rfl⟩
theorem fl_X10_219 : flq RX10 219 5 9 6 6 true false := ⟨RX5, TX5, tyX5, clk_5, by decide, rfl, tb1 177 rfl rfl, rfl, rfl, rfl, rfl⟩
theorem fl_X5_28 : flq RX5 28 5 9 7 7 true false := ⟨RX5, TX5, tyX5, clk_5, by decide, rfl, tb1 178 rfl rfl, rfl, rfl, rfl, rfl⟩
theorem fl_X5_48 : flq RX5 48 5 9 8 8 true false := ⟨RX5, TX5, tyX5, clk_5, by decide, rfl, tb1 179 rfl rfl, rfl, rfl, rfl, rfl⟩
theorem fl_X7_49 : flq RX7 49 7 16 0 0 false true := ⟨RX7, TX7, tyX7, clk_7, by decide, rfl, tb1 205 rfl rfl, rfl, rfl, rfl, Or.inl ⟨_, rfl⟩⟩
theorem fl_X7_53 : flq RX7 53 7 16 1 1 false true := ⟨RX7, TX7, tyX7, clk_7, by decide, rfl, tb1 206 rfl rfl, rfl, rfl, rfl, Or.inl ⟨_, rfl⟩⟩
theorem fl_X7_57 : flq RX7 57 7 16 2 2 false true := ⟨RX7, TX7, tyX7, clk_7, by decide, rfl, tb1 207 rfl rfl, rfl, rfl, rfl, Or.inl ⟨_, rfl⟩⟩
theorem fl_X7_9 : flq RX7 9 7 16 3 3 false true := ⟨RX7, TX7, tyX7, clk_7, by decide, rfl, tb1 208 rfl rfl, rfl, rfl, rfl, Or.inr ⟨_, rfl⟩⟩
theorem fl_X0_38 : flq RX0 38 7 16 3 3 false true := ⟨RX7, TX7, tyX7, clk_7, by decide, rfl, tb1 209 rfl rfl, rfl, rfl, rfl, Or.inr ⟨_, rfl⟩⟩
theorem fl_X10_238 : flq RX10 238 7 16 3 3 false true := ⟨RX7, TX7, tyX7, clk_7, by decide, rfl, tb1 210 rfl rfl, rfl, rfl, rfl, Or.inr ⟨_, rfl⟩⟩
theorem fl_X7_15 : flq RX7 15 7 16 4 4 false true := ⟨RX7, TX7, tyX7, clk_7, by decide, rfl, tb1 211 rfl rfl, rfl, rfl, rfl, Or.inr ⟨_, rfl⟩⟩
theorem fl_X10_178 : flq RX10 178 7 16 4 4 false true := ⟨RX7, TX7, tyX7, clk_7, by decide, rfl, tb1 212 rfl rfl, rfl, rfl, rfl, Or.inr ⟨_, rfl⟩⟩
theorem fl_X7_18 : flq RX7 18 7 16 5 5 false true := ⟨RX7, TX7, tyX7, clk_7, by decide, rfl, tb1 213 rfl rfl, rfl, rfl, rfl, Or.inr ⟨_, rfl⟩⟩
theorem fl_X0_42 : flq RX0 42 7 16 5 5 false true := ⟨RX7, TX7, tyX7, clk_7, by decide, rfl, tb1 214 rfl rfl, rfl, rfl, rfl, Or.inr ⟨_, rfl⟩⟩
theorem fl_X10_259 : flq RX10 259 7 16 5 5 false true := ⟨RX7, TX7, tyX7, clk_7, by decide, rfl, tb1 215 rfl rfl, rfl, rfl, rfl, Or.inr ⟨_, rfl⟩⟩
theorem fl_X7_22 : flq RX7 22 7 16 6 6 false true := ⟨RX7, TX7, tyX7, clk_7, by decide, rfl, tb1 216 rfl rfl, rfl, rfl, rfl, Or.inr ⟨_, rfl⟩⟩
theorem fl_X0_32 : flq RX0 32 7 16 6 6 false true := ⟨RX7, TX7, tyX7, clk_7, by decide, rfl, tb1 217 rfl rfl, rfl, rfl, rfl, Or.inr ⟨_, rfl⟩⟩
theorem fl_X10_241 : flq RX10 241 7 16 6 6 false true := ⟨RX7, TX7, tyX7, clk_7, by decide, rfl, tb1 218 rfl rfl, rfl, rfl, rfl, Or.inr ⟨_, rfl⟩⟩
theorem fl_X7_25 : flq RX7 25 7 16 7 7 false true := ⟨RX7, TX7, tyX7, clk_7, by decide, rfl, tb1 219 rfl rfl, rfl, rfl, rfl, Or.inr ⟨_, rfl⟩⟩
theorem fl_X10_244 : flq RX10 244 7 16 7 7 false true := ⟨RX7, TX7, tyX7, clk_7, by decide, rfl, tb1 220 rfl rfl, rfl, rfl, rfl, Or.inr ⟨_, rfl⟩⟩
theorem fl_X7_28 : flq RX7 28 7 16 8 8 false true := ⟨RX7, TX7, tyX7, clk_7, by decide, rfl, tb1 221 rfl rfl, rfl, rfl, rfl, Or.inr ⟨_, rfl⟩⟩
theorem fl_X10_247 : flq RX10 247 7 16 8 8 false true := ⟨RX7, TX7, tyX7, clk_7, by decide, rfl, tb1 222 rfl rfl, rfl, rfl, rfl, Or.inr ⟨_, rfl⟩⟩
theorem fl_X7_31 : flq RX7 31 7 16 9 9 false true := ⟨RX7, TX7, tyX7, clk_7, by decide, rfl, tb1 223 rfl rfl, rfl, rfl, rfl, Or.inr ⟨_, rfl⟩⟩
theorem fl_X10_250 : flq RX10 250 7 16 9 9 false true := ⟨RX7, TX7, tyX7, clk_7, by decide, rfl, tb1 224 rfl rfl, rfl, rfl, rfl, Or.inr ⟨_, rfl⟩⟩
theorem fl_X7_34 : flq RX7 34 7 16 10 10 false true := ⟨RX7, TX7, tyX7, clk_7, by decide, rfl, tb1 225 rfl rfl, rfl, rfl, rfl, Or.inr ⟨_, rfl⟩⟩
theorem fl_X10_253 : flq RX10 253 7 16 10 10 false true := ⟨RX7, TX7, tyX7, clk_7, by decide, rfl, tb1 226 rfl rfl, rfl, rfl, rfl, Or.inr ⟨_, rfl⟩⟩
theorem fl_X7_37 : flq RX7 37 7 16 11 11 false true := ⟨RX7, TX7, tyX7, clk_7, by decide, rfl, tb1 227 rfl rfl, rfl, rfl, rfl, Or.inr ⟨_, rfl⟩⟩
theorem fl_X10_256 : flq RX10 256 7 16 11 11 false true := ⟨RX7, TX7, tyX7, clk_7, by decide, rfl, tb1 228 rfl rfl, rfl, rfl, rfl, Or.inr ⟨_, rfl⟩⟩
theorem fl_X7_40 : flq RX7 40 7 16 12 12 false true := ⟨RX7, TX7, tyX7, clk_7, by decide, rfl, tb1 229 rfl rfl, rfl, rfl, rfl, Or.inr ⟨_, rfl⟩⟩
theorem fl_X10_265 : flq RX10 265 7 16 12 12 false true := ⟨RX7, TX7, tyX7, clk_7, by decide, rfl, tb1 230 rfl rfl, rfl, rfl, rfl, Or.inr ⟨_, rfl⟩⟩
theorem fl_X7_43 : flq RX7 43 7 16 13 13 false true := ⟨RX7, TX7, tyX7, clk_7, by decide, rfl, tb1 231 rfl rfl, rfl, rfl, rfl, Or.inr ⟨_, rfl⟩⟩
theorem fl_X10_268 : flq RX10 268 7 16 13 13 false true := ⟨RX7, TX7, tyX7, clk_7, by decide, rfl, tb1 232 rfl rfl, rfl, rfl, rfl, Or.inr ⟨_, rfl⟩⟩
theorem fl_X7_46 : flq RX7 46 7 16 14 14 false true := ⟨RX7, TX7, tyX7, clk_7, by decide, rfl, tb1 233 rfl rfl, rfl, rfl, rfl, Or.inr ⟨_, rfl⟩⟩
theorem fl_X10_271 : flq RX10 271 7 16 14 14 false true := ⟨RX7, TX7, tyX7, clk_7, by decide, rfl, tb1 234 rfl rfl, rfl, rfl, rfl, Or.inr ⟨_, rfl⟩⟩
theorem fl_X7_90 : flq RX7 90 7 16 15 15 true false := ⟨RX7, TX7, tyX7, clk_7, by decide, rfl, tb1 235 rfl rfl, rfl, rfl, rfl, rfl⟩
theorem fl_X10_195 : flq RX10 195 7 16 15 15 true false := ⟨RX7, TX7, tyX7, clk_7, by decide, rfl, tb1 236 rfl rfl, rfl, rfl, rfl, rfl⟩
theorem fl_X0_9 : flq RX0 9 0 3 0 0 false true := ⟨RX0, TX0, tyX0, clk_0, by decide, rfl, tb2 36 rfl rfl, rfl, rfl, rfl, Or.inr ⟨_, rfl⟩⟩
theorem fl_X0_15 : flq RX0 15 0 3 1 1 false true := ⟨RX0, TX0, tyX0, clk_0, by decide, rfl, tb2 37 rfl rfl, rfl, rfl, rfl, Or.inr ⟨_, rfl⟩⟩
theorem fl_X0_18 : flq RX0 18 0 3 2 2 true false := ⟨RX0, TX0, tyX0, clk_0, by decide, rfl, tb2 38 rfl rfl, rfl, rfl, rfl, rfl⟩
theorem fl_X10_285 : flq RX10 285 0 3 2 2 true false := ⟨RX0, TX0, tyX0, clk_0, by decide, rfl, tb2 39 rfl rfl, rfl, rfl, rfl, rfl⟩
theorem fl_X9_9 : flq RX9 9 9 5 0 0 false true := ⟨RX9, TX9, tyX9, clk_9, by decide, rfl, tb2 53 rfl rfl, rfl, rfl, rfl, Or.inr ⟨_, rfl⟩⟩
theorem fl_X10_309 : flq RX10 309 9 5 0 0 false true := ⟨RX9, TX9, tyX9, clk_9, by decide, rfl, tb2 54 rfl rfl, rfl, rfl, rfl, Or.inr ⟨_, rfl⟩⟩
theorem fl_X9_13 : flq RX9 13 9 5 1 1 false true := ⟨RX9, TX9, tyX9, clk_9, by decide, rfl, tb2 55 rfl rfl, rfl, rfl, rfl, Or.inr ⟨_, rfl⟩⟩
theorem fl_X10_308 : flq RX10 308 9 5 1 1 false true := ⟨RX9, TX9, tyX9, clk_9, by decide, rfl, tb2 56 rfl rfl, rfl, rfl, rfl, Or.inr ⟨_, rfl⟩⟩
theorem fl_X9_16 : flq RX9 16 9 5 2 2 false true := ⟨RX9, TX9, tyX9, clk_9, by decide, rfl, tb2 57 rfl rfl, rfl, rfl, rfl, Or.inr ⟨_, rfl⟩⟩
theorem fl_X10_310 : flq RX10 310 9 5 2 2 false true := ⟨RX9, TX9, tyX9, clk_9, by decide, rfl, tb2 58 rfl rfl, rfl, rfl, rfl, Or.inr ⟨_, rfl⟩⟩
theorem fl_X9_19 : flq RX9 19 9 5 3 3 false true := ⟨RX9, TX9, tyX9, clk_9, by decide, rfl, tb2 59 rfl rfl, rfl, rfl, rfl, Or.inr ⟨_, rfl⟩⟩
theorem fl_X10_307 : flq RX10 307 9 5 3 3 false true := ⟨RX9, TX9, tyX9, clk_9, by decide, rfl, tb2 60 rfl rfl, rfl, rfl, rfl, Or.inr ⟨_, rfl⟩⟩
theorem fl_X9_22 : flq RX9 22 9 5 4 4 true false := ⟨RX9, TX9, tyX9, clk_9, by decide, rfl, tb2 61 rfl rfl, rfl, rfl, rfl, rfl⟩
theorem fl_X10_204 : flq RX10 204 9 5 4 4 true false := ⟨RX9, TX9, tyX9, clk_9, by decide, rfl, tb2 62 rfl rfl, rfl, rfl, rfl, rfl⟩
theorem fl_X6_11 : flq RX6 11 6 8 0 0 false true := ⟨RX6, TX6, tyX6, clk_6, by decide, rfl, tb2 81 rfl rfl, rfl, rfl, rfl, Or.inr ⟨_, rfl⟩⟩
theorem fl_X6_15 : flq RX6 15 6 8 1 1 false true := ⟨RX6, TX6, tyX6, clk_6, by decide, rfl, tb2 82 rfl rfl, rfl, rfl, rfl, Or.inr ⟨_, rfl⟩⟩
theorem fl_X6_18 : flq RX6 18 6 8 2 2 false true := ⟨RX6, TX6, tyX6, clk_6, by decide, rfl, tb2 83 rfl rfl, rfl, rfl, rfl, Or.inr ⟨_, rfl⟩⟩
theorem fl_X6_21 : flq RX6 21 6 8 3 3 false true := ⟨RX6, TX6, tyX6, clk_6, by decide, rfl, tb2 84 rfl rfl, rfl, rfl, rfl, Or.inr ⟨_, rfl⟩⟩
theorem fl_X6_24 : flq RX6 24 6 8 4 4 false true := ⟨RX6, TX6, tyX6, clk_6, by decide, rfl, tb2 85 rfl rfl, rfl, rfl, rfl, Or.inr ⟨_, rfl⟩⟩
theorem fl_X6_27 : flq RX6 27 6 8 5 5 false true := ⟨RX6, TX6, tyX6, clk_6, by decide, rfl, tb2 86 rfl rfl, rfl, rfl, rfl, Or.inr ⟨_, rfl⟩⟩
theorem fl_X6_30 : flq RX6 30 6 8 6 6 false true := ⟨RX6, TX6, tyX6, clk_6, by decide, rfl, tb2 87 rfl rfl, rfl, rfl, rfl, Or.inr ⟨_, rfl⟩⟩
theorem fl_X6_33 : flq RX6 33 6 8 7 7 true false := ⟨RX6, TX6, tyX6, clk_6, by decide, rfl, tb2 88 rfl rfl, rfl, rfl, rfl, rfl⟩
theorem fl_X10_199 : flq RX10 199 6 8 7 7 true false := ⟨RX6, TX6, tyX6, clk_6, by decide, rfl, tb2 89 rfl rfl, rfl, rfl, rfl, rfl⟩
theorem fl_X1_11 : flq RX1 11 1 10 0 0 false true := ⟨RX1, TX1, tyX1, clk_1, by decide, rfl, tb2 113 rfl rfl, rfl, rfl, rfl, Or.inr ⟨_, rfl⟩⟩
theorem fl_X1_15 : flq RX1 15 1 10 1 1 false true := ⟨RX1, TX1, tyX1, clk_1, by decide, rfl, tb2 114 rfl rfl, rfl, rfl, rfl, Or.inr ⟨_, rfl⟩⟩
theorem fl_X1_18 : flq RX1 18 1 10 2 2 false true := ⟨RX1, TX1, tyX1, clk_1, by decide, rfl, tb2 115 rfl rfl, rfl, rfl, rfl, Or.inr ⟨_, rfl⟩⟩
theorem fl_X1_21 : flq RX1 21 1 10 3 3 false true := ⟨RX1, TX1, tyX1, clk_1, by decide, rfl, tb2 116 rfl rfl, rfl, rfl, rfl, Or.inr ⟨_, rfl⟩⟩
theorem fl_X1_37 : flq RX1 37 1 10 4 4 true false := ⟨RX1, TX1, tyX1, clk_1, by decide, rfl, tb2 117 rfl rfl, rfl, rfl, rfl, rfl⟩
theorem fl_X10_200 : flq RX10 200 1 10 4 4 true false := ⟨RX1, TX1, tyX1, clk_1, by decide, rfl, tb2 118 rfl rfl, rfl, rfl, rfl, rfl⟩
theorem fl_X1_24 : flq RX1 24 1 10 5 5 false true := ⟨RX1, TX1, tyX1, clk_1, by decide, rfl, tb2 119 rfl rfl, rfl, rfl, rfl, Or.inr ⟨_, rfl⟩⟩
theorem fl_X10_337 : flq RX10 337 1 10 5 5 false true := ⟨RX1, TX1, tyX1, clk_1, by decide, rfl, tb2 120 rfl rfl, rfl, rfl, rfl, Or.inr ⟨_, rfl⟩⟩
theorem fl_X1_27 : flq RX1 27 1 10 6 6 false true := ⟨RX1, TX1, tyX1, clk_1, by decide, rfl, tb2 121 rfl rfl, rfl, rfl, rfl, Or.inr ⟨_, rfl⟩⟩
theorem fl_X10_351 : flq RX10 351 1 10 6 6 false true := ⟨RX1, TX1, tyX1, clk_1, by decide, rfl, tb2 122 rfl rfl, rfl, rfl, rfl, Or.inr ⟨_, rfl⟩⟩
theorem fl_X1_30 : flq RX1 30 1 10 7 7 false true := ⟨RX1, TX1, tyX1, clk_1, by decide, rfl, tb2 123 rfl rfl, rfl, rfl, rfl, Or.inr ⟨_, rfl⟩⟩
theorem fl_X10_346 : flq RX10 346 1 10 7 7 false true := ⟨RX1, TX1, tyX1, clk_1, by decide, rfl, tb2 124 rfl rfl, rfl, rfl, rfl, Or.inr ⟨_, rfl⟩⟩
theorem fl_X1_33 : flq RX1 33 1 10 8 8 false true := ⟨RX1, TX1, tyX1, clk_1, by decide, rfl, tb2 125 rfl rfl, rfl, rfl, rfl, Or.inr ⟨_, rfl⟩⟩
theorem fl_X10_343 : flq RX10 343 1 10 8 8 false true := ⟨RX1, TX1, tyX1, clk_1, by decide, rfl, tb2 126 rfl rfl, rfl, rfl, rfl, Or.inr ⟨_, rfl⟩⟩
theorem fl_X1_44 : flq RX1 44 1 10 9 9 true false := ⟨RX1, TX1, tyX1, clk_1, by decide, rfl, tb2 127 rfl rfl, rfl, rfl, rfl, rfl⟩
theorem fl_X10_354 : flq RX10 354 1 10 9 9 true false := ⟨RX1, TX1, tyX1, clk_1, by decide, rfl, tb2 128 rfl rfl, rfl, rfl, rfl, rfl⟩
theorem fl_X4_9 : flq RX4 9 4 7 0 0 false true := ⟨RX4, TX4, tyX4, clk_4, by decide, rfl, tb2 156 rfl rfl, rfl, rfl, rfl, Or.inr ⟨_, rfl⟩⟩
theorem fl_X4_15 : flq RX4 15 4 7 1 1 false true := ⟨RX4, TX4, tyX4, clk_4, by decide, rfl, tb2 157 rfl rfl, rfl, rfl, rfl, Or.inr ⟨_, rfl⟩⟩
theorem fl_X4_45 : flq RX4 45 4 7 2 2 true false := ⟨RX4, TX4, tyX4, clk_4, by decide, rfl, tb2 158 rfl rfl, rfl, rfl, rfl, rfl⟩
theorem fl_X4_18 : flq RX4 18 4 7 3 3 false true := ⟨RX4, TX4, tyX4, clk_4, by decide, rfl, tb2 159 rfl rfl, rfl, rfl, rfl, Or.inr ⟨_, rfl⟩⟩
theorem fl_X4_21 : flq RX4 21 4 7 4 4 false true := ⟨RX4, TX4, tyX4, clk_4, by decide, rfl, tb2 160 rfl rfl, rfl, rfl, rfl, Or.inr ⟨_, rfl⟩⟩
theorem fl_X4_24 : flq RX4 24 4 7 5 5 false true := ⟨RX4, TX4, tyX4, clk_4, by decide, rfl, tb2 161 rfl rfl, rfl, rfl, rfl, Or.inr ⟨_, rfl⟩⟩
theorem fl_X4_28 : flq RX4 28 4 7 6 6 false true := ⟨RX4, TX4, tyX4, clk_4, by decide, rfl, tb2 162 rfl rfl, rfl, rfl, rfl, Or.inr ⟨_, rfl⟩⟩
theorem fl_X10_7 : flq RX10 7 10 15 0 0 true false := ⟨RX10, TX10, tyX10, clk_10, by decide, rfl, tb2 179 rfl rfl, rfl, rfl, rfl, rfl⟩
theorem fl_X10_16 : flq RX10 16 10 15 1 1 false true := ⟨RX10, TX10, tyX10, clk_10, by decide, rfl, tb2 180 rfl rfl, rfl, rfl, rfl, Or.inl ⟨_, rfl⟩⟩
theorem fl_X10_23 : flq RX10 23 10 15 2 2 false true := ⟨RX10, TX10, tyX10, clk_10, by decide, rfl, tb2 181 rfl rfl, rfl, rfl, rfl, Or.inl ⟨_, rfl⟩⟩
theorem fl_X10_30 : flq RX10 30 10 15 3 3 false true := ⟨RX10, TX10, tyX10, clk_10, by decide, rfl, tb2 182 rfl rfl, rfl, rfl, rfl, Or.inl ⟨_, rfl⟩⟩
theorem fl_X10_37 : flq RX10 37 10 15 4 4 false true := ⟨RX10, TX10, tyX10, clk_10, by decide, rfl, tb2 183 rfl rfl, rfl, rfl, rfl, Or.inl ⟨_, rfl⟩⟩
theorem fl_X10_46 : flq RX10 46 10 15 5 5 false true := ⟨RX10, TX10, tyX10, clk_10, by decide, rfl, tb2 184 rfl rfl, rfl, rfl, rfl, Or.inl ⟨_, rfl⟩⟩
theorem fl_X10_50 : flq RX10 50 10 15 6 6 false true := ⟨RX10, TX10, tyX10, clk_10, by decide, rfl, tb2 185 rfl rfl, rfl, rfl, rfl, Or.inl ⟨_, rfl⟩⟩
theorem fl_X10_56 : flq RX10 56 10 15 7 7 false true := ⟨RX10, TX10, tyX10, clk_10, by decide, rfl, tb2 186 rfl rfl, rfl, rfl, rfl, Or.inl ⟨_, rfl⟩⟩
theorem fl_X10_63 : flq RX10 63 10 15 8 8 false true := ⟨RX10, TX10, tyX10, clk_10, by decide, rfl, tb2 187 rfl rfl, rfl, rfl, rfl, Or.inl ⟨_, rfl⟩⟩
theorem fl_X10_69 : flq RX10 69 10 15 9 9 false true := ⟨RX10, TX10, tyX10, clk_10, by decide, rfl, tb2 188 rfl rfl, rfl, rfl, rfl, Or.inr ⟨_, rfl⟩⟩
theorem fl_X10_75 : flq RX10 75 10 15 10 10 false true := ⟨RX10, TX10, tyX10, clk_10, by decide, rfl, tb2 189 rfl rfl, rfl, rfl, rfl, Or.inl ⟨_, rfl⟩⟩
theorem fl_X10_82 : flq RX10 82 10 15 11 11 false true := ⟨RX10, TX10, tyX10, clk_10, by decide, rfl, tb2 190 rfl rfl, rfl, rfl, rfl, Or.inl ⟨_, rfl⟩⟩
theorem fl_X10_86 : flq RX10 86 10 15 12 12 false true := ⟨RX10, TX10, tyX10, clk_10, by decide, rfl, tb2 191 rfl rfl, rfl, rfl, rfl, Or.inr ⟨_, rfl⟩⟩
theorem fl_X10_90 : flq RX10 90 10 15 13 13 false true := ⟨RX10, TX10, tyX10, clk_10, by decide, rfl, tb2 192 rfl rfl, rfl, rfl, rfl, Or.inr ⟨_, rfl⟩⟩
theorem fl_X10_96 : flq RX10 96 10 15 14 14 false true := ⟨RX10, TX10, tyX10, clk_10, by decide, rfl, tb2 193 rfl rfl, rfl, rfl, rfl, Or.inl ⟨_, rfl⟩⟩
theorem fl_X11_205 : flq RX11 205 11 79 0 0 true false := ⟨RX11, TX11, tyX11, clk_11, by decide, rfl, tb5 119 rfl rfl, rfl, rfl, rfl, rfl⟩
theorem fl_X11_208 : flq RX11 208 11 79 1 1 true false := ⟨RX11, TX11, tyX11, clk_11, by decide, rfl, tb5 120 rfl rfl, rfl, rfl, rfl, rfl⟩
theorem fl_X11_7 : flq RX11 7 11 79 2 2 false true := ⟨RX11, TX11, tyX11, clk_11, by decide, rfl, tb5 121 rfl rfl, rfl, rfl, rfl, Or.inr ⟨_, rfl⟩⟩
theorem fl_X11_13 : flq RX11 13 11 79 3 3 false true := ⟨RX11, TX11, tyX11, clk_11, by decide, rfl, tb5 122 rfl rfl, rfl, rfl, rfl, Or.inr ⟨_, rfl⟩⟩
theorem fl_X11_16 : flq RX11 16 11 79 4 4 false true := ⟨RX11, TX11, tyX11, clk_11, by decide, rfl, tb5 123 rfl rfl, rfl, rfl, rfl, Or.inr ⟨_, rfl⟩⟩
theorem fl_X11_19 : flq RX11 19 11 79 5 5 false true := ⟨RX11, TX11, tyX11, clk_11, by decide, rfl, tb5 124 rfl rfl, rfl, rfl, rfl, Or.inr ⟨_, rfl⟩⟩
theorem fl_X11_22 : flq RX11 22 11 79 6 6 false true := ⟨RX11, TX11, tyX11, clk_11, by decide, rfl, tb5 125 rfl rfl, rfl, rfl, rfl, Or.inr ⟨_, rfl⟩⟩
theorem fl_X11_25 : flq RX11 25 11 79 7 7 false true := ⟨RX11, TX11, tyX11, clk_11, by decide, rfl, tb5 126 rfl rfl, rfl, rfl, rfl, Or.inr ⟨_, rfl⟩⟩
theorem fl_X11_28 : flq RX11 28 11 79 8 8 false true := ⟨RX11, TX11, tyX11, clk_11, by decide, rfl, tb5 127 rfl rfl, rfl, rfl, rfl, Or.inr ⟨_, rfl⟩⟩
theorem fl_X11_227 : flq RX11 227 11 79 9 9 true false := ⟨RX11, TX11, tyX11, clk_11, by decide, rfl, tb5 128 rfl rfl, rfl, rfl, rfl, rfl⟩
theorem fl_X11_31 : flq RX11 31 11 79 10 10 false true := ⟨RX11, TX11, tyX11, clk_11, by decide, rfl, tb5 129 rfl rfl, rfl, rfl, rfl, Or.inr ⟨_, rfl⟩⟩
theorem fl_X11_34 : flq RX11 34 11 79 11 11 false true := ⟨RX11, TX11, tyX11, clk_11, by decide, rfl, tb5 130 rfl rfl, rfl, rfl, rfl, Or.inr ⟨_, rfl⟩⟩
theorem fl_X11_37 : flq RX11 37 11 79 12 12 false true := ⟨RX11, TX11, tyX11, clk_11, by decide, rfl, tb5 131 rfl rfl, rfl, rfl, rfl, Or.inr ⟨_, rfl⟩⟩
theorem fl_X11_40 : flq RX11 40 11 79 13 13 false true := ⟨RX11, TX11, tyX11, clk_11, by decide, rfl, tb5 132 rfl rfl, rfl, rfl, rfl, Or.inr ⟨_, rfl⟩⟩
theorem fl_X11_43 : flq RX11 43 11 79 14 14 false true := ⟨RX11, TX11, tyX11, clk_11, by decide, rfl, tb5 133 rfl rfl, rfl, rfl, rfl, Or.inr ⟨_, rfl⟩⟩
theorem fl_X11_46 : flq RX11 46 11 79 15 15 false true := ⟨RX11, TX11, tyX11, clk_11, by decide, rfl, tb5 134 rfl rfl, rfl, rfl, rfl, Or.inr ⟨_, rfl⟩⟩
theorem fl_X11_49 : flq RX11 49 11 79 16 16 false true := ⟨RX11, TX11, tyX11, clk_11, by decide, rfl, tb5 135 rfl rfl, rfl, rfl, rfl, Or.inr ⟨_, rfl⟩⟩
theorem fl_X11_52 : flq RX11 52 11 79 17 17 false true := ⟨RX11, TX11, tyX11, clk_11, by decide, rfl, tb5 136 rfl rfl, rfl, rfl, rfl, Or.inr ⟨_, rfl⟩⟩
theorem fl_X11_56 : flq RX11 56 11 79 18 18 false true := ⟨RX11, TX11, tyX11, clk_11, by decide, rfl, tb5 137 rfl rfl, rfl, rfl, rfl, Or.inr ⟨_, rfl⟩⟩
theorem fl_X11_59 : flq RX11 59 11 79 19 19 false true := ⟨RX11, TX11, tyX11, clk_11, by decide, rfl, tb5 138 rfl rfl, rfl, rfl, rfl, Or.inr ⟨_, rfl⟩⟩
theorem fl_X11_62 : flq RX11 62 11 79 20 20 false true := ⟨RX11, TX11, tyX11, clk_11, by decide, rfl, tb5 139 rfl rfl, rfl, rfl, rfl, Or.inr ⟨_, rfl⟩⟩
theorem fl_X11_255 : flq RX11 255 11 79 21 21 true false := ⟨RX11, TX11, tyX11, clk_11, by decide, rfl, tb5 140 rfl rfl, rfl, rfl, rfl, rfl⟩
theorem fl_X11_323 : flq RX11 323 11 79 22 22 true false := ⟨RX11, TX11, tyX11, clk_11, by decide, rfl, tb5 141 rfl rfl, rfl, rfl, rfl, rfl⟩
theorem fl_X11_65 : flq RX11 65 11 79 23 23 false true := ⟨RX11, TX11, tyX11, clk_11, by decide, rfl, tb5 142 rfl rfl, rfl, rfl, rfl, Or.inr ⟨_, rfl⟩⟩
theorem fl_X11_68 : flq RX11 68 11 79 24 24 false true := ⟨RX11, TX11, tyX11, clk_11, by decide, rfl, tb5 143 rfl rfl, rfl, rfl, rfl, Or.inr ⟨_, rfl⟩⟩
theorem fl_X11_71 : flq RX11 71 11 79 25 25 false true := ⟨RX11, TX11, tyX11, clk_11, by decide, rfl, tb5 144 rfl rfl, rfl, rfl, rfl, Or.inr ⟨_, rfl⟩⟩
theorem fl_X11_74 : flq RX11 74 11 79 26 26 false true := ⟨RX11, TX11, tyX11, clk_11, by decide, rfl, tb5 145 rfl rfl, rfl, rfl, rfl, Or.inr ⟨_, rfl⟩⟩
theorem fl_X11_77 : flq RX11 77 11 79 27 27 false true := ⟨RX11, TX11, tyX11, clk_11, by decide, rfl, tb5 146 rfl rfl, rfl, rfl, rfl, Or.inr ⟨_, rfl⟩⟩
theorem fl_X11_80 : flq RX11 80 11 79 28 28 false true := ⟨RX11, TX11, tyX11, clk_11, by decide, rfl, tb5 147 rfl rfl, rfl, rfl, rfl, Or.inr ⟨_, rfl⟩⟩
theorem fl_X11_264 : flq RX11 264 11 79 29 29 true false := ⟨RX11, TX11, tyX11, clk_11, by decide, rfl, tb5 148 rfl rfl, rfl, rfl, rfl, rfl⟩
theorem fl_X11_269 : flq RX11 269 11 79 30 30 true false := ⟨RX11, TX11, tyX11, clk_11, by decide, rfl, tb5 149 rfl rfl, rfl, rfl, rfl, rfl⟩
theorem fl_X11_272 : flq RX11 272 11 79 31 31 true false := ⟨RX11, TX11, tyX11, clk_11, by decide, rfl, tb5 150 rfl rfl, rfl, rfl, rfl, rfl⟩
theorem fl_X11_83 : flq RX11 83 11 79 32 32 true false := ⟨RX11, TX11, tyX11, clk_11, by decide, rfl, tb5 151 rfl rfl, rfl, rfl, rfl, rfl⟩
theorem fl_X11_279 : flq RX11 279 11 79 33 33 true false := ⟨RX11, TX11, tyX11, clk_11, by decide, rfl, tb5 152 rfl rfl, rfl, rfl, rfl, rfl⟩
theorem fl_X11_286 : flq RX11 286 11 79 34 34 true false := ⟨RX11, TX11, tyX11, clk_11, by decide, rfl, tb5 153 rfl rfl, rfl, rfl, rfl, rfl⟩
theorem fl_X11_87 : flq RX11 87 11 79 35 35 false true := ⟨RX11, TX11, tyX11, clk_11, by decide, rfl, tb5 154 rfl rfl, rfl, rfl, rfl, Or.inr ⟨_, rfl⟩⟩
theorem fl_X11_90 : flq RX11 90 11 79 36 36 false true := ⟨RX11, TX11, tyX11, clk_11, by decide, rfl, tb5 155 rfl rfl, rfl, rfl, rfl, Or.inr ⟨_, rfl⟩⟩
theorem fl_X11_93 : flq RX11 93 11 79 37 37 false true := ⟨RX11, TX11, tyX11, clk_11, by decide, rfl, tb5 156 rfl rfl, rfl, rfl, rfl, Or.inr ⟨_, rfl⟩⟩
theorem fl_X11_333 : flq RX11 333 11 79 38 38 true false := ⟨RX11, TX11, tyX11, clk_11, by decide, rfl, tb5 157 rfl rfl, rfl, rfl, rfl, rfl⟩
theorem fl_X11_336 : flq RX11 336 11 79 39 39 true false := ⟨RX11, TX11, tyX11, clk_11, by decide, rfl, tb5 158 rfl rfl, rfl, rfl, rfl, rfl⟩
theorem fl_X11_96 : flq RX11 96 11 79 40 40 false true := ⟨RX11, TX11, tyX11, clk_11, by decide, rfl, tb5 159 rfl rfl, rfl, rfl, rfl, Or.inr ⟨_, rfl⟩⟩
theorem fl_X11_99 : flq RX11 99 11 79 41 41 false true := ⟨RX11, TX11, tyX11, clk_11, by decide, rfl, tb5 160 rfl rfl, rfl, rfl, rfl, Or.inr ⟨_, rfl⟩⟩
theorem fl_X11_102 : flq RX11 102 11 79 42 42 false true := ⟨RX11, TX11, tyX11, clk_11, by decide, rfl, tb5 161 rfl rfl, rfl, rfl, rfl, Or.inr ⟨_, rfl⟩⟩
theorem fl_X11_105 : flq RX11 105 11 79 43 43 false true := ⟨RX11, TX11, tyX11, clk_11, by decide, rfl, tb5 162 rfl rfl, rfl, rfl, rfl, Or.inr ⟨_, rfl⟩⟩
theorem fl_X11_108 : flq RX11 108 11 79 44 44 false true := ⟨RX11, TX11, tyX11, clk_11, by decide, rfl, tb5 163 rfl rfl, rfl, rfl, rfl, Or.inr ⟨_, rfl⟩⟩
theorem fl_X11_111 : flq RX11 111 11 79 45 45 false true := ⟨RX11, TX11, tyX11, clk_11, by decide, rfl, tb5 164 rfl rfl, rfl, rfl, rfl, Or.inr ⟨_, rfl⟩⟩
theorem fl_X11_114 : flq RX11 114 11 79 46 46 false true := ⟨RX11, TX11, tyX11, clk_11, by decide, rfl, tb5 165 rfl rfl, rfl, rfl, rfl, Or.inr ⟨_, rfl⟩⟩
theorem fl_X11_117 : flq RX11 117 11 79 47 47 false true := ⟨RX11, TX11, tyX11, clk_11, by decide, rfl, tb5 166 rfl rfl, rfl, rfl, rfl, Or.inr ⟨_, rfl⟩⟩
theorem fl_X11_120 : flq RX11 120 11 79 48 48 false true := ⟨RX11, TX11, tyX11, clk_11, by decide, rfl, tb5 167 rfl rfl, rfl, rfl, rfl, Or.inr ⟨_, rfl⟩⟩
theorem fl_X11_123 : flq RX11 123 11 79 49 49 false true := ⟨RX11, TX11, tyX11, clk_11, by decide, rfl, tb5 168 rfl rfl, rfl, rfl, rfl, Or.inr ⟨_, rfl⟩⟩
theorem fl_X11_126 : flq RX11 126 11 79 50 50 false true := ⟨RX11, TX11, tyX11, clk_11, by decide, rfl, tb5 169 rfl rfl, rfl, rfl, rfl, Or.inr ⟨_, rfl⟩⟩
theorem fl_X11_407 : flq RX11 407 11 79 51 51 true false := ⟨RX11, TX11, tyX11, clk_11, by decide, rfl, tb5 170 rfl rfl, rfl, rfl, rfl, rfl⟩
theorem fl_X11_129 : flq RX11 129 11 79 52 52 false true := ⟨RX11, TX11, tyX11, clk_11, by decide, rfl, tb5 171 rfl rfl, rfl, rfl, rfl, Or.inr ⟨_, rfl⟩⟩
theorem fl_X11_132 : flq RX11 132 11 79 53 53 false true := ⟨RX11, TX11, tyX11, clk_11, by decide, rfl, tb5 172 rfl rfl, rfl, rfl, rfl, Or.inr ⟨_, rfl⟩⟩
theorem fl_X11_393 : flq RX11 393 11 79 54 54 true false := ⟨RX11, TX11, tyX11, clk_11, by decide, rfl, tb5 173 rfl rfl, rfl, rfl, rfl, rfl⟩
theorem fl_X11_135 : flq RX11 135 11 79 55 55 false true := ⟨RX11, TX11, tyX11, clk_11, by decide, rfl, tb5 174 rfl rfl, rfl, rfl, rfl, Or.inr ⟨_, rfl⟩⟩
theorem fl_X11_138 : flq RX11 138 11 79 56 56 false true := ⟨RX11, TX11, tyX11, clk_11, by decide, rfl, tb5 175 rfl rfl, rfl, rfl, rfl, Or.inr ⟨_, rfl⟩⟩
theorem fl_X11_141 : flq RX11 141 11 79 57 57 false true := ⟨RX11, TX11, tyX11, clk_11, by decide, rfl, tb5 176 rfl rfl, rfl, rfl, rfl, Or.inr ⟨_, rfl⟩⟩
theorem fl_X11_144 : flq RX11 144 11 79 58 58 false true := ⟨RX11, TX11, tyX11, clk_11, by decide, rfl, tb5 177 rfl rfl, rfl, rfl, rfl, Or.inr ⟨_, rfl⟩⟩
theorem fl_X11_147 : flq RX11 147 11 79 59 59 false true := ⟨RX11, TX11, tyX11, clk_11, by decide, rfl, tb5 178 rfl rfl, rfl, rfl, rfl, Or.inr ⟨_, rfl⟩⟩
theorem fl_X11_387 : flq RX11 387 11 79 60 60 true false := ⟨RX11, TX11, tyX11, clk_11, by decide, rfl, tb5 179 rfl rfl, rfl, rfl, rfl, rfl⟩
theorem fl_X11_150 : flq RX11 150 11 79 61 61 false true := ⟨RX11, TX11, tyX11, clk_11, by decide, rfl, tb5 180 rfl rfl, rfl, rfl, rfl, Or.inr ⟨_, rfl⟩⟩
theorem fl_X11_153 : flq RX11 153 11 79 62 62 false true := ⟨RX11, TX11, tyX11, clk_11, by decide, rfl, tb5 181 rfl rfl, rfl, rfl, rfl, Or.inr ⟨_, rfl⟩⟩
theorem fl_X11_390 : flq RX11 390 11 79 63 63 true false := ⟨RX11, TX11, tyX11, clk_11, by decide, rfl, tb5 182 rfl rfl, rfl, rfl, rfl, rfl⟩
theorem fl_X11_156 : flq RX11 156 11 79 64 64 false true := ⟨RX11, TX11, tyX11, clk_11, by decide, rfl, tb5 183 rfl rfl, rfl, rfl, rfl, Or.inr ⟨_, rfl⟩⟩
theorem fl_X11_159 : flq RX11 159 11 79 65 65 false true := ⟨RX11, TX11, tyX11, clk_11, by decide, rfl, tb5 184 rfl rfl, rfl, rfl, rfl, Or.inr ⟨_, rfl⟩⟩
theorem fl_X11_162 : flq RX11 162 11 79 66 66 false true := ⟨RX11, TX11, tyX11, clk_11, by decide, rfl, tb5 185 rfl rfl, rfl, rfl, rfl, Or.inr ⟨_, rfl⟩⟩
theorem fl_X11_165 : flq RX11 165 11 79 67 67 false true := ⟨RX11, TX11, tyX11, clk_11, by decide, rfl, tb5 186 rfl rfl, rfl, rfl, rfl, Or.inr ⟨_, rfl⟩⟩
theorem fl_X11_168 : flq RX11 168 11 79 68 68 false true := ⟨RX11, TX11, tyX11, clk_11, by decide, rfl, tb5 187 rfl rfl, rfl, rfl, rfl, Or.inr ⟨_, rfl⟩⟩
theorem fl_X11_171 : flq RX11 171 11 79 69 69 false true := ⟨RX11, TX11, tyX11, clk_11, by decide, rfl, tb5 188 rfl rfl, rfl, rfl, rfl, Or.inr ⟨_, rfl⟩⟩
theorem fl_X11_438 : flq RX11 438 11 79 70 70 true false := ⟨RX11, TX11, tyX11, clk_11, by decide, rfl, tb5 189 rfl rfl, rfl, rfl, rfl, rfl⟩
theorem fl_X11_174 : flq RX11 174 11 79 71 71 false true := ⟨RX11, TX11, tyX11, clk_11, by decide, rfl, tb5 190 rfl rfl, rfl, rfl, rfl, Or.inr ⟨_, rfl⟩⟩
theorem fl_X11_177 : flq RX11 177 11 79 72 72 false true := ⟨RX11, TX11, tyX11, clk_11, by decide, rfl, tb5 191 rfl rfl, rfl, rfl, rfl, Or.inr ⟨_, rfl⟩⟩
theorem fl_X11_180 : flq RX11 180 11 79 73 73 false true := ⟨RX11, TX11, tyX11, clk_11, by decide, rfl, tb5 192 rfl rfl, rfl, rfl, rfl, Or.inr ⟨_, rfl⟩⟩
theorem fl_X11_183 : flq RX11 183 11 79 74 74 false true := ⟨RX11, TX11, tyX11, clk_11, by decide, rfl, tb5 193 rfl rfl, rfl, rfl, rfl, Or.inr ⟨_, rfl⟩⟩
theorem fl_X11_453 : flq RX11 453 11 79 75 75 true false := ⟨RX11, TX11, tyX11, clk_11, by decide, rfl, tb5 194 rfl rfl, rfl, rfl, rfl, rfl⟩
theorem fl_X11_186 : flq RX11 186 11 79 76 76 false true := ⟨RX11, TX11, tyX11, clk_11, by decide, rfl, tb5 195 rfl rfl, rfl, rfl, rfl, Or.inr ⟨_, rfl⟩⟩
theorem fl_X11_189 : flq RX11 189 11 79 77 77 false true := ⟨RX11, TX11, tyX11, clk_11, by decide, rfl, tb5 196 rfl rfl, rfl, rfl, rfl, Or.inr ⟨_, rfl⟩⟩
theorem fl_X11_192 : flq RX11 192 11 79 78 78 false true := ⟨RX11, TX11, tyX11, clk_11, by decide, rfl, tb5 197 rfl rfl, rfl, rfl, rfl, Or.inr ⟨_, rfl⟩⟩
theorem sl_X10_127 : Cond.fieldLink RX10 127 "WharfPapers" "HAS_P" "[I" ∈ tbG := tb3 25 rfl rfl
theorem sl_X10_130 : Cond.fieldLink RX10 130 "WharfPapers" "LEAST_N" "[I" ∈ tbG := tb3 27 rfl rfl
theorem sl_X10_137 : Cond.fieldLink RX10 137 "WharfPapers" "MOST_N" "[I" ∈ tbG := tb3 42 rfl rfl
theorem sl_X8_65 : Cond.fieldLink RX8 65 "WharfPapers$Terms" "AT_FIRST" "[I" ∈ tbG := tb3 108 rfl rfl
theorem sl_J0_38 : Cond.fieldLink "java/lang/String" 38 "java/lang/String" "COMPACT_STRINGS" "Z" ∈ tbG := tb3 234 rfl rfl
theorem sl_J0_1053 : Cond.fieldLink "java/lang/String" 1053 "jdk/internal/util/Preconditions" "SIOOBE_FORMATTER" "Ljava/util/function/BiFunction;" ∈ tbG := tb4 10 rfl rfl
theorem sl_J2_44 : Cond.fieldLink "java/lang/StringUTF16" 44 "java/lang/StringUTF16" "$assertionsDisabled" "Z" ∈ tbG := tb4 28 rfl rfl
theorem sl_J2_59 : Cond.fieldLink "java/lang/StringUTF16" 59 "java/lang/StringUTF16" "HI_BYTE_SHIFT" "I" ∈ tbG := tb4 30 rfl rfl
theorem sl_J2_63 : Cond.fieldLink "java/lang/StringUTF16" 63 "java/lang/StringUTF16" "LO_BYTE_SHIFT" "I" ∈ tbG := tb4 32 rfl rfl
theorem sl_X5_72 : Cond.fieldLink RX5 72 "WharfPapers$Reader" "MOST_OF_NAME" "[I" ∈ tbG := tb4 42 rfl rfl
theorem sl_X4_71 : Cond.fieldLink RX4 71 "WharfPapers$Plan" "OF_A_FLOOR" "[I" ∈ tbG := tb5 81 rfl rfl
theorem sl_J0_9 : Cond.fieldLink "java/lang/String" 9 "java/lang/String" "value" "[B" ∈ tbG := tb7 229 rfl rfl
theorem sl_J0_15 : Cond.fieldLink "java/lang/String" 15 "java/lang/String" "coder" "B" ∈ tbG := tb7 230 rfl rfl
theorem ml_L_9 : Cond.methodLink "WharfPapersLaw" 9 M_X10_init.1 ∈ tbG := tb1 21 rfl rfl
theorem ml_X10_1 : Cond.methodLink RX10 1 Lib.objectInit ∈ tbG := tb1 24 rfl rfl
theorem ml_X10_15 : (RX10, 15, M_X3_init.1, "WharfPapers") ∈ nstq := nthq_mem (i := 0) rfl
theorem ml_X3_3 : Cond.methodLink RX3 3 Lib.objectInit ∈ tbG := tb1 32 rfl rfl
theorem ml_X10_22 : (RX10, 22, M_X2_init.1, "WharfPapers") ∈ nstq := nthq_mem (i := 1) rfl
theorem ml_X2_3 : Cond.methodLink RX2 3 Lib.objectInit ∈ tbG := tb1 69 rfl rfl
theorem ml_X10_29 : (RX10, 29, M_X8_init.1, "WharfPapers") ∈ nstq := nthq_mem (i := 2) rfl
theorem ml_X8_3 : Cond.methodLink RX8 3 Lib.objectInit ∈ tbG := tb1 127 rfl rfl
theorem ml_X10_36 : (RX10, 36, M_X5_init.1, "WharfPapers") ∈ nstq := nthq_mem (i := 3) rfl
theorem ml_X5_3 : Cond.methodLink RX5 3 Lib.objectInit ∈ tbG := tb1 164 rfl rfl
theorem ml_X10_43 : Cond.methodLink RX10 43 M_X7_init.1 ∈ tbG := tb1 201 rfl rfl
theorem ml_X7_3 : Cond.methodLink RX7 3 Lib.objectInit ∈ tbG := tb1 204 rfl rfl
theorem ml_X10_55 : (RX10, 55, M_X0_init.1, "WharfPapers") ∈ nstq := nthq_mem (i := 4) rfl
theorem ml_X0_3 : Cond.methodLink RX0 3 Lib.objectInit ∈ tbG := tb2 35 rfl rfl
theorem ml_X10_62 : (RX10, 62, M_X9_init.1, "WharfPapers") ∈ nstq := nthq_mem (i := 5) rfl
theorem ml_X9_1 : Cond.methodLink RX9 1 Lib.objectInit ∈ tbG := tb2 52 rfl rfl
theorem ml_X10_74 : (RX10, 74, M_X6_init.1, "WharfPapers") ∈ nstq := nthq_mem (i := 6) rfl
theorem ml_X6_3 : Cond.methodLink RX6 3 Lib.objectInit ∈ tbG := tb2 80 rfl rfl
theorem ml_X10_81 : (RX10, 81, M_X1_init.1, "WharfPapers") ∈ nstq := nthq_mem (i := 7) rfl
theorem ml_X1_3 : Cond.methodLink RX1 3 Lib.objectInit ∈ tbG := tb2 112 rfl rfl
theorem ml_X10_95 : (RX10, 95, M_X4_init.1, "WharfPapers") ∈ nstq := nthq_mem (i := 8) rfl
theorem ml_X4_3 : Cond.methodLink RX4 3 Lib.objectInit ∈ tbG := tb2 155 rfl rfl
theorem ml_L_13 : Cond.methodLink "WharfPapersLaw" 13 M_X10_go.1 ∈ tbG := tb2 225 rfl rfl
theorem ml_X10_100 : Cond.methodLink RX10 100 M_X10_within.1 ∈ tbG := tb2 229 rfl rfl
theorem ml_L_18 : Cond.methodLink "WharfPapersLaw" 18 M_X10_lot.1 ∈ tbG := tb2 232 rfl rfl
theorem ml_X10_104 : Cond.methodLink RX10 104 M_X10_isHouse.1 ∈ tbG := tb2 236 rfl rfl
theorem ml_X10_108 : Cond.methodLink RX10 108 M_X10_isFloor.1 ∈ tbG := tb2 239 rfl rfl
theorem ml_X10_111 : Cond.methodLink RX10 111 M_X10_isSort.1 ∈ tbG := tb3 2 rfl rfl
theorem ml_X10_117 : Cond.methodLink RX10 117 M_X3_add.1 ∈ tbG := tb3 5 rfl rfl
theorem ml_L_23 : Cond.methodLink "WharfPapersLaw" 23 M_X10_room.1 ∈ tbG := tb3 9 rfl rfl
theorem ml_L_28 : Cond.methodLink "WharfPapersLaw" 28 M_X10_move.1 ∈ tbG := tb3 13 rfl rfl
theorem ml_X10_121 : Cond.methodLink RX10 121 M_X3_has.1 ∈ tbG := tb3 17 rfl rfl
theorem ml_L_32 : Cond.methodLink "WharfPapersLaw" 32 M_X10_line.1 ∈ tbG := tb3 21 rfl rfl
theorem ml_X10_133 : Cond.methodLink RX10 133 M_X10_isTarget.1 ∈ tbG := tb3 29 rfl rfl
theorem ml_X10_144 : Cond.methodLink RX10 144 M_X2_has.1 ∈ tbG := tb3 33 rfl rfl
theorem ml_X10_232 : Cond.methodLink RX10 232 M_X2_isPaper.1 ∈ tbG := tb3 37 rfl rfl
theorem ml_X2_44 : Cond.methodLink RX2 44 M_X2_has.1 ∈ tbG := tb3 41 rfl rfl
theorem ml_X10_141 : Cond.methodLink RX10 141 M_X2_add.1 ∈ tbG := tb3 44 rfl rfl
theorem ml_L_37 : Cond.methodLink "WharfPapersLaw" 37 M_X10_told.1 ∈ tbG := tb3 48 rfl rfl
theorem ml_X10_166 : Cond.methodLink RX10 166 M_X2_know.1 ∈ tbG := tb3 52 rfl rfl
theorem ml_X10_174 : Cond.methodLink RX10 174 M_X7_tell.1 ∈ tbG := tb3 56 rfl rfl
theorem ml_X7_61 : Cond.methodLink RX7 61 M_X7_clear.1 ∈ tbG := tb3 60 rfl rfl
theorem ml_X7_64 : Cond.methodLink RX7 64 M_X2_know.1 ∈ tbG := tb3 64 rfl rfl
theorem ml_X7_77 : Cond.methodLink RX7 77 M_X2_isInBook.1 ∈ tbG := tb3 65 rfl rfl
theorem ml_X7_84 : Cond.methodLink RX7 84 M_X7_isDone.1 ∈ tbG := tb3 69 rfl rfl
theorem ml_X7_99 : Cond.methodLink RX7 99 M_X7_issue.1 ∈ tbG := tb3 73 rfl rfl
theorem ml_X7_136 : Cond.methodLink RX7 136 M_X7_make.1 ∈ tbG := tb3 77 rfl rfl
theorem ml_X7_140 : Cond.methodLink RX7 140 M_X7_overOf.1 ∈ tbG := tb3 81 rfl rfl
theorem ml_X7_144 : Cond.methodLink RX7 144 M_X7_thereOf.1 ∈ tbG := tb3 85 rfl rfl
theorem ml_X7_160 : Cond.methodLink RX7 160 M_J9_max_7cf53.1 ∈ tbG := tb3 89 rfl rfl
theorem ml_X7_103 : Cond.methodLink RX7 103 M_X7_pass.1 ∈ tbG := tb3 92 rfl rfl
theorem ml_X7_150 : Cond.methodLink RX7 150 M_X8_on.1 ∈ tbG := tb3 96 rfl rfl
theorem ml_X8_51 : Cond.methodLink RX8 51 M_X8_hold.1 ∈ tbG := tb3 100 rfl rfl
theorem ml_X8_62 : Cond.methodLink RX8 62 M_X8_strike.1 ∈ tbG := tb3 104 rfl rfl
theorem ml_X8_68 : Cond.methodLink RX8 68 M_X8_rule.1 ∈ tbG := tb3 110 rfl rfl
theorem ml_X7_106 : Cond.methodLink RX7 106 M_X7_divide.1 ∈ tbG := tb3 114 rfl rfl
theorem ml_X7_156 : Cond.methodLink RX7 156 M_X7_isBound.1 ∈ tbG := tb3 118 rfl rfl
theorem ml_X7_109 : Cond.methodLink RX7 109 M_X7_lend.1 ∈ tbG := tb3 122 rfl rfl
theorem ml_X7_112 : Cond.methodLink RX7 112 M_X7_repay.1 ∈ tbG := tb3 126 rfl rfl
theorem ml_X7_115 : Cond.methodLink RX7 115 M_X7_stop.1 ∈ tbG := tb3 130 rfl rfl
theorem ml_X7_118 : Cond.methodLink RX7 118 M_X7_free.1 ∈ tbG := tb3 134 rfl rfl
theorem ml_X7_121 : Cond.methodLink RX7 121 M_X7_handOut.1 ∈ tbG := tb3 138 rfl rfl
theorem ml_X7_124 : Cond.methodLink RX7 124 M_X7_burn.1 ∈ tbG := tb3 142 rfl rfl
theorem ml_X7_127 : Cond.methodLink RX7 127 M_X7_steal.1 ∈ tbG := tb3 146 rfl rfl
theorem ml_L_41 : Cond.methodLink "WharfPapersLaw" 41 M_X10_book.1 ∈ tbG := tb3 150 rfl rfl
theorem ml_X10_181 : Cond.methodLink RX10 181 M_X2_inBookAt.1 ∈ tbG := tb3 154 rfl rfl
theorem ml_X2_51 : Cond.methodLink RX2 51 M_X2_isInBook.1 ∈ tbG := tb3 158 rfl rfl
theorem ml_L_45 : Cond.methodLink "WharfPapersLaw" 45 M_X10_count.1 ∈ tbG := tb3 159 rfl rfl
theorem ml_X10_185 : Cond.methodLink RX10 185 M_X2_voidCount.1 ∈ tbG := tb3 163 rfl rfl
theorem ml_X10_189 : Cond.methodLink RX10 189 M_X7_vainCount.1 ∈ tbG := tb3 167 rfl rfl
theorem ml_X10_192 : Cond.methodLink RX10 192 M_X7_papersWithCasks.1 ∈ tbG := tb3 171 rfl rfl
theorem ml_L_51 : Cond.methodLink "WharfPapersLaw" 51 M_X10_feed.1 ∈ tbG := tb3 175 rfl rfl
theorem ml_X10_205 : Cond.methodLink RX10 205 M_X5_add.1 ∈ tbG := tb3 179 rfl rfl
theorem ml_L_56 : Cond.methodLink "WharfPapersLaw" 56 M_X10_term.1 ∈ tbG := tb3 183 rfl rfl
theorem ml_X10_207 : Cond.methodLink RX10 207 M_X10_isDay.1 ∈ tbG := tb3 187 rfl rfl
theorem ml_X10_210 : Cond.methodLink RX10 210 M_X5_read.1 ∈ tbG := tb3 190 rfl rfl
theorem ml_X5_37 : Cond.methodLink RX5 37 M_X5_skipBlanks.1 ∈ tbG := tb3 194 rfl rfl
theorem ml_X5_40 : Cond.methodLink RX5 40 M_X5_readClause.1 ∈ tbG := tb3 198 rfl rfl
theorem ml_X5_44 : Cond.methodLink RX5 44 M_X5_takeWord.1 ∈ tbG := tb3 202 rfl rfl
theorem ml_X5_82 : Cond.methodLink RX5 82 M_X5_spelling.1 ∈ tbG := tb3 206 rfl rfl
theorem ml_X5_86 : Cond.methodLink RX5 86 M_X5_isSpelled.1 ∈ tbG := tb3 222 rfl rfl
theorem ml_X5_90 : Cond.methodLink RX5 90 M_J0_length_8abf5.1 ∈ tbG := tb3 226 rfl rfl
theorem ml_J0_335 : Cond.methodLink "java/lang/String" 335 M_J0_coder_7d493.1 ∈ tbG := tb3 230 rfl rfl
theorem ml_X5_94 : Cond.methodLink RX5 94 M_J0_charAt_5068e.1 ∈ tbG := tb3 236 rfl rfl
theorem ml_J0_492 : Cond.methodLink "java/lang/String" 492 M_J0_isLatin1_aae02.1 ∈ tbG := tb4 0 rfl rfl
theorem ml_J0_495 : Cond.methodLink "java/lang/String" 495 M_J1_charAt_3b067.1 ∈ tbG := tb4 4 rfl rfl
theorem ml_J1_9 : Cond.methodLink "java/lang/StringLatin1" 9 M_J0_checkIndex_df160.1 ∈ tbG := tb4 7 rfl rfl
theorem ml_J0_1059 : Cond.methodLink "java/lang/String" 1059 M_J3_checkIndex_8e157.1 ∈ tbG := tb4 12 rfl rfl
theorem ml_J0_498 : Cond.methodLink "java/lang/String" 498 M_J2_charAt_3b067.1 ∈ tbG := tb4 15 rfl rfl
theorem ml_J2_67 : Cond.methodLink "java/lang/StringUTF16" 67 M_J2_checkIndex_2214a.1 ∈ tbG := tb4 18 rfl rfl
theorem ml_J2_48 : Cond.methodLink "java/lang/StringUTF16" 48 M_J2_length_9d52b.1 ∈ tbG := tb4 21 rfl rfl
theorem ml_J2_414 : Cond.methodLink "java/lang/StringUTF16" 414 M_J0_checkIndex_df160.1 ∈ tbG := tb4 24 rfl rfl
theorem ml_J2_71 : Cond.methodLink "java/lang/StringUTF16" 71 M_J2_getChar_3b067.1 ∈ tbG := tb4 25 rfl rfl
theorem ml_X5_51 : Cond.methodLink RX5 51 M_X5_fail.1 ∈ tbG := tb4 34 rfl rfl
theorem ml_X5_55 : Cond.methodLink RX5 55 M_X5_readLet.1 ∈ tbG := tb4 38 rfl rfl
theorem ml_X5_75 : Cond.methodLink RX5 75 M_X5_takeNumber.1 ∈ tbG := tb4 44 rfl rfl
theorem ml_X5_65 : Cond.methodLink RX5 65 M_X5_keep.1 ∈ tbG := tb4 48 rfl rfl
theorem ml_X5_78 : Cond.methodLink RX5 78 M_X5_takeIf.1 ∈ tbG := tb4 52 rfl rfl
theorem ml_X5_58 : Cond.methodLink RX5 58 M_X5_readDry.1 ∈ tbG := tb4 56 rfl rfl
theorem ml_X5_61 : Cond.methodLink RX5 61 M_X5_takeKeys.1 ∈ tbG := tb4 60 rfl rfl
theorem ml_X5_68 : Cond.methodLink RX5 68 M_X5_takeTerm.1 ∈ tbG := tb4 64 rfl rfl
theorem ml_X10_216 : Cond.methodLink RX10 216 M_X8_add.1 ∈ tbG := tb4 68 rfl rfl
theorem ml_L_60 : Cond.methodLink "WharfPapersLaw" 60 M_X10_fault.1 ∈ tbG := tb4 73 rfl rfl
theorem ml_L_65 : Cond.methodLink "WharfPapersLaw" 65 M_X10_force.1 ∈ tbG := tb4 77 rfl rfl
theorem ml_X10_222 : Cond.methodLink RX10 222 M_X8_on.1 ∈ tbG := tb4 81 rfl rfl
theorem ml_X10_226 : Cond.methodLink RX10 226 M_X8_keysOn.1 ∈ tbG := tb4 82 rfl rfl
theorem ml_X8_59 : Cond.methodLink RX8 59 M_X8_keyOn.1 ∈ tbG := tb4 86 rfl rfl
theorem ml_X8_55 : Cond.methodLink RX8 55 M_X8_on.1 ∈ tbG := tb4 90 rfl rfl
theorem ml_X10_229 : Cond.methodLink RX10 229 M_X8_keyOn.1 ∈ tbG := tb4 91 rfl rfl
theorem ml_L_69 : Cond.methodLink "WharfPapersLaw" 69 M_X10_paper.1 ∈ tbG := tb4 92 rfl rfl
theorem ml_X10_235 : Cond.methodLink RX10 235 M_X10_isAsked.1 ∈ tbG := tb4 96 rfl rfl
theorem ml_L_74 : Cond.methodLink "WharfPapersLaw" 74 M_X10_goods.1 ∈ tbG := tb4 100 rfl rfl
theorem ml_X10_262 : Cond.methodLink RX10 262 M_X7_thereOf.1 ∈ tbG := tb4 104 rfl rfl
theorem ml_X10_274 : Cond.methodLink RX10 274 M_X7_overOf.1 ∈ tbG := tb4 105 rfl rfl
theorem ml_L_78 : Cond.methodLink "WharfPapersLaw" 78 M_X10_share.1 ∈ tbG := tb4 106 rfl rfl
theorem ml_X10_277 : Cond.methodLink RX10 277 M_X10_shareAsTold.1 ∈ tbG := tb4 110 rfl rfl
theorem ml_X10_379 : Cond.methodLink RX10 379 M_X10_commonDivisor.1 ∈ tbG := tb4 114 rfl rfl
theorem ml_X10_313 : Cond.methodLink RX10 313 M_J9_max_7cf53.1 ∈ tbG := tb4 117 rfl rfl
theorem ml_L_82 : Cond.methodLink "WharfPapersLaw" 82 M_X10_doubt.1 ∈ tbG := tb4 118 rfl rfl
theorem ml_X10_281 : Cond.methodLink RX10 281 M_X0_find.1 ∈ tbG := tb4 122 rfl rfl
theorem ml_X0_22 : Cond.methodLink RX0 22 M_X7_overOf.1 ∈ tbG := tb4 126 rfl rfl
theorem ml_X0_28 : Cond.methodLink RX0 28 M_X0_isOf.1 ∈ tbG := tb4 127 rfl rfl
theorem ml_X0_45 : (RX0, 45, M_X10_within.1, "WharfPapers") ∈ nstq := nthq_mem (i := 9) rfl
theorem ml_X0_35 : Cond.methodLink RX0 35 M_X0_fewest.1 ∈ tbG := tb4 132 rfl rfl
theorem ml_X0_49 : Cond.methodLink RX0 49 M_J9_min_7cf53.1 ∈ tbG := tb4 136 rfl rfl
theorem ml_X10_286 : Cond.methodLink RX10 286 M_X0_at.1 ∈ tbG := tb4 139 rfl rfl
theorem ml_L_86 : Cond.methodLink "WharfPapersLaw" 86 M_X10_stock.1 ∈ tbG := tb4 143 rfl rfl
theorem ml_X10_289 : Cond.methodLink RX10 289 M_X7_casksOf.1 ∈ tbG := tb4 147 rfl rfl
theorem ml_L_91 : Cond.methodLink "WharfPapersLaw" 91 M_X10_news.1 ∈ tbG := tb4 151 rfl rfl
theorem ml_X10_293 : Cond.methodLink RX10 293 M_X7_unlike.1 ∈ tbG := tb4 155 rfl rfl
theorem ml_X7_168 : Cond.methodLink RX7 168 M_X7_isHadOtherwise.1 ∈ tbG := tb4 159 rfl rfl
theorem ml_L_95 : Cond.methodLink "WharfPapersLaw" 95 M_X10_rent.1 ∈ tbG := tb4 163 rfl rfl
theorem ml_X10_297 : Cond.methodLink RX10 297 M_X10_rentAsTold.1 ∈ tbG := tb4 167 rfl rfl
theorem ml_L_99 : Cond.methodLink "WharfPapersLaw" 99 M_X10_weight.1 ∈ tbG := tb4 171 rfl rfl
theorem ml_X10_300 : Cond.methodLink RX10 300 M_X10_caskWeight.1 ∈ tbG := tb4 175 rfl rfl
theorem ml_L_103 : Cond.methodLink "WharfPapersLaw" 103 M_X10_weigh.1 ∈ tbG := tb4 179 rfl rfl
theorem ml_X10_304 : Cond.methodLink RX10 304 M_X9_add.1 ∈ tbG := tb4 184 rfl rfl
theorem ml_L_107 : Cond.methodLink "WharfPapersLaw" 107 M_X10_loss.1 ∈ tbG := tb4 188 rfl rfl
theorem ml_L_111 : Cond.methodLink "WharfPapersLaw" 111 M_X10_unpaid.1 ∈ tbG := tb4 193 rfl rfl
theorem ml_L_115 : Cond.methodLink "WharfPapersLaw" 115 M_X10_money.1 ∈ tbG := tb4 197 rfl rfl
theorem ml_X10_321 : Cond.methodLink RX10 321 M_X10_wanted.1 ∈ tbG := tb4 202 rfl rfl
theorem ml_X10_389 : Cond.methodLink RX10 389 M_X7_lentOn.1 ∈ tbG := tb4 206 rfl rfl
theorem ml_X10_392 : Cond.methodLink RX10 392 M_X10_unpaidFor.1 ∈ tbG := tb4 210 rfl rfl
theorem ml_X10_324 : Cond.methodLink RX10 324 M_J9_min_7cf53.1 ∈ tbG := tb4 214 rfl rfl
theorem ml_L_119 : Cond.methodLink "WharfPapersLaw" 119 M_X10_sale.1 ∈ tbG := tb4 215 rfl rfl
theorem ml_X10_327 : Cond.methodLink RX10 327 M_X6_add.1 ∈ tbG := tb4 219 rfl rfl
theorem ml_L_123 : Cond.methodLink "WharfPapersLaw" 123 M_X10_net.1 ∈ tbG := tb4 223 rfl rfl
theorem ml_X10_328 : Cond.methodLink RX10 328 M_X6_netOf.1 ∈ tbG := tb4 227 rfl rfl
theorem ml_L_127 : Cond.methodLink "WharfPapersLaw" 127 M_X10_handings.1 ∈ tbG := tb4 231 rfl rfl
theorem ml_X10_331 : Cond.methodLink RX10 331 M_X6_fewestHandings.1 ∈ tbG := tb4 235 rfl rfl
theorem ml_X6_37 : Cond.methodLink RX6 37 M_X6_netOf.1 ∈ tbG := tb4 239 rfl rfl
theorem ml_X6_41 : Cond.methodLink RX6 41 M_X6_mostGroups.1 ∈ tbG := tb5 0 rfl rfl
theorem ml_X6_45 : Cond.methodLink RX6 45 M_J9_max_7cf53.1 ∈ tbG := tb5 4 rfl rfl
theorem ml_L_131 : Cond.methodLink "WharfPapersLaw" 131 M_X10_due.1 ∈ tbG := tb5 5 rfl rfl
theorem ml_X10_334 : Cond.methodLink RX10 334 M_X1_add.1 ∈ tbG := tb5 9 rfl rfl
theorem ml_L_135 : Cond.methodLink "WharfPapersLaw" 135 M_X10_coin.1 ∈ tbG := tb5 13 rfl rfl
theorem ml_L_139 : Cond.methodLink "WharfPapersLaw" 139 M_X10_fails.1 ∈ tbG := tb5 17 rfl rfl
theorem ml_X10_340 : Cond.methodLink RX10 340 M_X1_settle.1 ∈ tbG := tb5 21 rfl rfl
theorem ml_X1_41 : Cond.methodLink RX1 41 M_X1_begin.1 ∈ tbG := tb5 25 rfl rfl
theorem ml_X1_51 : Cond.methodLink RX1 51 M_X1_receive.1 ∈ tbG := tb5 29 rfl rfl
theorem ml_X1_47 : Cond.methodLink RX1 47 M_X1_isRoundChanging.1 ∈ tbG := tb5 33 rfl rfl
theorem ml_X1_54 : Cond.methodLink RX1 54 M_X1_partOf.1 ∈ tbG := tb5 37 rfl rfl
theorem ml_X10_348 : Cond.methodLink RX10 348 M_X1_givenBy.1 ∈ tbG := tb5 41 rfl rfl
theorem ml_X10_357 : Cond.methodLink RX10 357 M_X1_failedCount.1 ∈ tbG := tb5 45 rfl rfl
theorem ml_L_143 : Cond.methodLink "WharfPapersLaw" 143 M_X10_part.1 ∈ tbG := tb5 49 rfl rfl
theorem ml_L_148 : Cond.methodLink "WharfPapersLaw" 148 M_X10_plan.1 ∈ tbG := tb5 53 rfl rfl
theorem ml_X10_360 : Cond.methodLink RX10 360 M_J6_bitCount_0f7a4.1 ∈ tbG := tb5 57 rfl rfl
theorem ml_X10_365 : Cond.methodLink RX10 365 M_X4_lay.1 ∈ tbG := tb5 63 rfl rfl
theorem ml_X4_37 : Cond.methodLink RX4 37 M_X4_choose.1 ∈ tbG := tb5 67 rfl rfl
theorem ml_X4_41 : Cond.methodLink RX4 41 M_X4_gather.1 ∈ tbG := tb5 71 rfl rfl
theorem ml_X4_51 : Cond.methodLink RX4 51 M_X7_thereOf.1 ∈ tbG := tb5 75 rfl rfl
theorem ml_X4_60 : Cond.methodLink RX4 60 M_X4_priceOn.1 ∈ tbG := tb5 77 rfl rfl
theorem ml_X4_64 : Cond.methodLink RX4 64 M_X4_shut.1 ∈ tbG := tb5 84 rfl rfl
theorem ml_X4_76 : Cond.methodLink RX4 76 M_X4_isParted.1 ∈ tbG := tb5 88 rfl rfl
theorem ml_X4_68 : Cond.methodLink RX4 68 M_X4_openFloor.1 ∈ tbG := tb5 92 rfl rfl
theorem ml_X4_80 : Cond.methodLink RX4 80 M_J6_bitCount_0f7a4.1 ∈ tbG := tb5 96 rfl rfl
theorem ml_X4_85 : Cond.methodLink RX4 85 M_J9_min_f86c9.1 ∈ tbG := tb5 97 rfl rfl
theorem ml_X10_369 : Cond.methodLink RX10 369 M_X4_isFound.1 ∈ tbG := tb5 100 rfl rfl
theorem ml_X10_373 : Cond.methodLink RX10 373 M_X4_moved.1 ∈ tbG := tb5 104 rfl rfl
theorem ml_X10_376 : Cond.methodLink RX10 376 M_X4_floorOf.1 ∈ tbG := tb5 108 rfl rfl
theorem ml_L_12 : Cond.methodLink "WharfPapersLaw" 12 M_X11_init.1 ∈ tbG := tb5 115 rfl rfl
theorem ml_X11_1 : Cond.methodLink RX11 1 Lib.objectInit ∈ tbG := tb5 118 rfl rfl
theorem ml_L_17 : Cond.methodLink "WharfPapersLaw" 17 M_X11_go.1 ∈ tbG := tb6 117 rfl rfl
theorem ml_X11_197 : Cond.methodLink RX11 197 M_X11_in.1 ∈ tbG := tb6 122 rfl rfl
theorem ml_L_22 : Cond.methodLink "WharfPapersLaw" 22 M_X11_lot.1 ∈ tbG := tb6 125 rfl rfl
theorem ml_X11_213 : Cond.methodLink RX11 213 M_X11_isHouse.1 ∈ tbG := tb6 129 rfl rfl
theorem ml_X11_217 : Cond.methodLink RX11 217 M_X11_isFloor.1 ∈ tbG := tb6 133 rfl rfl
theorem ml_L_27 : Cond.methodLink "WharfPapersLaw" 27 M_X11_room.1 ∈ tbG := tb6 139 rfl rfl
theorem ml_L_31 : Cond.methodLink "WharfPapersLaw" 31 M_X11_move.1 ∈ tbG := tb6 143 rfl rfl
theorem ml_X11_224 : Cond.methodLink RX11 224 M_X11_noLot.1 ∈ tbG := tb6 147 rfl rfl
theorem ml_L_36 : Cond.methodLink "WharfPapersLaw" 36 M_X11_line.1 ∈ tbG := tb6 151 rfl rfl
theorem ml_X11_238 : Cond.methodLink RX11 238 M_X11_noTarget.1 ∈ tbG := tb6 156 rfl rfl
theorem ml_X11_230 : Cond.methodLink RX11 230 M_X11_isOfLot.1 ∈ tbG := tb6 160 rfl rfl
theorem ml_X11_233 : Cond.methodLink RX11 233 M_X11_isPaper.1 ∈ tbG := tb6 163 rfl rfl
theorem ml_X11_242 : Cond.methodLink RX11 242 M_X11_hasP.1 ∈ tbG := tb6 167 rfl rfl
theorem ml_X11_245 : Cond.methodLink RX11 245 M_X11_isKnown.1 ∈ tbG := tb6 170 rfl rfl
theorem ml_X11_248 : Cond.methodLink RX11 248 M_X11_hasMany.1 ∈ tbG := tb6 174 rfl rfl
theorem ml_X11_251 : Cond.methodLink RX11 251 M_X11_mostOf.1 ∈ tbG := tb6 177 rfl rfl
theorem ml_L_44 : Cond.methodLink "WharfPapersLaw" 44 M_X11_book.1 ∈ tbG := tb6 180 rfl rfl
theorem ml_X11_258 : Cond.methodLink RX11 258 M_X11_findBook.1 ∈ tbG := tb6 184 rfl rfl
theorem ml_L_55 : Cond.methodLink "WharfPapersLaw" 55 M_X11_feed.1 ∈ tbG := tb6 188 rfl rfl
theorem ml_L_59 : Cond.methodLink "WharfPapersLaw" 59 M_X11_term.1 ∈ tbG := tb6 194 rfl rfl
theorem ml_X11_326 : Cond.methodLink RX11 326 M_X11_isDay.1 ∈ tbG := tb6 198 rfl rfl
theorem ml_X11_275 : Cond.methodLink RX11 275 M_X11_here.1 ∈ tbG := tb6 202 rfl rfl
theorem ml_X11_301 : Cond.methodLink RX11 301 M_X11_takeWord.1 ∈ tbG := tb6 206 rfl rfl
theorem ml_X11_297 : Cond.methodLink RX11 297 M_X11_isWord.1 ∈ tbG := tb6 212 rfl rfl
theorem ml_X11_293 : Cond.methodLink RX11 293 M_X11_want.1 ∈ tbG := tb6 216 rfl rfl
theorem ml_X11_329 : Cond.methodLink RX11 329 M_X11_readClause.1 ∈ tbG := tb6 220 rfl rfl
theorem ml_X11_311 : Cond.methodLink RX11 311 M_X11_nameOf.1 ∈ tbG := tb6 224 rfl rfl
theorem ml_X11_314 : Cond.methodLink RX11 314 M_X11_mostOfName.1 ∈ tbG := tb6 228 rfl rfl
theorem ml_X11_317 : Cond.methodLink RX11 317 M_X11_takeNumber.1 ∈ tbG := tb6 231 rfl rfl
theorem ml_X11_320 : Cond.methodLink RX11 320 M_X11_readRank.1 ∈ tbG := tb6 237 rfl rfl
theorem ml_X11_304 : Cond.methodLink RX11 304 M_X11_keyOf.1 ∈ tbG := tb7 1 rfl rfl
theorem ml_X11_307 : Cond.methodLink RX11 307 M_X11_one.1 ∈ tbG := tb7 5 rfl rfl
theorem ml_L_64 : Cond.methodLink "WharfPapersLaw" 64 M_X11_fault.1 ∈ tbG := tb7 8 rfl rfl
theorem ml_L_68 : Cond.methodLink "WharfPapersLaw" 68 M_X11_force.1 ∈ tbG := tb7 12 rfl rfl
theorem ml_X11_341 : Cond.methodLink RX11 341 M_X11_findTerms.1 ∈ tbG := tb7 17 rfl rfl
theorem ml_L_40 : Cond.methodLink "WharfPapersLaw" 40 M_X11_told.1 ∈ tbG := tb7 21 rfl rfl
theorem ml_X11_378 : Cond.methodLink RX11 378 M_X11_tell.1 ∈ tbG := tb7 25 rfl rfl
theorem ml_X11_375 : Cond.methodLink RX11 375 M_X11_befall.1 ∈ tbG := tb7 29 rfl rfl
theorem ml_X11_354 : Cond.methodLink RX11 354 M_X11_issue.1 ∈ tbG := tb7 33 rfl rfl
theorem ml_X11_344 : Cond.methodLink RX11 344 M_X11_lay.1 ∈ tbG := tb7 37 rfl rfl
theorem ml_X11_351 : Cond.methodLink RX11 351 M_X11_onPapers.1 ∈ tbG := tb7 41 rfl rfl
theorem ml_X11_348 : Cond.methodLink RX11 348 M_X11_there.1 ∈ tbG := tb7 45 rfl rfl
theorem ml_X11_357 : Cond.methodLink RX11 357 M_X11_burn.1 ∈ tbG := tb7 49 rfl rfl
theorem ml_X11_360 : Cond.methodLink RX11 360 M_X11_pass.1 ∈ tbG := tb7 53 rfl rfl
theorem ml_X11_363 : Cond.methodLink RX11 363 M_X11_partFrom.1 ∈ tbG := tb7 57 rfl rfl
theorem ml_X11_366 : Cond.methodLink RX11 366 M_X11_lend.1 ∈ tbG := tb7 61 rfl rfl
theorem ml_X11_369 : Cond.methodLink RX11 369 M_X11_handOut.1 ∈ tbG := tb7 65 rfl rfl
theorem ml_X11_372 : Cond.methodLink RX11 372 M_X11_change.1 ∈ tbG := tb7 69 rfl rfl
theorem ml_L_48 : Cond.methodLink "WharfPapersLaw" 48 M_X11_count.1 ∈ tbG := tb7 73 rfl rfl
theorem ml_X11_381 : Cond.methodLink RX11 381 M_X11_linesNow.1 ∈ tbG := tb7 77 rfl rfl
theorem ml_X11_384 : Cond.methodLink RX11 384 M_X11_papersToday.1 ∈ tbG := tb7 81 rfl rfl
theorem ml_L_73 : Cond.methodLink "WharfPapersLaw" 73 M_X11_paper.1 ∈ tbG := tb7 85 rfl rfl
theorem ml_X11_396 : Cond.methodLink RX11 396 M_X11_whyNot.1 ∈ tbG := tb7 89 rfl rfl
theorem ml_L_77 : Cond.methodLink "WharfPapersLaw" 77 M_X11_goods.1 ∈ tbG := tb7 93 rfl rfl
theorem ml_X11_400 : Cond.methodLink RX11 400 M_X11_over.1 ∈ tbG := tb7 97 rfl rfl
theorem ml_L_81 : Cond.methodLink "WharfPapersLaw" 81 M_X11_share.1 ∈ tbG := tb7 101 rfl rfl
theorem ml_X11_403 : Cond.methodLink RX11 403 M_X11_gcd.1 ∈ tbG := tb7 105 rfl rfl
theorem ml_L_85 : Cond.methodLink "WharfPapersLaw" 85 M_X11_doubt.1 ∈ tbG := tb7 108 rfl rfl
theorem ml_X11_410 : Cond.methodLink RX11 410 M_X11_fewestFrom.1 ∈ tbG := tb7 112 rfl rfl
theorem ml_L_90 : Cond.methodLink "WharfPapersLaw" 90 M_X11_stock.1 ∈ tbG := tb7 116 rfl rfl
theorem ml_L_94 : Cond.methodLink "WharfPapersLaw" 94 M_X11_news.1 ∈ tbG := tb7 120 rfl rfl
theorem ml_L_98 : Cond.methodLink "WharfPapersLaw" 98 M_X11_rent.1 ∈ tbG := tb7 124 rfl rfl
theorem ml_X11_413 : Cond.methodLink RX11 413 M_X11_rentOf.1 ∈ tbG := tb7 128 rfl rfl
theorem ml_L_102 : Cond.methodLink "WharfPapersLaw" 102 M_X11_weight.1 ∈ tbG := tb7 132 rfl rfl
theorem ml_X11_416 : Cond.methodLink RX11 416 M_X11_weightOn.1 ∈ tbG := tb7 136 rfl rfl
theorem ml_L_106 : Cond.methodLink "WharfPapersLaw" 106 M_X11_weigh.1 ∈ tbG := tb7 140 rfl rfl
theorem ml_L_110 : Cond.methodLink "WharfPapersLaw" 110 M_X11_loss.1 ∈ tbG := tb7 145 rfl rfl
theorem ml_L_114 : Cond.methodLink "WharfPapersLaw" 114 M_X11_unpaid.1 ∈ tbG := tb7 151 rfl rfl
theorem ml_L_118 : Cond.methodLink "WharfPapersLaw" 118 M_X11_money.1 ∈ tbG := tb7 156 rfl rfl
theorem ml_X11_432 : Cond.methodLink RX11 432 M_X11_wants.1 ∈ tbG := tb7 162 rfl rfl
theorem ml_L_122 : Cond.methodLink "WharfPapersLaw" 122 M_X11_sale.1 ∈ tbG := tb7 167 rfl rfl
theorem ml_L_126 : Cond.methodLink "WharfPapersLaw" 126 M_X11_net.1 ∈ tbG := tb7 172 rfl rfl
theorem ml_L_130 : Cond.methodLink "WharfPapersLaw" 130 M_X11_handings.1 ∈ tbG := tb7 176 rfl rfl
theorem ml_L_134 : Cond.methodLink "WharfPapersLaw" 134 M_X11_due.1 ∈ tbG := tb7 180 rfl rfl
theorem ml_L_138 : Cond.methodLink "WharfPapersLaw" 138 M_X11_coin.1 ∈ tbG := tb7 184 rfl rfl
theorem ml_L_142 : Cond.methodLink "WharfPapersLaw" 142 M_X11_fails.1 ∈ tbG := tb7 188 rfl rfl
theorem ml_X11_447 : Cond.methodLink RX11 447 M_X11_goRounds.1 ∈ tbG := tb7 192 rfl rfl
theorem ml_X11_441 : Cond.methodLink RX11 441 M_X11_owes.1 ∈ tbG := tb7 196 rfl rfl
theorem ml_X11_444 : Cond.methodLink RX11 444 M_X11_has.1 ∈ tbG := tb7 200 rfl rfl
theorem ml_X11_450 : Cond.methodLink RX11 450 M_X11_gives.1 ∈ tbG := tb7 204 rfl rfl
theorem ml_L_147 : Cond.methodLink "WharfPapersLaw" 147 M_X11_part.1 ∈ tbG := tb7 208 rfl rfl
theorem ml_L_151 : Cond.methodLink "WharfPapersLaw" 151 M_X11_plan.1 ∈ tbG := tb7 212 rfl rfl
theorem ml_X11_456 : Cond.methodLink RX11 456 M_X11_put.1 ∈ tbG := tb7 216 rfl rfl
theorem ml_X11_463 : Cond.methodLink RX11 463 M_X11_layAll.1 ∈ tbG := tb7 220 rfl rfl
theorem ml_X11_460 : Cond.methodLink RX11 460 M_X11_mayLie.1 ∈ tbG := tb7 224 rfl rfl
theorem mi_X0_init : miq M_X0_init 0 := ⟨⟨tb2 34 rfl rfl, tb1 7 rfl rfl, by decide, by decide, by decide +kernel⟩, tb2 33 rfl rfl, rfl, rfl⟩
theorem mv_X0_find : mvq M_X0_find 3 := ⟨⟨tb4 125 rfl rfl, tb1 7 rfl rfl, by decide, by decide, by decide +kernel⟩, tb4 123 rfl rfl, tb4 124 rfl rfl⟩
theorem mv_X0_isOf : mvq M_X0_isOf 3 := ⟨⟨tb4 130 rfl rfl, tb1 7 rfl rfl, by decide, by decide, by decide +kernel⟩, tb4 129 rfl rfl, tbP (q := (M_X0_isOf.1, 3)) (nthq_mem (i := 32) rfl)⟩
theorem mv_X0_fewest : mvq M_X0_fewest 1 := ⟨⟨tb4 135 rfl rfl, tb1 7 rfl rfl, by decide, by decide, by decide +kernel⟩, tb4 134 rfl rfl, tbP (q := (M_X0_fewest.1, 3)) (nthq_mem (i := 33) rfl)⟩
theorem mv_X0_at : mvq M_X0_at 1 := ⟨⟨tb4 142 rfl rfl, tb1 7 rfl rfl, by decide, by decide, by decide +kernel⟩, tb4 140 rfl rfl, tb4 141 rfl rfl⟩
theorem mi_X1_init : miq M_X1_init 0 := ⟨⟨tb2 111 rfl rfl, tb1 10 rfl rfl, by decide, by decide, by decide +kernel⟩, tb2 110 rfl rfl, rfl, rfl⟩
theorem mv_X1_add : mvq M_X1_add 3 := ⟨⟨tb5 12 rfl rfl, tb1 10 rfl rfl, by decide, by decide, by decide +kernel⟩, tb5 10 rfl rfl, tb5 11 rfl rfl⟩
theorem mv_X1_settle : mvq M_X1_settle 0 := ⟨⟨tb5 24 rfl rfl, tb1 10 rfl rfl, by decide, by decide, by decide +kernel⟩, tb5 22 rfl rfl, tb5 23 rfl rfl⟩
theorem mv_X1_begin : mvq M_X1_begin 0 := ⟨⟨tb5 28 rfl rfl, tb1 10 rfl rfl, by decide, by decide, by decide +kernel⟩, tb5 27 rfl rfl, tbP (q := (M_X1_begin.1, 10)) (nthq_mem (i := 40) rfl)⟩
theorem mv_X1_isRoundChanging : mvq M_X1_isRoundChanging 0 := ⟨⟨tb5 36 rfl rfl, tb1 10 rfl rfl, by decide, by decide, by decide +kernel⟩, tb5 35 rfl rfl, tbP (q := (M_X1_isRoundChanging.1, 10)) (nthq_mem (i := 42) rfl)⟩
theorem mv_X1_partOf : mvq M_X1_partOf 2 := ⟨⟨tb5 40 rfl rfl, tb1 10 rfl rfl, by decide, by decide, by decide +kernel⟩, tb5 39 rfl rfl, tbP (q := (M_X1_partOf.1, 10)) (nthq_mem (i := 43) rfl)⟩
theorem mv_X1_receive : mvq M_X1_receive 0 := ⟨⟨tb5 32 rfl rfl, tb1 10 rfl rfl, by decide, by decide, by decide +kernel⟩, tb5 31 rfl rfl, tbP (q := (M_X1_receive.1, 10)) (nthq_mem (i := 41) rfl)⟩
theorem mv_X1_givenBy : mvq M_X1_givenBy 1 := ⟨⟨tb5 44 rfl rfl, tb1 10 rfl rfl, by decide, by decide, by decide +kernel⟩, tb5 42 rfl rfl, tb5 43 rfl rfl⟩
theorem mv_X1_failedCount : mvq M_X1_failedCount 0 := ⟨⟨tb5 48 rfl rfl, tb1 10 rfl rfl, by decide, by decide, by decide +kernel⟩, tb5 46 rfl rfl, tb5 47 rfl rfl⟩
theorem mi_X2_init : miq M_X2_init 0 := ⟨⟨tb1 68 rfl rfl, tb1 3 rfl rfl, by decide, by decide, by decide +kernel⟩, tb1 67 rfl rfl, rfl, rfl⟩
theorem mv_X2_has : mvq M_X2_has 1 := ⟨⟨tb3 36 rfl rfl, tb1 3 rfl rfl, by decide, by decide, by decide +kernel⟩, tb3 34 rfl rfl, tb3 35 rfl rfl⟩
theorem mv_X2_isPaper : mvq M_X2_isPaper 1 := ⟨⟨tb3 40 rfl rfl, tb1 3 rfl rfl, by decide, by decide, by decide +kernel⟩, tb3 38 rfl rfl, tb3 39 rfl rfl⟩
theorem mv_X2_add : mvq M_X2_add 7 := ⟨⟨tb3 47 rfl rfl, tb1 3 rfl rfl, by decide, by decide, by decide +kernel⟩, tb3 45 rfl rfl, tb3 46 rfl rfl⟩
theorem mv_X2_know : mvq M_X2_know 1 := ⟨⟨tb3 55 rfl rfl, tb1 3 rfl rfl, by decide, by decide, by decide +kernel⟩, tb3 53 rfl rfl, tb3 54 rfl rfl⟩
theorem mv_X2_isInBook : mvq M_X2_isInBook 1 := ⟨⟨tb3 68 rfl rfl, tb1 3 rfl rfl, by decide, by decide, by decide +kernel⟩, tb3 66 rfl rfl, tb3 67 rfl rfl⟩
theorem mv_X2_inBookAt : mvq M_X2_inBookAt 1 := ⟨⟨tb3 157 rfl rfl, tb1 3 rfl rfl, by decide, by decide, by decide +kernel⟩, tb3 155 rfl rfl, tb3 156 rfl rfl⟩
theorem mv_X2_voidCount : mvq M_X2_voidCount 0 := ⟨⟨tb3 166 rfl rfl, tb1 3 rfl rfl, by decide, by decide, by decide +kernel⟩, tb3 164 rfl rfl, tb3 165 rfl rfl⟩
theorem mi_X3_init : miq M_X3_init 0 := ⟨⟨tb1 31 rfl rfl, tb1 2 rfl rfl, by decide, by decide, by decide +kernel⟩, tb1 30 rfl rfl, rfl, rfl⟩
theorem mv_X3_has : mvq M_X3_has 1 := ⟨⟨tb3 20 rfl rfl, tb1 2 rfl rfl, by decide, by decide, by decide +kernel⟩, tb3 18 rfl rfl, tb3 19 rfl rfl⟩
theorem mv_X3_add : mvq M_X3_add 5 := ⟨⟨tb3 8 rfl rfl, tb1 2 rfl rfl, by decide, by decide, by decide +kernel⟩, tb3 6 rfl rfl, tb3 7 rfl rfl⟩
theorem mi_X4_init : miq M_X4_init 0 := ⟨⟨tb2 154 rfl rfl, tb1 11 rfl rfl, by decide, by decide, by decide +kernel⟩, tb2 153 rfl rfl, rfl, rfl⟩
theorem mv_X4_lay : mvq M_X4_lay 5 := ⟨⟨tb5 66 rfl rfl, tb1 11 rfl rfl, by decide, by decide, by decide +kernel⟩, tb5 64 rfl rfl, tb5 65 rfl rfl⟩
theorem mv_X4_choose : mvq M_X4_choose 2 := ⟨⟨tb5 70 rfl rfl, tb1 11 rfl rfl, by decide, by decide, by decide +kernel⟩, tb5 69 rfl rfl, tbP (q := (M_X4_choose.1, 7)) (nthq_mem (i := 44) rfl)⟩
theorem mv_X4_gather : mvq M_X4_gather 2 := ⟨⟨tb5 74 rfl rfl, tb1 11 rfl rfl, by decide, by decide, by decide +kernel⟩, tb5 73 rfl rfl, tbP (q := (M_X4_gather.1, 7)) (nthq_mem (i := 45) rfl)⟩
theorem mv_X4_priceOn : mvq M_X4_priceOn 3 := ⟨⟨tb5 80 rfl rfl, tb1 11 rfl rfl, by decide, by decide, by decide +kernel⟩, tb5 79 rfl rfl, tbP (q := (M_X4_priceOn.1, 7)) (nthq_mem (i := 46) rfl)⟩
theorem mv_X4_shut : mvq M_X4_shut 3 := ⟨⟨tb5 87 rfl rfl, tb1 11 rfl rfl, by decide, by decide, by decide +kernel⟩, tb5 86 rfl rfl, tbP (q := (M_X4_shut.1, 7)) (nthq_mem (i := 47) rfl)⟩
theorem mv_X4_isParted : mvq M_X4_isParted 3 := ⟨⟨tb5 91 rfl rfl, tb1 11 rfl rfl, by decide, by decide, by decide +kernel⟩, tb5 90 rfl rfl, tbP (q := (M_X4_isParted.1, 7)) (nthq_mem (i := 48) rfl)⟩
theorem mv_X4_openFloor : mvq M_X4_openFloor 0 := ⟨⟨tb5 95 rfl rfl, tb1 11 rfl rfl, by decide, by decide, by decide +kernel⟩, tb5 94 rfl rfl, tbP (q := (M_X4_openFloor.1, 7)) (nthq_mem (i := 49) rfl)⟩
theorem mv_X4_isFound : mvq M_X4_isFound 0 := ⟨⟨tb5 103 rfl rfl, tb1 11 rfl rfl, by decide, by decide, by decide +kernel⟩, tb5 101 rfl rfl, tb5 102 rfl rfl⟩
theorem mv_X4_moved : mvq M_X4_moved 0 := ⟨⟨tb5 107 rfl rfl, tb1 11 rfl rfl, by decide, by decide, by decide +kernel⟩, tb5 105 rfl rfl, tb5 106 rfl rfl⟩
theorem mv_X4_floorOf : mvq M_X4_floorOf 1 := ⟨⟨tb5 111 rfl rfl, tb1 11 rfl rfl, by decide, by decide, by decide +kernel⟩, tb5 109 rfl rfl, tb5 110 rfl rfl⟩
theorem mi_X5_init : miq M_X5_init 0 := ⟨⟨tb1 163 rfl rfl, tb1 5 rfl rfl, by decide, by decide, by decide +kernel⟩, tb1 162 rfl rfl, rfl, rfl⟩
theorem mv_X5_add : mvq M_X5_add 1 := ⟨⟨tb3 182 rfl rfl, tb1 5 rfl rfl, by decide, by decide, by decide +kernel⟩, tb3 180 rfl rfl, tb3 181 rfl rfl⟩
theorem mv_X5_read : mvq M_X5_read 1 := ⟨⟨tb3 193 rfl rfl, tb1 5 rfl rfl, by decide, by decide, by decide +kernel⟩, tb3 191 rfl rfl, tb3 192 rfl rfl⟩
theorem mv_X5_readClause : mvq M_X5_readClause 1 := ⟨⟨tb3 201 rfl rfl, tb1 5 rfl rfl, by decide, by decide, by decide +kernel⟩, tb3 200 rfl rfl, tbP (q := (M_X5_readClause.1, 9)) (nthq_mem (i := 19) rfl)⟩
theorem mv_X5_readLet : mvq M_X5_readLet 0 := ⟨⟨tb4 41 rfl rfl, tb1 5 rfl rfl, by decide, by decide, by decide +kernel⟩, tb4 40 rfl rfl, tbP (q := (M_X5_readLet.1, 9)) (nthq_mem (i := 23) rfl)⟩
theorem mv_X5_readDry : mvq M_X5_readDry 0 := ⟨⟨tb4 59 rfl rfl, tb1 5 rfl rfl, by decide, by decide, by decide +kernel⟩, tb4 58 rfl rfl, tbP (q := (M_X5_readDry.1, 9)) (nthq_mem (i := 27) rfl)⟩
theorem mv_X5_takeTerm : mvq M_X5_takeTerm 1 := ⟨⟨tb4 67 rfl rfl, tb1 5 rfl rfl, by decide, by decide, by decide +kernel⟩, tb4 66 rfl rfl, tbP (q := (M_X5_takeTerm.1, 9)) (nthq_mem (i := 29) rfl)⟩
theorem mv_X5_takeKeys : mvq M_X5_takeKeys 0 := ⟨⟨tb4 63 rfl rfl, tb1 5 rfl rfl, by decide, by decide, by decide +kernel⟩, tb4 62 rfl rfl, tbP (q := (M_X5_takeKeys.1, 9)) (nthq_mem (i := 28) rfl)⟩
theorem mv_X5_keep : mvq M_X5_keep 2 := ⟨⟨tb4 51 rfl rfl, tb1 5 rfl rfl, by decide, by decide, by decide +kernel⟩, tb4 50 rfl rfl, tbP (q := (M_X5_keep.1, 9)) (nthq_mem (i := 25) rfl)⟩
theorem mv_X5_takeIf : mvq M_X5_takeIf 1 := ⟨⟨tb4 55 rfl rfl, tb1 5 rfl rfl, by decide, by decide, by decide +kernel⟩, tb4 54 rfl rfl, tbP (q := (M_X5_takeIf.1, 9)) (nthq_mem (i := 26) rfl)⟩
theorem mv_X5_takeWord : mvq M_X5_takeWord 2 := ⟨⟨tb3 205 rfl rfl, tb1 5 rfl rfl, by decide, by decide, by decide +kernel⟩, tb3 204 rfl rfl, tbP (q := (M_X5_takeWord.1, 9)) (nthq_mem (i := 20) rfl)⟩
theorem mv_X5_isSpelled : mvq M_X5_isSpelled 2 := ⟨⟨tb3 225 rfl rfl, tb1 5 rfl rfl, by decide, by decide, by decide +kernel⟩, tb3 224 rfl rfl, tbP (q := (M_X5_isSpelled.1, 9)) (nthq_mem (i := 21) rfl)⟩
theorem mv_X5_takeNumber : mvq M_X5_takeNumber 1 := ⟨⟨tb4 47 rfl rfl, tb1 5 rfl rfl, by decide, by decide, by decide +kernel⟩, tb4 46 rfl rfl, tbP (q := (M_X5_takeNumber.1, 9)) (nthq_mem (i := 24) rfl)⟩
theorem mv_X5_skipBlanks : mvq M_X5_skipBlanks 0 := ⟨⟨tb3 197 rfl rfl, tb1 5 rfl rfl, by decide, by decide, by decide +kernel⟩, tb3 196 rfl rfl, tbP (q := (M_X5_skipBlanks.1, 9)) (nthq_mem (i := 18) rfl)⟩
theorem mv_X5_fail : mvq M_X5_fail 2 := ⟨⟨tb4 37 rfl rfl, tb1 5 rfl rfl, by decide, by decide, by decide +kernel⟩, tb4 36 rfl rfl, tbP (q := (M_X5_fail.1, 9)) (nthq_mem (i := 22) rfl)⟩
theorem ms_X5_spelling : msq M_X5_spelling 1 := ⟨⟨tb3 208 rfl rfl, tb1 5 rfl rfl, by decide, by decide, by decide +kernel⟩, tb3 207 rfl rfl⟩
theorem mi_X6_init : miq M_X6_init 0 := ⟨⟨tb2 79 rfl rfl, tb1 9 rfl rfl, by decide, by decide, by decide +kernel⟩, tb2 78 rfl rfl, rfl, rfl⟩
theorem mv_X6_add : mvq M_X6_add 4 := ⟨⟨tb4 222 rfl rfl, tb1 9 rfl rfl, by decide, by decide, by decide +kernel⟩, tb4 220 rfl rfl, tb4 221 rfl rfl⟩
theorem mv_X6_netOf : mvq M_X6_netOf 2 := ⟨⟨tb4 230 rfl rfl, tb1 9 rfl rfl, by decide, by decide, by decide +kernel⟩, tb4 228 rfl rfl, tb4 229 rfl rfl⟩
theorem mv_X6_fewestHandings : mvq M_X6_fewestHandings 1 := ⟨⟨tb4 238 rfl rfl, tb1 9 rfl rfl, by decide, by decide, by decide +kernel⟩, tb4 236 rfl rfl, tb4 237 rfl rfl⟩
theorem mv_X6_mostGroups : mvq M_X6_mostGroups 1 := ⟨⟨tb5 3 rfl rfl, tb1 9 rfl rfl, by decide, by decide, by decide +kernel⟩, tb5 2 rfl rfl, tbP (q := (M_X6_mostGroups.1, 8)) (nthq_mem (i := 39) rfl)⟩
theorem mi_X7_init : miq M_X7_init 3 := ⟨⟨tb1 203 rfl rfl, tb1 6 rfl rfl, by decide, by decide, by decide +kernel⟩, tb1 202 rfl rfl, rfl, rfl⟩
theorem mv_X7_tell : mvq M_X7_tell 2 := ⟨⟨tb3 59 rfl rfl, tb1 6 rfl rfl, by decide, by decide, by decide +kernel⟩, tb3 57 rfl rfl, tb3 58 rfl rfl⟩
theorem mv_X7_clear : mvq M_X7_clear 0 := ⟨⟨tb3 63 rfl rfl, tb1 6 rfl rfl, by decide, by decide, by decide +kernel⟩, tb3 62 rfl rfl, tbP (q := (M_X7_clear.1, 16)) (nthq_mem (i := 1) rfl)⟩
theorem mv_X7_isDone : mvq M_X7_isDone 1 := ⟨⟨tb3 72 rfl rfl, tb1 6 rfl rfl, by decide, by decide, by decide +kernel⟩, tb3 71 rfl rfl, tbP (q := (M_X7_isDone.1, 16)) (nthq_mem (i := 2) rfl)⟩
theorem mv_X7_issue : mvq M_X7_issue 2 := ⟨⟨tb3 76 rfl rfl, tb1 6 rfl rfl, by decide, by decide, by decide +kernel⟩, tb3 75 rfl rfl, tbP (q := (M_X7_issue.1, 16)) (nthq_mem (i := 3) rfl)⟩
theorem mv_X7_make : mvq M_X7_make 5 := ⟨⟨tb3 80 rfl rfl, tb1 6 rfl rfl, by decide, by decide, by decide +kernel⟩, tb3 79 rfl rfl, tbP (q := (M_X7_make.1, 16)) (nthq_mem (i := 4) rfl)⟩
theorem mv_X7_burn : mvq M_X7_burn 2 := ⟨⟨tb3 145 rfl rfl, tb1 6 rfl rfl, by decide, by decide, by decide +kernel⟩, tb3 144 rfl rfl, tbP (q := (M_X7_burn.1, 16)) (nthq_mem (i := 16) rfl)⟩
theorem mv_X7_pass : mvq M_X7_pass 2 := ⟨⟨tb3 95 rfl rfl, tb1 6 rfl rfl, by decide, by decide, by decide +kernel⟩, tb3 94 rfl rfl, tbP (q := (M_X7_pass.1, 16)) (nthq_mem (i := 5) rfl)⟩
theorem mv_X7_divide : mvq M_X7_divide 2 := ⟨⟨tb3 117 rfl rfl, tb1 6 rfl rfl, by decide, by decide, by decide +kernel⟩, tb3 116 rfl rfl, tbP (q := (M_X7_divide.1, 16)) (nthq_mem (i := 9) rfl)⟩
theorem mv_X7_isBound : mvq M_X7_isBound 1 := ⟨⟨tb3 121 rfl rfl, tb1 6 rfl rfl, by decide, by decide, by decide +kernel⟩, tb3 120 rfl rfl, tbP (q := (M_X7_isBound.1, 16)) (nthq_mem (i := 10) rfl)⟩
theorem mv_X7_lend : mvq M_X7_lend 2 := ⟨⟨tb3 125 rfl rfl, tb1 6 rfl rfl, by decide, by decide, by decide +kernel⟩, tb3 124 rfl rfl, tbP (q := (M_X7_lend.1, 16)) (nthq_mem (i := 11) rfl)⟩
theorem mv_X7_repay : mvq M_X7_repay 1 := ⟨⟨tb3 129 rfl rfl, tb1 6 rfl rfl, by decide, by decide, by decide +kernel⟩, tb3 128 rfl rfl, tbP (q := (M_X7_repay.1, 16)) (nthq_mem (i := 12) rfl)⟩
theorem mv_X7_stop : mvq M_X7_stop 2 := ⟨⟨tb3 133 rfl rfl, tb1 6 rfl rfl, by decide, by decide, by decide +kernel⟩, tb3 132 rfl rfl, tbP (q := (M_X7_stop.1, 16)) (nthq_mem (i := 13) rfl)⟩
theorem mv_X7_free : mvq M_X7_free 1 := ⟨⟨tb3 137 rfl rfl, tb1 6 rfl rfl, by decide, by decide, by decide +kernel⟩, tb3 136 rfl rfl, tbP (q := (M_X7_free.1, 16)) (nthq_mem (i := 14) rfl)⟩
theorem mv_X7_handOut : mvq M_X7_handOut 2 := ⟨⟨tb3 141 rfl rfl, tb1 6 rfl rfl, by decide, by decide, by decide +kernel⟩, tb3 140 rfl rfl, tbP (q := (M_X7_handOut.1, 16)) (nthq_mem (i := 15) rfl)⟩
theorem mv_X7_steal : mvq M_X7_steal 2 := ⟨⟨tb3 149 rfl rfl, tb1 6 rfl rfl, by decide, by decide, by decide +kernel⟩, tb3 148 rfl rfl, tbP (q := (M_X7_steal.1, 16)) (nthq_mem (i := 17) rfl)⟩
theorem mv_X7_thereOf : mvq M_X7_thereOf 1 := ⟨⟨tb3 88 rfl rfl, tb1 6 rfl rfl, by decide, by decide, by decide +kernel⟩, tb3 86 rfl rfl, tb3 87 rfl rfl⟩
theorem mv_X7_overOf : mvq M_X7_overOf 1 := ⟨⟨tb3 84 rfl rfl, tb1 6 rfl rfl, by decide, by decide, by decide +kernel⟩, tb3 82 rfl rfl, tb3 83 rfl rfl⟩
theorem mv_X7_vainCount : mvq M_X7_vainCount 0 := ⟨⟨tb3 170 rfl rfl, tb1 6 rfl rfl, by decide, by decide, by decide +kernel⟩, tb3 168 rfl rfl, tb3 169 rfl rfl⟩
theorem mv_X7_papersWithCasks : mvq M_X7_papersWithCasks 1 := ⟨⟨tb3 174 rfl rfl, tb1 6 rfl rfl, by decide, by decide, by decide +kernel⟩, tb3 172 rfl rfl, tb3 173 rfl rfl⟩
theorem mv_X7_casksOf : mvq M_X7_casksOf 3 := ⟨⟨tb4 150 rfl rfl, tb1 6 rfl rfl, by decide, by decide, by decide +kernel⟩, tb4 148 rfl rfl, tb4 149 rfl rfl⟩
theorem mv_X7_lentOn : mvq M_X7_lentOn 1 := ⟨⟨tb4 209 rfl rfl, tb1 6 rfl rfl, by decide, by decide, by decide +kernel⟩, tb4 207 rfl rfl, tb4 208 rfl rfl⟩
theorem mv_X7_unlike : mvq M_X7_unlike 1 := ⟨⟨tb4 158 rfl rfl, tb1 6 rfl rfl, by decide, by decide, by decide +kernel⟩, tb4 156 rfl rfl, tb4 157 rfl rfl⟩
theorem mv_X7_isHadOtherwise : mvq M_X7_isHadOtherwise 2 := ⟨⟨tb4 162 rfl rfl, tb1 6 rfl rfl, by decide, by decide, by decide +kernel⟩, tb4 161 rfl rfl, tbP (q := (M_X7_isHadOtherwise.1, 16)) (nthq_mem (i := 34) rfl)⟩
theorem mi_X8_init : miq M_X8_init 0 := ⟨⟨tb1 126 rfl rfl, tb1 4 rfl rfl, by decide, by decide, by decide +kernel⟩, tb1 125 rfl rfl, rfl, rfl⟩
theorem mv_X8_add : mvq M_X8_add 2 := ⟨⟨tb4 71 rfl rfl, tb1 4 rfl rfl, by decide, by decide, by decide +kernel⟩, tb4 69 rfl rfl, tb4 70 rfl rfl⟩
theorem mv_X8_on : mvq M_X8_on 2 := ⟨⟨tb3 99 rfl rfl, tb1 4 rfl rfl, by decide, by decide, by decide +kernel⟩, tb3 97 rfl rfl, tb3 98 rfl rfl⟩
theorem mv_X8_keyOn : mvq M_X8_keyOn 2 := ⟨⟨tb4 89 rfl rfl, tb1 4 rfl rfl, by decide, by decide, by decide +kernel⟩, tb4 87 rfl rfl, tb4 88 rfl rfl⟩
theorem mv_X8_keysOn : mvq M_X8_keysOn 1 := ⟨⟨tb4 85 rfl rfl, tb1 4 rfl rfl, by decide, by decide, by decide +kernel⟩, tb4 83 rfl rfl, tb4 84 rfl rfl⟩
theorem mv_X8_hold : mvq M_X8_hold 1 := ⟨⟨tb3 103 rfl rfl, tb1 4 rfl rfl, by decide, by decide, by decide +kernel⟩, tb3 102 rfl rfl, tbP (q := (M_X8_hold.1, 9)) (nthq_mem (i := 6) rfl)⟩
theorem mv_X8_strike : mvq M_X8_strike 1 := ⟨⟨tb3 107 rfl rfl, tb1 4 rfl rfl, by decide, by decide, by decide +kernel⟩, tb3 106 rfl rfl, tbP (q := (M_X8_strike.1, 9)) (nthq_mem (i := 7) rfl)⟩
theorem mv_X8_rule : mvq M_X8_rule 1 := ⟨⟨tb3 113 rfl rfl, tb1 4 rfl rfl, by decide, by decide, by decide +kernel⟩, tb3 112 rfl rfl, tbP (q := (M_X8_rule.1, 9)) (nthq_mem (i := 8) rfl)⟩
theorem mi_X9_init : miq M_X9_init 0 := ⟨⟨tb2 51 rfl rfl, tb1 8 rfl rfl, by decide, by decide, by decide +kernel⟩, tb2 50 rfl rfl, rfl, rfl⟩
theorem mv_X9_add : mvq M_X9_add 4 := ⟨⟨tb4 187 rfl rfl, tb1 8 rfl rfl, by decide, by decide, by decide +kernel⟩, tb4 185 rfl rfl, tb4 186 rfl rfl⟩
theorem mi_X10_init : miq M_X10_init 0 := ⟨⟨tb1 23 rfl rfl, tb1 1 rfl rfl, by decide, by decide, by decide +kernel⟩, tb1 22 rfl rfl, rfl, rfl⟩
theorem mv_X10_go : mvq M_X10_go 1 := ⟨⟨tb2 228 rfl rfl, tb1 1 rfl rfl, by decide, by decide, by decide +kernel⟩, tb2 226 rfl rfl, tb2 227 rfl rfl⟩
theorem mv_X10_lot : mvq M_X10_lot 5 := ⟨⟨tb2 235 rfl rfl, tb1 1 rfl rfl, by decide, by decide, by decide +kernel⟩, tb2 233 rfl rfl, tb2 234 rfl rfl⟩
theorem mv_X10_room : mvq M_X10_room 2 := ⟨⟨tb3 12 rfl rfl, tb1 1 rfl rfl, by decide, by decide, by decide +kernel⟩, tb3 10 rfl rfl, tb3 11 rfl rfl⟩
theorem mv_X10_move : mvq M_X10_move 2 := ⟨⟨tb3 16 rfl rfl, tb1 1 rfl rfl, by decide, by decide, by decide +kernel⟩, tb3 14 rfl rfl, tb3 15 rfl rfl⟩
theorem mv_X10_line : mvq M_X10_line 6 := ⟨⟨tb3 24 rfl rfl, tb1 1 rfl rfl, by decide, by decide, by decide +kernel⟩, tb3 22 rfl rfl, tb3 23 rfl rfl⟩
theorem mv_X10_told : mvq M_X10_told 2 := ⟨⟨tb3 51 rfl rfl, tb1 1 rfl rfl, by decide, by decide, by decide +kernel⟩, tb3 49 rfl rfl, tb3 50 rfl rfl⟩
theorem mv_X10_book : mvq M_X10_book 2 := ⟨⟨tb3 153 rfl rfl, tb1 1 rfl rfl, by decide, by decide, by decide +kernel⟩, tb3 151 rfl rfl, tb3 152 rfl rfl⟩
theorem mv_X10_count : mvq M_X10_count 1 := ⟨⟨tb3 162 rfl rfl, tb1 1 rfl rfl, by decide, by decide, by decide +kernel⟩, tb3 160 rfl rfl, tb3 161 rfl rfl⟩
theorem mv_X10_feed : mvq M_X10_feed 2 := ⟨⟨tb3 178 rfl rfl, tb1 1 rfl rfl, by decide, by decide, by decide +kernel⟩, tb3 176 rfl rfl, tb3 177 rfl rfl⟩
theorem mv_X10_term : mvq M_X10_term 1 := ⟨⟨tb3 186 rfl rfl, tb1 1 rfl rfl, by decide, by decide, by decide +kernel⟩, tb3 184 rfl rfl, tb3 185 rfl rfl⟩
theorem mv_X10_fault : mvq M_X10_fault 0 := ⟨⟨tb4 76 rfl rfl, tb1 1 rfl rfl, by decide, by decide, by decide +kernel⟩, tb4 74 rfl rfl, tb4 75 rfl rfl⟩
theorem mv_X10_force : mvq M_X10_force 2 := ⟨⟨tb4 80 rfl rfl, tb1 1 rfl rfl, by decide, by decide, by decide +kernel⟩, tb4 78 rfl rfl, tb4 79 rfl rfl⟩
theorem mv_X10_paper : mvq M_X10_paper 4 := ⟨⟨tb4 95 rfl rfl, tb1 1 rfl rfl, by decide, by decide, by decide +kernel⟩, tb4 93 rfl rfl, tb4 94 rfl rfl⟩
theorem mv_X10_goods : mvq M_X10_goods 4 := ⟨⟨tb4 103 rfl rfl, tb1 1 rfl rfl, by decide, by decide, by decide +kernel⟩, tb4 101 rfl rfl, tb4 102 rfl rfl⟩
theorem mv_X10_share : mvq M_X10_share 4 := ⟨⟨tb4 109 rfl rfl, tb1 1 rfl rfl, by decide, by decide, by decide +kernel⟩, tb4 107 rfl rfl, tb4 108 rfl rfl⟩
theorem mv_X10_doubt : mvq M_X10_doubt 4 := ⟨⟨tb4 121 rfl rfl, tb1 1 rfl rfl, by decide, by decide, by decide +kernel⟩, tb4 119 rfl rfl, tb4 120 rfl rfl⟩
theorem mv_X10_stock : mvq M_X10_stock 3 := ⟨⟨tb4 146 rfl rfl, tb1 1 rfl rfl, by decide, by decide, by decide +kernel⟩, tb4 144 rfl rfl, tb4 145 rfl rfl⟩
theorem mv_X10_news : mvq M_X10_news 3 := ⟨⟨tb4 154 rfl rfl, tb1 1 rfl rfl, by decide, by decide, by decide +kernel⟩, tb4 152 rfl rfl, tb4 153 rfl rfl⟩
theorem mv_X10_rent : mvq M_X10_rent 2 := ⟨⟨tb4 166 rfl rfl, tb1 1 rfl rfl, by decide, by decide, by decide +kernel⟩, tb4 164 rfl rfl, tb4 165 rfl rfl⟩
theorem mv_X10_weight : mvq M_X10_weight 2 := ⟨⟨tb4 174 rfl rfl, tb1 1 rfl rfl, by decide, by decide, by decide +kernel⟩, tb4 172 rfl rfl, tb4 173 rfl rfl⟩
theorem mv_X10_weigh : mvq M_X10_weigh 3 := ⟨⟨tb4 182 rfl rfl, tb1 1 rfl rfl, by decide, by decide, by decide +kernel⟩, tb4 180 rfl rfl, tb4 181 rfl rfl⟩
theorem mv_X10_loss : mvq M_X10_loss 2 := ⟨⟨tb4 191 rfl rfl, tb1 1 rfl rfl, by decide, by decide, by decide +kernel⟩, tb4 189 rfl rfl, tb4 190 rfl rfl⟩
theorem mv_X10_unpaid : mvq M_X10_unpaid 3 := ⟨⟨tb4 196 rfl rfl, tb1 1 rfl rfl, by decide, by decide, by decide +kernel⟩, tb4 194 rfl rfl, tb4 195 rfl rfl⟩
theorem mv_X10_money : mvq M_X10_money 4 := ⟨⟨tb4 200 rfl rfl, tb1 1 rfl rfl, by decide, by decide, by decide +kernel⟩, tb4 198 rfl rfl, tb4 199 rfl rfl⟩
theorem mv_X10_sale : mvq M_X10_sale 4 := ⟨⟨tb4 218 rfl rfl, tb1 1 rfl rfl, by decide, by decide, by decide +kernel⟩, tb4 216 rfl rfl, tb4 217 rfl rfl⟩
theorem mv_X10_net : mvq M_X10_net 2 := ⟨⟨tb4 226 rfl rfl, tb1 1 rfl rfl, by decide, by decide, by decide +kernel⟩, tb4 224 rfl rfl, tb4 225 rfl rfl⟩
theorem mv_X10_handings : mvq M_X10_handings 1 := ⟨⟨tb4 234 rfl rfl, tb1 1 rfl rfl, by decide, by decide, by decide +kernel⟩, tb4 232 rfl rfl, tb4 233 rfl rfl⟩
theorem mv_X10_due : mvq M_X10_due 3 := ⟨⟨tb5 8 rfl rfl, tb1 1 rfl rfl, by decide, by decide, by decide +kernel⟩, tb5 6 rfl rfl, tb5 7 rfl rfl⟩
theorem mv_X10_coin : mvq M_X10_coin 2 := ⟨⟨tb5 16 rfl rfl, tb1 1 rfl rfl, by decide, by decide, by decide +kernel⟩, tb5 14 rfl rfl, tb5 15 rfl rfl⟩
theorem mv_X10_fails : mvq M_X10_fails 2 := ⟨⟨tb5 20 rfl rfl, tb1 1 rfl rfl, by decide, by decide, by decide +kernel⟩, tb5 18 rfl rfl, tb5 19 rfl rfl⟩
theorem mv_X10_part : mvq M_X10_part 3 := ⟨⟨tb5 52 rfl rfl, tb1 1 rfl rfl, by decide, by decide, by decide +kernel⟩, tb5 50 rfl rfl, tb5 51 rfl rfl⟩
theorem mv_X10_plan : mvq M_X10_plan 2 := ⟨⟨tb5 56 rfl rfl, tb1 1 rfl rfl, by decide, by decide, by decide +kernel⟩, tb5 54 rfl rfl, tb5 55 rfl rfl⟩
theorem ms_X10_within : msq M_X10_within 3 := ⟨⟨tb2 231 rfl rfl, tb1 1 rfl rfl, by decide, by decide, by decide +kernel⟩, tb2 230 rfl rfl⟩
theorem ms_X10_isHouse : msq M_X10_isHouse 1 := ⟨⟨tb2 238 rfl rfl, tb1 1 rfl rfl, by decide, by decide, by decide +kernel⟩, tb2 237 rfl rfl⟩
theorem ms_X10_isFloor : msq M_X10_isFloor 1 := ⟨⟨tb3 1 rfl rfl, tb1 1 rfl rfl, by decide, by decide, by decide +kernel⟩, tb3 0 rfl rfl⟩
theorem ms_X10_isSort : msq M_X10_isSort 1 := ⟨⟨tb3 4 rfl rfl, tb1 1 rfl rfl, by decide, by decide, by decide +kernel⟩, tb3 3 rfl rfl⟩
theorem ms_X10_isDay : msq M_X10_isDay 1 := ⟨⟨tb3 189 rfl rfl, tb1 1 rfl rfl, by decide, by decide, by decide +kernel⟩, tb3 188 rfl rfl⟩
theorem mv_X10_isTarget : mvq M_X10_isTarget 2 := ⟨⟨tb3 32 rfl rfl, tb1 1 rfl rfl, by decide, by decide, by decide +kernel⟩, tb3 31 rfl rfl, tbP (q := (M_X10_isTarget.1, 15)) (nthq_mem (i := 0) rfl)⟩
theorem mv_X10_isAsked : mvq M_X10_isAsked 2 := ⟨⟨tb4 99 rfl rfl, tb1 1 rfl rfl, by decide, by decide, by decide +kernel⟩, tb4 98 rfl rfl, tbP (q := (M_X10_isAsked.1, 15)) (nthq_mem (i := 30) rfl)⟩
theorem mv_X10_shareAsTold : mvq M_X10_shareAsTold 2 := ⟨⟨tb4 113 rfl rfl, tb1 1 rfl rfl, by decide, by decide, by decide +kernel⟩, tb4 112 rfl rfl, tbP (q := (M_X10_shareAsTold.1, 15)) (nthq_mem (i := 31) rfl)⟩
theorem ms_X10_commonDivisor : msq M_X10_commonDivisor 2 := ⟨⟨tb4 116 rfl rfl, tb1 1 rfl rfl, by decide, by decide, by decide +kernel⟩, tb4 115 rfl rfl⟩
theorem mv_X10_rentAsTold : mvq M_X10_rentAsTold 2 := ⟨⟨tb4 170 rfl rfl, tb1 1 rfl rfl, by decide, by decide, by decide +kernel⟩, tb4 169 rfl rfl, tbP (q := (M_X10_rentAsTold.1, 15)) (nthq_mem (i := 35) rfl)⟩
theorem mv_X10_caskWeight : mvq M_X10_caskWeight 2 := ⟨⟨tb4 178 rfl rfl, tb1 1 rfl rfl, by decide, by decide, by decide +kernel⟩, tb4 177 rfl rfl, tbP (q := (M_X10_caskWeight.1, 15)) (nthq_mem (i := 36) rfl)⟩
theorem mv_X10_wanted : mvq M_X10_wanted 4 := ⟨⟨tb4 205 rfl rfl, tb1 1 rfl rfl, by decide, by decide, by decide +kernel⟩, tb4 204 rfl rfl, tbP (q := (M_X10_wanted.1, 15)) (nthq_mem (i := 37) rfl)⟩
theorem mv_X10_unpaidFor : mvq M_X10_unpaidFor 1 := ⟨⟨tb4 213 rfl rfl, tb1 1 rfl rfl, by decide, by decide, by decide +kernel⟩, tb4 212 rfl rfl, tbP (q := (M_X10_unpaidFor.1, 15)) (nthq_mem (i := 38) rfl)⟩
theorem mi_X11_init : miq M_X11_init 0 := ⟨⟨tb5 117 rfl rfl, tb1 12 rfl rfl, by decide, by decide, by decide +kernel⟩, tb5 116 rfl rfl, rfl, rfl⟩
theorem ms_X11_in : msq M_X11_in 3 := ⟨⟨tb6 124 rfl rfl, tb1 12 rfl rfl, by decide, by decide, by decide +kernel⟩, tb6 123 rfl rfl⟩
theorem ms_X11_one : msq M_X11_one 1 := ⟨⟨tb7 7 rfl rfl, tb1 12 rfl rfl, by decide, by decide, by decide +kernel⟩, tb7 6 rfl rfl⟩
theorem ms_X11_isHouse : msq M_X11_isHouse 1 := ⟨⟨tb6 131 rfl rfl, tb1 12 rfl rfl, by decide, by decide, by decide +kernel⟩, tb6 130 rfl rfl⟩
theorem ms_X11_isFloor : msq M_X11_isFloor 1 := ⟨⟨tb6 135 rfl rfl, tb1 12 rfl rfl, by decide, by decide, by decide +kernel⟩, tb6 134 rfl rfl⟩
theorem ms_X11_isDay : msq M_X11_isDay 1 := ⟨⟨tb6 200 rfl rfl, tb1 12 rfl rfl, by decide, by decide, by decide +kernel⟩, tb6 199 rfl rfl⟩
theorem mv_X11_isKnown : mvq M_X11_isKnown 1 := ⟨⟨tb6 173 rfl rfl, tb1 12 rfl rfl, by decide, by decide, by decide +kernel⟩, tb6 172 rfl rfl, tbP (q := (M_X11_isKnown.1, 79)) (nthq_mem (i := 53) rfl)⟩
theorem ms_X11_gcd : msq M_X11_gcd 2 := ⟨⟨tb7 107 rfl rfl, tb1 12 rfl rfl, by decide, by decide, by decide +kernel⟩, tb7 106 rfl rfl⟩
theorem mv_X11_noLot : mvq M_X11_noLot 1 := ⟨⟨tb6 150 rfl rfl, tb1 12 rfl rfl, by decide, by decide, by decide +kernel⟩, tb6 149 rfl rfl, tbP (q := (M_X11_noLot.1, 79)) (nthq_mem (i := 50) rfl)⟩
theorem mv_X11_go : mvq M_X11_go 1 := ⟨⟨tb6 120 rfl rfl, tb1 12 rfl rfl, by decide, by decide, by decide +kernel⟩, tb6 118 rfl rfl, tb6 119 rfl rfl⟩
theorem mv_X11_lot : mvq M_X11_lot 5 := ⟨⟨tb6 128 rfl rfl, tb1 12 rfl rfl, by decide, by decide, by decide +kernel⟩, tb6 126 rfl rfl, tb6 127 rfl rfl⟩
theorem mv_X11_room : mvq M_X11_room 2 := ⟨⟨tb6 142 rfl rfl, tb1 12 rfl rfl, by decide, by decide, by decide +kernel⟩, tb6 140 rfl rfl, tb6 141 rfl rfl⟩
theorem mv_X11_move : mvq M_X11_move 2 := ⟨⟨tb6 146 rfl rfl, tb1 12 rfl rfl, by decide, by decide, by decide +kernel⟩, tb6 144 rfl rfl, tb6 145 rfl rfl⟩
theorem ms_X11_hasP : msq M_X11_hasP 1 := ⟨⟨tb6 169 rfl rfl, tb1 12 rfl rfl, by decide, by decide, by decide +kernel⟩, tb6 168 rfl rfl⟩
theorem ms_X11_isOfLot : msq M_X11_isOfLot 1 := ⟨⟨tb6 162 rfl rfl, tb1 12 rfl rfl, by decide, by decide, by decide +kernel⟩, tb6 161 rfl rfl⟩
theorem ms_X11_hasMany : msq M_X11_hasMany 1 := ⟨⟨tb6 176 rfl rfl, tb1 12 rfl rfl, by decide, by decide, by decide +kernel⟩, tb6 175 rfl rfl⟩
theorem ms_X11_mostOf : msq M_X11_mostOf 1 := ⟨⟨tb6 179 rfl rfl, tb1 12 rfl rfl, by decide, by decide, by decide +kernel⟩, tb6 178 rfl rfl⟩
theorem mv_X11_isPaper : mvq M_X11_isPaper 1 := ⟨⟨tb6 166 rfl rfl, tb1 12 rfl rfl, by decide, by decide, by decide +kernel⟩, tb6 165 rfl rfl, tbP (q := (M_X11_isPaper.1, 79)) (nthq_mem (i := 52) rfl)⟩
theorem mv_X11_noTarget : mvq M_X11_noTarget 2 := ⟨⟨tb6 159 rfl rfl, tb1 12 rfl rfl, by decide, by decide, by decide +kernel⟩, tb6 158 rfl rfl, tbP (q := (M_X11_noTarget.1, 79)) (nthq_mem (i := 51) rfl)⟩
theorem mv_X11_line : mvq M_X11_line 6 := ⟨⟨tb6 154 rfl rfl, tb1 12 rfl rfl, by decide, by decide, by decide +kernel⟩, tb6 152 rfl rfl, tb6 153 rfl rfl⟩
theorem mv_X11_findBook : mvq M_X11_findBook 1 := ⟨⟨tb6 187 rfl rfl, tb1 12 rfl rfl, by decide, by decide, by decide +kernel⟩, tb6 186 rfl rfl, tbP (q := (M_X11_findBook.1, 79)) (nthq_mem (i := 54) rfl)⟩
theorem mv_X11_book : mvq M_X11_book 2 := ⟨⟨tb6 183 rfl rfl, tb1 12 rfl rfl, by decide, by decide, by decide +kernel⟩, tb6 181 rfl rfl, tb6 182 rfl rfl⟩
theorem mv_X11_feed : mvq M_X11_feed 2 := ⟨⟨tb6 191 rfl rfl, tb1 12 rfl rfl, by decide, by decide, by decide +kernel⟩, tb6 189 rfl rfl, tb6 190 rfl rfl⟩
theorem mv_X11_here : mvq M_X11_here 0 := ⟨⟨tb6 205 rfl rfl, tb1 12 rfl rfl, by decide, by decide, by decide +kernel⟩, tb6 204 rfl rfl, tbP (q := (M_X11_here.1, 79)) (nthq_mem (i := 55) rfl)⟩
theorem mv_X11_want : mvq M_X11_want 3 := ⟨⟨tb6 219 rfl rfl, tb1 12 rfl rfl, by decide, by decide, by decide +kernel⟩, tb6 218 rfl rfl, tbP (q := (M_X11_want.1, 79)) (nthq_mem (i := 58) rfl)⟩
theorem mv_X11_takeWord : mvq M_X11_takeWord 0 := ⟨⟨tb6 209 rfl rfl, tb1 12 rfl rfl, by decide, by decide, by decide +kernel⟩, tb6 208 rfl rfl, tbP (q := (M_X11_takeWord.1, 79)) (nthq_mem (i := 56) rfl)⟩
theorem mv_X11_isWord : mvq M_X11_isWord 7 := ⟨⟨tb6 215 rfl rfl, tb1 12 rfl rfl, by decide, by decide, by decide +kernel⟩, tb6 214 rfl rfl, tbP (q := (M_X11_isWord.1, 79)) (nthq_mem (i := 57) rfl)⟩
theorem mv_X11_takeNumber : mvq M_X11_takeNumber 1 := ⟨⟨tb6 234 rfl rfl, tb1 12 rfl rfl, by decide, by decide, by decide +kernel⟩, tb6 233 rfl rfl, tbP (q := (M_X11_takeNumber.1, 79)) (nthq_mem (i := 61) rfl)⟩
theorem mv_X11_nameOf : mvq M_X11_nameOf 0 := ⟨⟨tb6 227 rfl rfl, tb1 12 rfl rfl, by decide, by decide, by decide +kernel⟩, tb6 226 rfl rfl, tbP (q := (M_X11_nameOf.1, 79)) (nthq_mem (i := 60) rfl)⟩
theorem ms_X11_mostOfName : msq M_X11_mostOfName 1 := ⟨⟨tb6 230 rfl rfl, tb1 12 rfl rfl, by decide, by decide, by decide +kernel⟩, tb6 229 rfl rfl⟩
theorem mv_X11_keyOf : mvq M_X11_keyOf 0 := ⟨⟨tb7 4 rfl rfl, tb1 12 rfl rfl, by decide, by decide, by decide +kernel⟩, tb7 3 rfl rfl, tbP (q := (M_X11_keyOf.1, 79)) (nthq_mem (i := 63) rfl)⟩
theorem mv_X11_readRank : mvq M_X11_readRank 1 := ⟨⟨tb7 0 rfl rfl, tb1 12 rfl rfl, by decide, by decide, by decide +kernel⟩, tb6 239 rfl rfl, tbP (q := (M_X11_readRank.1, 79)) (nthq_mem (i := 62) rfl)⟩
theorem mv_X11_readClause : mvq M_X11_readClause 2 := ⟨⟨tb6 223 rfl rfl, tb1 12 rfl rfl, by decide, by decide, by decide +kernel⟩, tb6 222 rfl rfl, tbP (q := (M_X11_readClause.1, 79)) (nthq_mem (i := 59) rfl)⟩
theorem mv_X11_term : mvq M_X11_term 1 := ⟨⟨tb6 197 rfl rfl, tb1 12 rfl rfl, by decide, by decide, by decide +kernel⟩, tb6 195 rfl rfl, tb6 196 rfl rfl⟩
theorem mv_X11_fault : mvq M_X11_fault 0 := ⟨⟨tb7 11 rfl rfl, tb1 12 rfl rfl, by decide, by decide, by decide +kernel⟩, tb7 9 rfl rfl, tb7 10 rfl rfl⟩
theorem mv_X11_findTerms : mvq M_X11_findTerms 1 := ⟨⟨tb7 20 rfl rfl, tb1 12 rfl rfl, by decide, by decide, by decide +kernel⟩, tb7 19 rfl rfl, tbP (q := (M_X11_findTerms.1, 79)) (nthq_mem (i := 64) rfl)⟩
theorem mv_X11_force : mvq M_X11_force 2 := ⟨⟨tb7 15 rfl rfl, tb1 12 rfl rfl, by decide, by decide, by decide +kernel⟩, tb7 13 rfl rfl, tb7 14 rfl rfl⟩
theorem mv_X11_there : mvq M_X11_there 1 := ⟨⟨tb7 48 rfl rfl, tb1 12 rfl rfl, by decide, by decide, by decide +kernel⟩, tb7 47 rfl rfl, tbP (q := (M_X11_there.1, 79)) (nthq_mem (i := 70) rfl)⟩
theorem mv_X11_onPapers : mvq M_X11_onPapers 1 := ⟨⟨tb7 44 rfl rfl, tb1 12 rfl rfl, by decide, by decide, by decide +kernel⟩, tb7 43 rfl rfl, tbP (q := (M_X11_onPapers.1, 79)) (nthq_mem (i := 69) rfl)⟩
theorem mv_X11_lay : mvq M_X11_lay 5 := ⟨⟨tb7 40 rfl rfl, tb1 12 rfl rfl, by decide, by decide, by decide +kernel⟩, tb7 39 rfl rfl, tbP (q := (M_X11_lay.1, 79)) (nthq_mem (i := 68) rfl)⟩
theorem mv_X11_pass : mvq M_X11_pass 2 := ⟨⟨tb7 56 rfl rfl, tb1 12 rfl rfl, by decide, by decide, by decide +kernel⟩, tb7 55 rfl rfl, tbP (q := (M_X11_pass.1, 79)) (nthq_mem (i := 72) rfl)⟩
theorem mv_X11_partFrom : mvq M_X11_partFrom 2 := ⟨⟨tb7 60 rfl rfl, tb1 12 rfl rfl, by decide, by decide, by decide +kernel⟩, tb7 59 rfl rfl, tbP (q := (M_X11_partFrom.1, 79)) (nthq_mem (i := 73) rfl)⟩
theorem mv_X11_lend : mvq M_X11_lend 2 := ⟨⟨tb7 64 rfl rfl, tb1 12 rfl rfl, by decide, by decide, by decide +kernel⟩, tb7 63 rfl rfl, tbP (q := (M_X11_lend.1, 79)) (nthq_mem (i := 74) rfl)⟩
theorem mv_X11_handOut : mvq M_X11_handOut 2 := ⟨⟨tb7 68 rfl rfl, tb1 12 rfl rfl, by decide, by decide, by decide +kernel⟩, tb7 67 rfl rfl, tbP (q := (M_X11_handOut.1, 79)) (nthq_mem (i := 75) rfl)⟩
theorem mv_X11_burn : mvq M_X11_burn 2 := ⟨⟨tb7 52 rfl rfl, tb1 12 rfl rfl, by decide, by decide, by decide +kernel⟩, tb7 51 rfl rfl, tbP (q := (M_X11_burn.1, 79)) (nthq_mem (i := 71) rfl)⟩
theorem mv_X11_issue : mvq M_X11_issue 1 := ⟨⟨tb7 36 rfl rfl, tb1 12 rfl rfl, by decide, by decide, by decide +kernel⟩, tb7 35 rfl rfl, tbP (q := (M_X11_issue.1, 79)) (nthq_mem (i := 67) rfl)⟩
theorem mv_X11_change : mvq M_X11_change 2 := ⟨⟨tb7 72 rfl rfl, tb1 12 rfl rfl, by decide, by decide, by decide +kernel⟩, tb7 71 rfl rfl, tbP (q := (M_X11_change.1, 79)) (nthq_mem (i := 76) rfl)⟩
theorem mv_X11_befall : mvq M_X11_befall 1 := ⟨⟨tb7 32 rfl rfl, tb1 12 rfl rfl, by decide, by decide, by decide +kernel⟩, tb7 31 rfl rfl, tbP (q := (M_X11_befall.1, 79)) (nthq_mem (i := 66) rfl)⟩
theorem mv_X11_tell : mvq M_X11_tell 2 := ⟨⟨tb7 28 rfl rfl, tb1 12 rfl rfl, by decide, by decide, by decide +kernel⟩, tb7 27 rfl rfl, tbP (q := (M_X11_tell.1, 79)) (nthq_mem (i := 65) rfl)⟩
theorem mv_X11_told : mvq M_X11_told 2 := ⟨⟨tb7 24 rfl rfl, tb1 12 rfl rfl, by decide, by decide, by decide +kernel⟩, tb7 22 rfl rfl, tb7 23 rfl rfl⟩
theorem mv_X11_linesNow : mvq M_X11_linesNow 1 := ⟨⟨tb7 80 rfl rfl, tb1 12 rfl rfl, by decide, by decide, by decide +kernel⟩, tb7 79 rfl rfl, tbP (q := (M_X11_linesNow.1, 79)) (nthq_mem (i := 77) rfl)⟩
theorem mv_X11_papersToday : mvq M_X11_papersToday 0 := ⟨⟨tb7 84 rfl rfl, tb1 12 rfl rfl, by decide, by decide, by decide +kernel⟩, tb7 83 rfl rfl, tbP (q := (M_X11_papersToday.1, 79)) (nthq_mem (i := 78) rfl)⟩
theorem mv_X11_count : mvq M_X11_count 1 := ⟨⟨tb7 76 rfl rfl, tb1 12 rfl rfl, by decide, by decide, by decide +kernel⟩, tb7 74 rfl rfl, tb7 75 rfl rfl⟩
theorem mv_X11_whyNot : mvq M_X11_whyNot 5 := ⟨⟨tb7 92 rfl rfl, tb1 12 rfl rfl, by decide, by decide, by decide +kernel⟩, tb7 91 rfl rfl, tbP (q := (M_X11_whyNot.1, 79)) (nthq_mem (i := 79) rfl)⟩
theorem mv_X11_paper : mvq M_X11_paper 4 := ⟨⟨tb7 88 rfl rfl, tb1 12 rfl rfl, by decide, by decide, by decide +kernel⟩, tb7 86 rfl rfl, tb7 87 rfl rfl⟩
theorem mv_X11_over : mvq M_X11_over 1 := ⟨⟨tb7 100 rfl rfl, tb1 12 rfl rfl, by decide, by decide, by decide +kernel⟩, tb7 99 rfl rfl, tbP (q := (M_X11_over.1, 79)) (nthq_mem (i := 80) rfl)⟩
theorem mv_X11_goods : mvq M_X11_goods 4 := ⟨⟨tb7 96 rfl rfl, tb1 12 rfl rfl, by decide, by decide, by decide +kernel⟩, tb7 94 rfl rfl, tb7 95 rfl rfl⟩
theorem mv_X11_share : mvq M_X11_share 4 := ⟨⟨tb7 104 rfl rfl, tb1 12 rfl rfl, by decide, by decide, by decide +kernel⟩, tb7 102 rfl rfl, tb7 103 rfl rfl⟩
theorem mv_X11_fewestFrom : mvq M_X11_fewestFrom 2 := ⟨⟨tb7 115 rfl rfl, tb1 12 rfl rfl, by decide, by decide, by decide +kernel⟩, tb7 114 rfl rfl, tbP (q := (M_X11_fewestFrom.1, 79)) (nthq_mem (i := 81) rfl)⟩
theorem mv_X11_doubt : mvq M_X11_doubt 4 := ⟨⟨tb7 111 rfl rfl, tb1 12 rfl rfl, by decide, by decide, by decide +kernel⟩, tb7 109 rfl rfl, tb7 110 rfl rfl⟩
theorem mv_X11_stock : mvq M_X11_stock 3 := ⟨⟨tb7 119 rfl rfl, tb1 12 rfl rfl, by decide, by decide, by decide +kernel⟩, tb7 117 rfl rfl, tb7 118 rfl rfl⟩
theorem mv_X11_news : mvq M_X11_news 3 := ⟨⟨tb7 123 rfl rfl, tb1 12 rfl rfl, by decide, by decide, by decide +kernel⟩, tb7 121 rfl rfl, tb7 122 rfl rfl⟩
theorem mv_X11_rentOf : mvq M_X11_rentOf 2 := ⟨⟨tb7 131 rfl rfl, tb1 12 rfl rfl, by decide, by decide, by decide +kernel⟩, tb7 130 rfl rfl, tbP (q := (M_X11_rentOf.1, 79)) (nthq_mem (i := 82) rfl)⟩
theorem mv_X11_rent : mvq M_X11_rent 2 := ⟨⟨tb7 127 rfl rfl, tb1 12 rfl rfl, by decide, by decide, by decide +kernel⟩, tb7 125 rfl rfl, tb7 126 rfl rfl⟩
theorem mv_X11_weightOn : mvq M_X11_weightOn 2 := ⟨⟨tb7 139 rfl rfl, tb1 12 rfl rfl, by decide, by decide, by decide +kernel⟩, tb7 138 rfl rfl, tbP (q := (M_X11_weightOn.1, 79)) (nthq_mem (i := 83) rfl)⟩
theorem mv_X11_weight : mvq M_X11_weight 2 := ⟨⟨tb7 135 rfl rfl, tb1 12 rfl rfl, by decide, by decide, by decide +kernel⟩, tb7 133 rfl rfl, tb7 134 rfl rfl⟩
theorem mv_X11_weigh : mvq M_X11_weigh 3 := ⟨⟨tb7 143 rfl rfl, tb1 12 rfl rfl, by decide, by decide, by decide +kernel⟩, tb7 141 rfl rfl, tb7 142 rfl rfl⟩
theorem mv_X11_loss : mvq M_X11_loss 2 := ⟨⟨tb7 148 rfl rfl, tb1 12 rfl rfl, by decide, by decide, by decide +kernel⟩, tb7 146 rfl rfl, tb7 147 rfl rfl⟩
theorem mv_X11_unpaid : mvq M_X11_unpaid 3 := ⟨⟨tb7 154 rfl rfl, tb1 12 rfl rfl, by decide, by decide, by decide +kernel⟩, tb7 152 rfl rfl, tb7 153 rfl rfl⟩
theorem mv_X11_wants : mvq M_X11_wants 3 := ⟨⟨tb7 165 rfl rfl, tb1 12 rfl rfl, by decide, by decide, by decide +kernel⟩, tb7 164 rfl rfl, tbP (q := (M_X11_wants.1, 79)) (nthq_mem (i := 84) rfl)⟩
theorem mv_X11_money : mvq M_X11_money 4 := ⟨⟨tb7 159 rfl rfl, tb1 12 rfl rfl, by decide, by decide, by decide +kernel⟩, tb7 157 rfl rfl, tb7 158 rfl rfl⟩
theorem mv_X11_sale : mvq M_X11_sale 4 := ⟨⟨tb7 170 rfl rfl, tb1 12 rfl rfl, by decide, by decide, by decide +kernel⟩, tb7 168 rfl rfl, tb7 169 rfl rfl⟩
theorem mv_X11_net : mvq M_X11_net 2 := ⟨⟨tb7 175 rfl rfl, tb1 12 rfl rfl, by decide, by decide, by decide +kernel⟩, tb7 173 rfl rfl, tb7 174 rfl rfl⟩
theorem mv_X11_handings : mvq M_X11_handings 1 := ⟨⟨tb7 179 rfl rfl, tb1 12 rfl rfl, by decide, by decide, by decide +kernel⟩, tb7 177 rfl rfl, tb7 178 rfl rfl⟩
theorem mv_X11_due : mvq M_X11_due 3 := ⟨⟨tb7 183 rfl rfl, tb1 12 rfl rfl, by decide, by decide, by decide +kernel⟩, tb7 181 rfl rfl, tb7 182 rfl rfl⟩
theorem mv_X11_coin : mvq M_X11_coin 2 := ⟨⟨tb7 187 rfl rfl, tb1 12 rfl rfl, by decide, by decide, by decide +kernel⟩, tb7 185 rfl rfl, tb7 186 rfl rfl⟩
theorem mv_X11_owes : mvq M_X11_owes 1 := ⟨⟨tb7 199 rfl rfl, tb1 12 rfl rfl, by decide, by decide, by decide +kernel⟩, tb7 198 rfl rfl, tbP (q := (M_X11_owes.1, 79)) (nthq_mem (i := 86) rfl)⟩
theorem mv_X11_has : mvq M_X11_has 1 := ⟨⟨tb7 203 rfl rfl, tb1 12 rfl rfl, by decide, by decide, by decide +kernel⟩, tb7 202 rfl rfl, tbP (q := (M_X11_has.1, 79)) (nthq_mem (i := 87) rfl)⟩
theorem mv_X11_gives : mvq M_X11_gives 1 := ⟨⟨tb7 207 rfl rfl, tb1 12 rfl rfl, by decide, by decide, by decide +kernel⟩, tb7 206 rfl rfl, tbP (q := (M_X11_gives.1, 79)) (nthq_mem (i := 88) rfl)⟩
theorem mv_X11_goRounds : mvq M_X11_goRounds 0 := ⟨⟨tb7 195 rfl rfl, tb1 12 rfl rfl, by decide, by decide, by decide +kernel⟩, tb7 194 rfl rfl, tbP (q := (M_X11_goRounds.1, 79)) (nthq_mem (i := 85) rfl)⟩
theorem mv_X11_fails : mvq M_X11_fails 2 := ⟨⟨tb7 191 rfl rfl, tb1 12 rfl rfl, by decide, by decide, by decide +kernel⟩, tb7 189 rfl rfl, tb7 190 rfl rfl⟩
theorem mv_X11_part : mvq M_X11_part 3 := ⟨⟨tb7 211 rfl rfl, tb1 12 rfl rfl, by decide, by decide, by decide +kernel⟩, tb7 209 rfl rfl, tb7 210 rfl rfl⟩
theorem mv_X11_mayLie : mvq M_X11_mayLie 2 := ⟨⟨tb7 227 rfl rfl, tb1 12 rfl rfl, by decide, by decide, by decide +kernel⟩, tb7 226 rfl rfl, tbP (q := (M_X11_mayLie.1, 79)) (nthq_mem (i := 91) rfl)⟩
theorem mv_X11_put : mvq M_X11_put 3 := ⟨⟨tb7 219 rfl rfl, tb1 12 rfl rfl, by decide, by decide, by decide +kernel⟩, tb7 218 rfl rfl, tbP (q := (M_X11_put.1, 79)) (nthq_mem (i := 89) rfl)⟩
theorem mv_X11_layAll : mvq M_X11_layAll 0 := ⟨⟨tb7 223 rfl rfl, tb1 12 rfl rfl, by decide, by decide, by decide +kernel⟩, tb7 222 rfl rfl, tbP (q := (M_X11_layAll.1, 79)) (nthq_mem (i := 90) rfl)⟩
theorem mv_X11_plan : mvq M_X11_plan 2 := ⟨⟨tb7 215 rfl rfl, tb1 12 rfl rfl, by decide, by decide, by decide +kernel⟩, tb7 213 rfl rfl, tb7 214 rfl rfl⟩
theorem ms_J6_bitCount_0f7a4 : msq M_J6_bitCount_0f7a4 1 := ⟨⟨tb5 59 rfl rfl, tb1 18 rfl rfl, by decide, by decide, by decide +kernel⟩, tb5 58 rfl rfl⟩
theorem ms_J9_max_7cf53 : msq M_J9_max_7cf53 2 := ⟨⟨tb3 91 rfl rfl, tb1 13 rfl rfl, by decide, by decide, by decide +kernel⟩, tb3 90 rfl rfl⟩
theorem ms_J9_min_7cf53 : msq M_J9_min_7cf53 2 := ⟨⟨tb4 138 rfl rfl, tb1 13 rfl rfl, by decide, by decide, by decide +kernel⟩, tb4 137 rfl rfl⟩
theorem ms_J9_min_f86c9 : msq M_J9_min_f86c9 2 := ⟨⟨tb5 99 rfl rfl, tb1 13 rfl rfl, by decide, by decide, by decide +kernel⟩, tb5 98 rfl rfl⟩
theorem mv_J0_length_8abf5 : mvq M_J0_length_8abf5 0 := ⟨⟨tb3 229 rfl rfl, tb1 14 rfl rfl, by decide, by decide, by decide +kernel⟩, tb3 227 rfl rfl, tb3 228 rfl rfl⟩
theorem mv_J0_charAt_5068e : mvq M_J0_charAt_5068e 1 := ⟨⟨tb3 239 rfl rfl, tb1 14 rfl rfl, by decide, by decide, by decide +kernel⟩, tb3 237 rfl rfl, tb3 238 rfl rfl⟩
theorem mv_J0_coder_7d493 : mvq M_J0_coder_7d493 0 := ⟨⟨tb3 233 rfl rfl, tb1 14 rfl rfl, by decide, by decide, by decide +kernel⟩, tb3 231 rfl rfl, tb3 232 rfl rfl⟩
theorem mv_J0_isLatin1_aae02 : mvq M_J0_isLatin1_aae02 0 := ⟨⟨tb4 3 rfl rfl, tb1 14 rfl rfl, by decide, by decide, by decide +kernel⟩, tb4 1 rfl rfl, tb4 2 rfl rfl⟩
theorem ms_J0_checkIndex_df160 : msq M_J0_checkIndex_df160 2 := ⟨⟨tb4 9 rfl rfl, tb1 14 rfl rfl, by decide, by decide, by decide +kernel⟩, tb4 8 rfl rfl⟩
theorem ms_J1_charAt_3b067 : msq M_J1_charAt_3b067 2 := ⟨⟨tb4 6 rfl rfl, tb1 15 rfl rfl, by decide, by decide, by decide +kernel⟩, tb4 5 rfl rfl⟩
theorem ms_J2_getChar_3b067 : msq M_J2_getChar_3b067 2 := ⟨⟨tb4 27 rfl rfl, tb1 17 rfl rfl, by decide, by decide, by decide +kernel⟩, tb4 26 rfl rfl⟩
theorem ms_J2_length_9d52b : msq M_J2_length_9d52b 1 := ⟨⟨tb4 23 rfl rfl, tb1 17 rfl rfl, by decide, by decide, by decide +kernel⟩, tb4 22 rfl rfl⟩
theorem ms_J2_charAt_3b067 : msq M_J2_charAt_3b067 2 := ⟨⟨tb4 17 rfl rfl, tb1 17 rfl rfl, by decide, by decide, by decide +kernel⟩, tb4 16 rfl rfl⟩
theorem ms_J2_checkIndex_2214a : msq M_J2_checkIndex_2214a 2 := ⟨⟨tb4 20 rfl rfl, tb1 17 rfl rfl, by decide, by decide, by decide +kernel⟩, tb4 19 rfl rfl⟩
theorem ms_J3_checkIndex_8e157 : msq M_J3_checkIndex_8e157 3 := ⟨⟨tb4 14 rfl rfl, tb1 16 rfl rfl, by decide, by decide, by decide +kernel⟩, tb4 13 rfl rfl⟩
theorem oi_2 : Cond.instanceMethod Lib.objectInit ∈ tbG := tb1 25 rfl rfl
theorem oi_3 : Cond.code Lib.objectInit ⟨#[0xb1]⟩ 1 none ∈ tbG := tb1 26 rfl rfl
theorem kc_X10_303 : Jvm.Cond.constant RX10 303 (199999) ∈ tbG := tb4 183 rfl rfl
theorem kc_X10_320 : Jvm.Cond.constant RX10 320 (99999) ∈ tbG := tb4 201 rfl rfl
theorem kc_J6_265 : Jvm.Cond.constant "java/lang/Integer" 265 (1431655765) ∈ tbG := tb5 60 rfl rfl
theorem kc_J6_266 : Jvm.Cond.constant "java/lang/Integer" 266 (858993459) ∈ tbG := tb5 61 rfl rfl
theorem kc_J6_267 : Jvm.Cond.constant "java/lang/Integer" 267 (252645135) ∈ tbG := tb5 62 rfl rfl
theorem kc_X11_427 : Jvm.Cond.constant RX11 427 (1000000000) ∈ tbG := tb7 166 rfl rfl
theorem kc_X10_318 : Jvm.Cond.constantLong RX10 318 (1000) ∈ tbG := tb4 192 rfl rfl
theorem kc_X4_46 : Jvm.Cond.constantLong RX4 46 (1152921504606846976) ∈ tbG := tb5 76 rfl rfl
theorem kc_X4_74 : Jvm.Cond.constantLong RX4 74 (1679616) ∈ tbG := tb5 83 rfl rfl
theorem kc_X4_91 : Jvm.Cond.constantLong RX4 91 (6) ∈ tbG := tb5 112 rfl rfl
theorem kc_X11_211 : Jvm.Cond.constantLong RX11 211 (999) ∈ tbG := tb6 121 rfl rfl
theorem kc_X11_195 : Jvm.Cond.constantLong RX11 195 (7) ∈ tbG := tb6 132 rfl rfl
theorem kc_X11_201 : Jvm.Cond.constantLong RX11 201 (5) ∈ tbG := tb6 136 rfl rfl
theorem kc_X11_220 : Jvm.Cond.constantLong RX11 220 (3) ∈ tbG := tb6 137 rfl rfl
theorem kc_X11_222 : Jvm.Cond.constantLong RX11 222 (200) ∈ tbG := tb6 138 rfl rfl
theorem kc_X11_236 : Jvm.Cond.constantLong RX11 236 (10) ∈ tbG := tb6 155 rfl rfl
theorem kc_X11_262 : Jvm.Cond.constantLong RX11 262 (8) ∈ tbG := tb6 192 rfl rfl
theorem kc_X11_267 : Jvm.Cond.constantLong RX11 267 (255) ∈ tbG := tb6 193 rfl rfl
theorem kc_X11_203 : Jvm.Cond.constantLong RX11 203 (2000) ∈ tbG := tb6 201 rfl rfl
theorem kc_X11_282 : Jvm.Cond.constantLong RX11 282 (97) ∈ tbG := tb6 210 rfl rfl
theorem kc_X11_284 : Jvm.Cond.constantLong RX11 284 (122) ∈ tbG := tb6 211 rfl rfl
theorem kc_X11_289 : Jvm.Cond.constantLong RX11 289 (48) ∈ tbG := tb6 235 rfl rfl
theorem kc_X11_291 : Jvm.Cond.constantLong RX11 291 (57) ∈ tbG := tb6 236 rfl rfl
theorem kc_X11_339 : Jvm.Cond.constantLong RX11 339 (13) ∈ tbG := tb7 16 rfl rfl
theorem kc_X11_419 : Jvm.Cond.constantLong RX11 419 (199999) ∈ tbG := tb7 144 rfl rfl
theorem kc_X11_421 : Jvm.Cond.constantLong RX11 421 (2) ∈ tbG := tb7 149 rfl rfl
theorem kc_X11_423 : Jvm.Cond.constantLong RX11 423 (1000) ∈ tbG := tb7 150 rfl rfl
theorem kc_X11_425 : Jvm.Cond.constantLong RX11 425 (9999) ∈ tbG := tb7 155 rfl rfl
theorem kc_X11_428 : Jvm.Cond.constantLong RX11 428 (99999) ∈ tbG := tb7 160 rfl rfl
theorem kc_X11_430 : Jvm.Cond.constantLong RX11 430 (4) ∈ tbG := tb7 161 rfl rfl
theorem kc_X11_436 : Jvm.Cond.constantLong RX11 436 (99) ∈ tbG := tb7 171 rfl rfl
theorem kc_L_49 : Jvm.Cond.constantLong "WharfPapersLaw" 49 (4294967295) ∈ tbG := tb7 228 rfl rfl
theorem cl_L_7 : Cond.classLink "WharfPapersLaw" 7 "WharfPapers" ∈ tbG := tb1 19 rfl rfl
theorem cl_X10_13 : Cond.classLink RX10 13 "WharfPapers$Lots" ∈ tbG := tb1 27 rfl rfl
theorem cl_X10_20 : Cond.classLink RX10 20 "WharfPapers$Lines" ∈ tbG := tb1 64 rfl rfl
theorem cl_X10_27 : Cond.classLink RX10 27 "WharfPapers$Terms" ∈ tbG := tb1 122 rfl rfl
theorem cl_X8_20 : Cond.classLink RX8 20 "[[I" ∈ tbG := tb1 128 rfl rfl
theorem cl_X10_34 : Cond.classLink RX10 34 "WharfPapers$Reader" ∈ tbG := tb1 159 rfl rfl
theorem cl_X10_41 : Cond.classLink RX10 41 "WharfPapers$Story" ∈ tbG := tb1 199 rfl rfl
theorem cl_X10_53 : Cond.classLink RX10 53 "WharfPapers$Doubt" ∈ tbG := tb2 30 rfl rfl
theorem cl_X10_60 : Cond.classLink RX10 60 "WharfPapers$Weighings" ∈ tbG := tb2 47 rfl rfl
theorem cl_X10_67 : Cond.classLink RX10 67 "[[I" ∈ tbG := tb2 74 rfl rfl
theorem cl_X10_72 : Cond.classLink RX10 72 "WharfPapers$Sales" ∈ tbG := tb2 75 rfl rfl
theorem cl_X10_79 : Cond.classLink RX10 79 "WharfPapers$Dues" ∈ tbG := tb2 107 rfl rfl
theorem cl_X10_93 : Cond.classLink RX10 93 "WharfPapers$Plan" ∈ tbG := tb2 150 rfl rfl
theorem cl_L_10 : Cond.classLink "WharfPapersLaw" 10 "WharfPapersModel" ∈ tbG := tb5 113 rfl rfl
theorem in_X10 : Cond.instantiable RX10 15 ∈ tbG := tb1 20 rfl rfl
theorem in_X3 : Cond.instantiable RX3 6 ∈ tbG := tb1 28 rfl rfl
theorem in_X2 : Cond.instantiable RX2 11 ∈ tbG := tb1 65 rfl rfl
theorem in_X8 : Cond.instantiable RX8 9 ∈ tbG := tb1 123 rfl rfl
theorem in_X5 : Cond.instantiable RX5 9 ∈ tbG := tb1 160 rfl rfl
theorem in_X7 : Cond.instantiable RX7 16 ∈ tbG := tb1 200 rfl rfl
theorem in_X0 : Cond.instantiable RX0 3 ∈ tbG := tb2 31 rfl rfl
theorem in_X9 : Cond.instantiable RX9 5 ∈ tbG := tb2 48 rfl rfl
theorem in_X6 : Cond.instantiable RX6 8 ∈ tbG := tb2 76 rfl rfl
theorem in_X1 : Cond.instantiable RX1 10 ∈ tbG := tb2 108 rfl rfl
theorem in_X4 : Cond.instantiable RX4 7 ∈ tbG := tb2 151 rfl rfl
theorem in_X11 : Cond.instantiable RX11 79 ∈ tbG := tb5 114 rfl rfl
theorem iz_L : Cond.initialized "WharfPapersLaw" ∈ tbG := tb1 0 rfl rfl
theorem iz_X10 : Cond.initialized RX10 ∈ tbG := tb1 1 rfl rfl
theorem iz_X3 : Cond.initialized RX3 ∈ tbG := tb1 2 rfl rfl
theorem iz_X2 : Cond.initialized RX2 ∈ tbG := tb1 3 rfl rfl
theorem iz_X8 : Cond.initialized RX8 ∈ tbG := tb1 4 rfl rfl
theorem iz_X5 : Cond.initialized RX5 ∈ tbG := tb1 5 rfl rfl
theorem iz_X7 : Cond.initialized RX7 ∈ tbG := tb1 6 rfl rfl
theorem iz_X0 : Cond.initialized RX0 ∈ tbG := tb1 7 rfl rfl
theorem iz_X9 : Cond.initialized RX9 ∈ tbG := tb1 8 rfl rfl
theorem iz_X6 : Cond.initialized RX6 ∈ tbG := tb1 9 rfl rfl
theorem iz_X1 : Cond.initialized RX1 ∈ tbG := tb1 10 rfl rfl
theorem iz_X4 : Cond.initialized RX4 ∈ tbG := tb1 11 rfl rfl
theorem iz_X11 : Cond.initialized RX11 ∈ tbG := tb1 12 rfl rfl
theorem iz_J9 : Cond.initialized "java/lang/Math" ∈ tbG := tb1 13 rfl rfl
theorem iz_J0 : Cond.initialized "java/lang/String" ∈ tbG := tb1 14 rfl rfl
theorem iz_J1 : Cond.initialized "java/lang/StringLatin1" ∈ tbG := tb1 15 rfl rfl
theorem iz_J3 : Cond.initialized "jdk/internal/util/Preconditions" ∈ tbG := tb1 16 rfl rfl
theorem iz_J2 : Cond.initialized "java/lang/StringUTF16" ∈ tbG := tb1 17 rfl rfl
theorem iz_J6 : Cond.initialized "java/lang/Integer" ∈ tbG := tb1 18 rfl rfl
theorem ac_int : Cond.arrayClass .int ∈ tbG := tb1 63 rfl rfl
theorem ac_boolean : Cond.arrayClass .boolean ∈ tbG := tb1 121 rfl rfl
theorem ac_long : Cond.arrayClass .long ∈ tbG := tb2 178 rfl rfl
theorem ac_byte : Cond.arrayClass .byte ∈ tbG := tb4 72 rfl rfl
end
