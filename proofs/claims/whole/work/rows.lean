section
-- ===== PART A: goes FIRST, ahead of the names: the tables' words, and 'selects' of the private methods out of them =====
/-- a private method of a class that the tables say can be made, by its rows of tables_1 -/
def lw_okq (q : MethodName × Nat) : Prop := (q.1.cls ≠ "java/lang/invoke/MethodHandle" ∧ q.1.cls ≠ "java/lang/invoke/VarHandle") ∧ Cond.instantiable q.1.cls q.2 ∈ tables_1 ∧ Cond.privateMethod q.1 ∈ tables_1 ∧ Cond.instanceMethod q.1 ∈ tables_1
theorem lw_p0 : lw_okq (⟨"WharfPapers", "isTarget", "(II)Z"⟩, 15) := ⟨⟨by decide +kernel, by decide +kernel⟩, List.mem_of_getElem? (i := 20) (by decide +kernel), List.mem_of_getElem? (i := 510) (by decide +kernel), List.mem_of_getElem? (i := 511) (by decide +kernel)⟩
theorem lw_p1 : lw_okq (⟨"WharfPapers$Story", "clear", "()V"⟩, 16) := ⟨⟨by decide +kernel, by decide +kernel⟩, List.mem_of_getElem? (i := 200) (by decide +kernel), List.mem_of_getElem? (i := 541) (by decide +kernel), List.mem_of_getElem? (i := 542) (by decide +kernel)⟩
theorem lw_p2 : lw_okq (⟨"WharfPapers$Story", "isDone", "(I)Z"⟩, 16) := ⟨⟨by decide +kernel, by decide +kernel⟩, List.mem_of_getElem? (i := 200) (by decide +kernel), List.mem_of_getElem? (i := 550) (by decide +kernel), List.mem_of_getElem? (i := 551) (by decide +kernel)⟩
theorem lw_p3 : lw_okq (⟨"WharfPapers$Story", "issue", "(II)Z"⟩, 16) := ⟨⟨by decide +kernel, by decide +kernel⟩, List.mem_of_getElem? (i := 200) (by decide +kernel), List.mem_of_getElem? (i := 554) (by decide +kernel), List.mem_of_getElem? (i := 555) (by decide +kernel)⟩
theorem lw_p4 : lw_okq (⟨"WharfPapers$Story", "make", "(IIIII)V"⟩, 16) := ⟨⟨by decide +kernel, by decide +kernel⟩, List.mem_of_getElem? (i := 200) (by decide +kernel), List.mem_of_getElem? (i := 558) (by decide +kernel), List.mem_of_getElem? (i := 559) (by decide +kernel)⟩
theorem lw_p5 : lw_okq (⟨"WharfPapers$Story", "pass", "(II)Z"⟩, 16) := ⟨⟨by decide +kernel, by decide +kernel⟩, List.mem_of_getElem? (i := 200) (by decide +kernel), List.mem_of_getElem? (i := 573) (by decide +kernel), List.mem_of_getElem? (i := 574) (by decide +kernel)⟩
theorem lw_p6 : lw_okq (⟨"WharfPapers$Terms", "hold", "(I)V"⟩, 9) := ⟨⟨by decide +kernel, by decide +kernel⟩, List.mem_of_getElem? (i := 123) (by decide +kernel), List.mem_of_getElem? (i := 581) (by decide +kernel), List.mem_of_getElem? (i := 582) (by decide +kernel)⟩
theorem lw_p7 : lw_okq (⟨"WharfPapers$Terms", "strike", "(I)V"⟩, 9) := ⟨⟨by decide +kernel, by decide +kernel⟩, List.mem_of_getElem? (i := 123) (by decide +kernel), List.mem_of_getElem? (i := 585) (by decide +kernel), List.mem_of_getElem? (i := 586) (by decide +kernel)⟩
theorem lw_p8 : lw_okq (⟨"WharfPapers$Terms", "rule", "(I)V"⟩, 9) := ⟨⟨by decide +kernel, by decide +kernel⟩, List.mem_of_getElem? (i := 123) (by decide +kernel), List.mem_of_getElem? (i := 591) (by decide +kernel), List.mem_of_getElem? (i := 592) (by decide +kernel)⟩
theorem lw_p9 : lw_okq (⟨"WharfPapers$Story", "divide", "(II)Z"⟩, 16) := ⟨⟨by decide +kernel, by decide +kernel⟩, List.mem_of_getElem? (i := 200) (by decide +kernel), List.mem_of_getElem? (i := 595) (by decide +kernel), List.mem_of_getElem? (i := 596) (by decide +kernel)⟩
theorem lw_p10 : lw_okq (⟨"WharfPapers$Story", "isBound", "(I)Z"⟩, 16) := ⟨⟨by decide +kernel, by decide +kernel⟩, List.mem_of_getElem? (i := 200) (by decide +kernel), List.mem_of_getElem? (i := 599) (by decide +kernel), List.mem_of_getElem? (i := 600) (by decide +kernel)⟩
theorem lw_p11 : lw_okq (⟨"WharfPapers$Story", "lend", "(II)Z"⟩, 16) := ⟨⟨by decide +kernel, by decide +kernel⟩, List.mem_of_getElem? (i := 200) (by decide +kernel), List.mem_of_getElem? (i := 603) (by decide +kernel), List.mem_of_getElem? (i := 604) (by decide +kernel)⟩
theorem lw_p12 : lw_okq (⟨"WharfPapers$Story", "repay", "(I)Z"⟩, 16) := ⟨⟨by decide +kernel, by decide +kernel⟩, List.mem_of_getElem? (i := 200) (by decide +kernel), List.mem_of_getElem? (i := 607) (by decide +kernel), List.mem_of_getElem? (i := 608) (by decide +kernel)⟩
theorem lw_p13 : lw_okq (⟨"WharfPapers$Story", "stop", "(II)Z"⟩, 16) := ⟨⟨by decide +kernel, by decide +kernel⟩, List.mem_of_getElem? (i := 200) (by decide +kernel), List.mem_of_getElem? (i := 611) (by decide +kernel), List.mem_of_getElem? (i := 612) (by decide +kernel)⟩
theorem lw_p14 : lw_okq (⟨"WharfPapers$Story", "free", "(I)Z"⟩, 16) := ⟨⟨by decide +kernel, by decide +kernel⟩, List.mem_of_getElem? (i := 200) (by decide +kernel), List.mem_of_getElem? (i := 615) (by decide +kernel), List.mem_of_getElem? (i := 616) (by decide +kernel)⟩
theorem lw_p15 : lw_okq (⟨"WharfPapers$Story", "handOut", "(II)Z"⟩, 16) := ⟨⟨by decide +kernel, by decide +kernel⟩, List.mem_of_getElem? (i := 200) (by decide +kernel), List.mem_of_getElem? (i := 619) (by decide +kernel), List.mem_of_getElem? (i := 620) (by decide +kernel)⟩
def lw_privs_1 : List (MethodName × Nat) := [(⟨"WharfPapers", "isTarget", "(II)Z"⟩, 15), (⟨"WharfPapers$Story", "clear", "()V"⟩, 16), (⟨"WharfPapers$Story", "isDone", "(I)Z"⟩, 16), (⟨"WharfPapers$Story", "issue", "(II)Z"⟩, 16), (⟨"WharfPapers$Story", "make", "(IIIII)V"⟩, 16), (⟨"WharfPapers$Story", "pass", "(II)Z"⟩, 16), (⟨"WharfPapers$Terms", "hold", "(I)V"⟩, 9), (⟨"WharfPapers$Terms", "strike", "(I)V"⟩, 9), (⟨"WharfPapers$Terms", "rule", "(I)V"⟩, 9), (⟨"WharfPapers$Story", "divide", "(II)Z"⟩, 16), (⟨"WharfPapers$Story", "isBound", "(I)Z"⟩, 16), (⟨"WharfPapers$Story", "lend", "(II)Z"⟩, 16), (⟨"WharfPapers$Story", "repay", "(I)Z"⟩, 16), (⟨"WharfPapers$Story", "stop", "(II)Z"⟩, 16), (⟨"WharfPapers$Story", "free", "(I)Z"⟩, 16), (⟨"WharfPapers$Story", "handOut", "(II)Z"⟩, 16)]
theorem lw_r1 : ∀ q ∈ lw_privs_1, lw_okq q := List.forall_mem_cons.mpr ⟨lw_p0, List.forall_mem_cons.mpr ⟨lw_p1, List.forall_mem_cons.mpr ⟨lw_p2, List.forall_mem_cons.mpr ⟨lw_p3, List.forall_mem_cons.mpr ⟨lw_p4, List.forall_mem_cons.mpr ⟨lw_p5, List.forall_mem_cons.mpr ⟨lw_p6, List.forall_mem_cons.mpr ⟨lw_p7, List.forall_mem_cons.mpr ⟨lw_p8, List.forall_mem_cons.mpr ⟨lw_p9, List.forall_mem_cons.mpr ⟨lw_p10, List.forall_mem_cons.mpr ⟨lw_p11, List.forall_mem_cons.mpr ⟨lw_p12, List.forall_mem_cons.mpr ⟨lw_p13, List.forall_mem_cons.mpr ⟨lw_p14, List.forall_mem_cons.mpr ⟨lw_p15, fun _ h => absurd h List.not_mem_nil⟩⟩⟩⟩⟩⟩⟩⟩⟩⟩⟩⟩⟩⟩⟩⟩
theorem lw_p16 : lw_okq (⟨"WharfPapers$Story", "burn", "(II)Z"⟩, 16) := ⟨⟨by decide +kernel, by decide +kernel⟩, List.mem_of_getElem? (i := 200) (by decide +kernel), List.mem_of_getElem? (i := 623) (by decide +kernel), List.mem_of_getElem? (i := 624) (by decide +kernel)⟩
theorem lw_p17 : lw_okq (⟨"WharfPapers$Story", "steal", "(II)Z"⟩, 16) := ⟨⟨by decide +kernel, by decide +kernel⟩, List.mem_of_getElem? (i := 200) (by decide +kernel), List.mem_of_getElem? (i := 627) (by decide +kernel), List.mem_of_getElem? (i := 628) (by decide +kernel)⟩
theorem lw_p18 : lw_okq (⟨"WharfPapers$Reader", "skipBlanks", "()V"⟩, 9) := ⟨⟨by decide +kernel, by decide +kernel⟩, List.mem_of_getElem? (i := 160) (by decide +kernel), List.mem_of_getElem? (i := 675) (by decide +kernel), List.mem_of_getElem? (i := 676) (by decide +kernel)⟩
theorem lw_p19 : lw_okq (⟨"WharfPapers$Reader", "readClause", "(I)V"⟩, 9) := ⟨⟨by decide +kernel, by decide +kernel⟩, List.mem_of_getElem? (i := 160) (by decide +kernel), List.mem_of_getElem? (i := 679) (by decide +kernel), List.mem_of_getElem? (i := 680) (by decide +kernel)⟩
theorem lw_p20 : lw_okq (⟨"WharfPapers$Reader", "takeWord", "(II)I"⟩, 9) := ⟨⟨by decide +kernel, by decide +kernel⟩, List.mem_of_getElem? (i := 160) (by decide +kernel), List.mem_of_getElem? (i := 683) (by decide +kernel), List.mem_of_getElem? (i := 684) (by decide +kernel)⟩
theorem lw_p21 : lw_okq (⟨"WharfPapers$Reader", "isSpelled", "(Ljava/lang/String;I)Z"⟩, 9) := ⟨⟨by decide +kernel, by decide +kernel⟩, List.mem_of_getElem? (i := 160) (by decide +kernel), List.mem_of_getElem? (i := 703) (by decide +kernel), List.mem_of_getElem? (i := 704) (by decide +kernel)⟩
theorem lw_p22 : lw_okq (⟨"WharfPapers$Reader", "fail", "(II)V"⟩, 9) := ⟨⟨by decide +kernel, by decide +kernel⟩, List.mem_of_getElem? (i := 160) (by decide +kernel), List.mem_of_getElem? (i := 755) (by decide +kernel), List.mem_of_getElem? (i := 756) (by decide +kernel)⟩
theorem lw_p23 : lw_okq (⟨"WharfPapers$Reader", "readLet", "()V"⟩, 9) := ⟨⟨by decide +kernel, by decide +kernel⟩, List.mem_of_getElem? (i := 160) (by decide +kernel), List.mem_of_getElem? (i := 759) (by decide +kernel), List.mem_of_getElem? (i := 760) (by decide +kernel)⟩
theorem lw_p24 : lw_okq (⟨"WharfPapers$Reader", "takeNumber", "(I)I"⟩, 9) := ⟨⟨by decide +kernel, by decide +kernel⟩, List.mem_of_getElem? (i := 160) (by decide +kernel), List.mem_of_getElem? (i := 765) (by decide +kernel), List.mem_of_getElem? (i := 766) (by decide +kernel)⟩
theorem lw_p25 : lw_okq (⟨"WharfPapers$Reader", "keep", "(II)V"⟩, 9) := ⟨⟨by decide +kernel, by decide +kernel⟩, List.mem_of_getElem? (i := 160) (by decide +kernel), List.mem_of_getElem? (i := 769) (by decide +kernel), List.mem_of_getElem? (i := 770) (by decide +kernel)⟩
theorem lw_p26 : lw_okq (⟨"WharfPapers$Reader", "takeIf", "(C)Z"⟩, 9) := ⟨⟨by decide +kernel, by decide +kernel⟩, List.mem_of_getElem? (i := 160) (by decide +kernel), List.mem_of_getElem? (i := 773) (by decide +kernel), List.mem_of_getElem? (i := 774) (by decide +kernel)⟩
theorem lw_p27 : lw_okq (⟨"WharfPapers$Reader", "readDry", "()V"⟩, 9) := ⟨⟨by decide +kernel, by decide +kernel⟩, List.mem_of_getElem? (i := 160) (by decide +kernel), List.mem_of_getElem? (i := 777) (by decide +kernel), List.mem_of_getElem? (i := 778) (by decide +kernel)⟩
theorem lw_p28 : lw_okq (⟨"WharfPapers$Reader", "takeKeys", "()I"⟩, 9) := ⟨⟨by decide +kernel, by decide +kernel⟩, List.mem_of_getElem? (i := 160) (by decide +kernel), List.mem_of_getElem? (i := 781) (by decide +kernel), List.mem_of_getElem? (i := 782) (by decide +kernel)⟩
theorem lw_p29 : lw_okq (⟨"WharfPapers$Reader", "takeTerm", "(I)I"⟩, 9) := ⟨⟨by decide +kernel, by decide +kernel⟩, List.mem_of_getElem? (i := 160) (by decide +kernel), List.mem_of_getElem? (i := 785) (by decide +kernel), List.mem_of_getElem? (i := 786) (by decide +kernel)⟩
theorem lw_p30 : lw_okq (⟨"WharfPapers", "isAsked", "(II)Z"⟩, 15) := ⟨⟨by decide +kernel, by decide +kernel⟩, List.mem_of_getElem? (i := 20) (by decide +kernel), List.mem_of_getElem? (i := 817) (by decide +kernel), List.mem_of_getElem? (i := 818) (by decide +kernel)⟩
theorem lw_p31 : lw_okq (⟨"WharfPapers", "shareAsTold", "(IZ)I"⟩, 15) := ⟨⟨by decide +kernel, by decide +kernel⟩, List.mem_of_getElem? (i := 20) (by decide +kernel), List.mem_of_getElem? (i := 831) (by decide +kernel), List.mem_of_getElem? (i := 832) (by decide +kernel)⟩
def lw_privs_2 : List (MethodName × Nat) := [(⟨"WharfPapers$Story", "burn", "(II)Z"⟩, 16), (⟨"WharfPapers$Story", "steal", "(II)Z"⟩, 16), (⟨"WharfPapers$Reader", "skipBlanks", "()V"⟩, 9), (⟨"WharfPapers$Reader", "readClause", "(I)V"⟩, 9), (⟨"WharfPapers$Reader", "takeWord", "(II)I"⟩, 9), (⟨"WharfPapers$Reader", "isSpelled", "(Ljava/lang/String;I)Z"⟩, 9), (⟨"WharfPapers$Reader", "fail", "(II)V"⟩, 9), (⟨"WharfPapers$Reader", "readLet", "()V"⟩, 9), (⟨"WharfPapers$Reader", "takeNumber", "(I)I"⟩, 9), (⟨"WharfPapers$Reader", "keep", "(II)V"⟩, 9), (⟨"WharfPapers$Reader", "takeIf", "(C)Z"⟩, 9), (⟨"WharfPapers$Reader", "readDry", "()V"⟩, 9), (⟨"WharfPapers$Reader", "takeKeys", "()I"⟩, 9), (⟨"WharfPapers$Reader", "takeTerm", "(I)I"⟩, 9), (⟨"WharfPapers", "isAsked", "(II)Z"⟩, 15), (⟨"WharfPapers", "shareAsTold", "(IZ)I"⟩, 15)]
theorem lw_r2 : ∀ q ∈ lw_privs_2, lw_okq q := List.forall_mem_cons.mpr ⟨lw_p16, List.forall_mem_cons.mpr ⟨lw_p17, List.forall_mem_cons.mpr ⟨lw_p18, List.forall_mem_cons.mpr ⟨lw_p19, List.forall_mem_cons.mpr ⟨lw_p20, List.forall_mem_cons.mpr ⟨lw_p21, List.forall_mem_cons.mpr ⟨lw_p22, List.forall_mem_cons.mpr ⟨lw_p23, List.forall_mem_cons.mpr ⟨lw_p24, List.forall_mem_cons.mpr ⟨lw_p25, List.forall_mem_cons.mpr ⟨lw_p26, List.forall_mem_cons.mpr ⟨lw_p27, List.forall_mem_cons.mpr ⟨lw_p28, List.forall_mem_cons.mpr ⟨lw_p29, List.forall_mem_cons.mpr ⟨lw_p30, List.forall_mem_cons.mpr ⟨lw_p31, fun _ h => absurd h List.not_mem_nil⟩⟩⟩⟩⟩⟩⟩⟩⟩⟩⟩⟩⟩⟩⟩⟩
theorem lw_p32 : lw_okq (⟨"WharfPapers$Doubt", "isOf", "(LWharfPapers$Story;II)Z"⟩, 3) := ⟨⟨by decide +kernel, by decide +kernel⟩, List.mem_of_getElem? (i := 271) (by decide +kernel), List.mem_of_getElem? (i := 848) (by decide +kernel), List.mem_of_getElem? (i := 849) (by decide +kernel)⟩
theorem lw_p33 : lw_okq (⟨"WharfPapers$Doubt", "fewest", "(I)I"⟩, 3) := ⟨⟨by decide +kernel, by decide +kernel⟩, List.mem_of_getElem? (i := 271) (by decide +kernel), List.mem_of_getElem? (i := 853) (by decide +kernel), List.mem_of_getElem? (i := 854) (by decide +kernel)⟩
theorem lw_p34 : lw_okq (⟨"WharfPapers$Story", "isHadOtherwise", "(LWharfPapers$Story;I)Z"⟩, 16) := ⟨⟨by decide +kernel, by decide +kernel⟩, List.mem_of_getElem? (i := 200) (by decide +kernel), List.mem_of_getElem? (i := 880) (by decide +kernel), List.mem_of_getElem? (i := 881) (by decide +kernel)⟩
theorem lw_p35 : lw_okq (⟨"WharfPapers", "rentAsTold", "(II)I"⟩, 15) := ⟨⟨by decide +kernel, by decide +kernel⟩, List.mem_of_getElem? (i := 20) (by decide +kernel), List.mem_of_getElem? (i := 888) (by decide +kernel), List.mem_of_getElem? (i := 889) (by decide +kernel)⟩
theorem lw_p36 : lw_okq (⟨"WharfPapers", "caskWeight", "(II)I"⟩, 15) := ⟨⟨by decide +kernel, by decide +kernel⟩, List.mem_of_getElem? (i := 20) (by decide +kernel), List.mem_of_getElem? (i := 896) (by decide +kernel), List.mem_of_getElem? (i := 897) (by decide +kernel)⟩
theorem lw_p37 : lw_okq (⟨"WharfPapers", "wanted", "(IIII)I"⟩, 15) := ⟨⟨by decide +kernel, by decide +kernel⟩, List.mem_of_getElem? (i := 20) (by decide +kernel), List.mem_of_getElem? (i := 923) (by decide +kernel), List.mem_of_getElem? (i := 924) (by decide +kernel)⟩
theorem lw_p38 : lw_okq (⟨"WharfPapers", "unpaidFor", "(I)I"⟩, 15) := ⟨⟨by decide +kernel, by decide +kernel⟩, List.mem_of_getElem? (i := 20) (by decide +kernel), List.mem_of_getElem? (i := 931) (by decide +kernel), List.mem_of_getElem? (i := 932) (by decide +kernel)⟩
theorem lw_p39 : lw_okq (⟨"WharfPapers$Sales", "mostGroups", "(I)I"⟩, 8) := ⟨⟨by decide +kernel, by decide +kernel⟩, List.mem_of_getElem? (i := 316) (by decide +kernel), List.mem_of_getElem? (i := 961) (by decide +kernel), List.mem_of_getElem? (i := 962) (by decide +kernel)⟩
theorem lw_p40 : lw_okq (⟨"WharfPapers$Dues", "begin", "()V"⟩, 10) := ⟨⟨by decide +kernel, by decide +kernel⟩, List.mem_of_getElem? (i := 348) (by decide +kernel), List.mem_of_getElem? (i := 986) (by decide +kernel), List.mem_of_getElem? (i := 987) (by decide +kernel)⟩
theorem lw_p41 : lw_okq (⟨"WharfPapers$Dues", "receive", "()V"⟩, 10) := ⟨⟨by decide +kernel, by decide +kernel⟩, List.mem_of_getElem? (i := 348) (by decide +kernel), List.mem_of_getElem? (i := 990) (by decide +kernel), List.mem_of_getElem? (i := 991) (by decide +kernel)⟩
theorem lw_p42 : lw_okq (⟨"WharfPapers$Dues", "isRoundChanging", "()Z"⟩, 10) := ⟨⟨by decide +kernel, by decide +kernel⟩, List.mem_of_getElem? (i := 348) (by decide +kernel), List.mem_of_getElem? (i := 994) (by decide +kernel), List.mem_of_getElem? (i := 995) (by decide +kernel)⟩
theorem lw_p43 : lw_okq (⟨"WharfPapers$Dues", "partOf", "(II)I"⟩, 10) := ⟨⟨by decide +kernel, by decide +kernel⟩, List.mem_of_getElem? (i := 348) (by decide +kernel), List.mem_of_getElem? (i := 998) (by decide +kernel), List.mem_of_getElem? (i := 999) (by decide +kernel)⟩
theorem lw_p44 : lw_okq (⟨"WharfPapers$Plan", "choose", "(II)V"⟩, 7) := ⟨⟨by decide +kernel, by decide +kernel⟩, List.mem_of_getElem? (i := 391) (by decide +kernel), List.mem_of_getElem? (i := 1028) (by decide +kernel), List.mem_of_getElem? (i := 1029) (by decide +kernel)⟩
theorem lw_p45 : lw_okq (⟨"WharfPapers$Plan", "gather", "(LWharfPapers$Lots;LWharfPapers$Story;)V"⟩, 7) := ⟨⟨by decide +kernel, by decide +kernel⟩, List.mem_of_getElem? (i := 391) (by decide +kernel), List.mem_of_getElem? (i := 1032) (by decide +kernel), List.mem_of_getElem? (i := 1033) (by decide +kernel)⟩
theorem lw_p46 : lw_okq (⟨"WharfPapers$Plan", "priceOn", "(ILWharfPapers$Lots;LWharfPapers$Story;)V"⟩, 7) := ⟨⟨by decide +kernel, by decide +kernel⟩, List.mem_of_getElem? (i := 391) (by decide +kernel), List.mem_of_getElem? (i := 1038) (by decide +kernel), List.mem_of_getElem? (i := 1039) (by decide +kernel)⟩
theorem lw_p47 : lw_okq (⟨"WharfPapers$Plan", "shut", "(II[I)V"⟩, 7) := ⟨⟨by decide +kernel, by decide +kernel⟩, List.mem_of_getElem? (i := 391) (by decide +kernel), List.mem_of_getElem? (i := 1045) (by decide +kernel), List.mem_of_getElem? (i := 1046) (by decide +kernel)⟩
def lw_privs_3 : List (MethodName × Nat) := [(⟨"WharfPapers$Doubt", "isOf", "(LWharfPapers$Story;II)Z"⟩, 3), (⟨"WharfPapers$Doubt", "fewest", "(I)I"⟩, 3), (⟨"WharfPapers$Story", "isHadOtherwise", "(LWharfPapers$Story;I)Z"⟩, 16), (⟨"WharfPapers", "rentAsTold", "(II)I"⟩, 15), (⟨"WharfPapers", "caskWeight", "(II)I"⟩, 15), (⟨"WharfPapers", "wanted", "(IIII)I"⟩, 15), (⟨"WharfPapers", "unpaidFor", "(I)I"⟩, 15), (⟨"WharfPapers$Sales", "mostGroups", "(I)I"⟩, 8), (⟨"WharfPapers$Dues", "begin", "()V"⟩, 10), (⟨"WharfPapers$Dues", "receive", "()V"⟩, 10), (⟨"WharfPapers$Dues", "isRoundChanging", "()Z"⟩, 10), (⟨"WharfPapers$Dues", "partOf", "(II)I"⟩, 10), (⟨"WharfPapers$Plan", "choose", "(II)V"⟩, 7), (⟨"WharfPapers$Plan", "gather", "(LWharfPapers$Lots;LWharfPapers$Story;)V"⟩, 7), (⟨"WharfPapers$Plan", "priceOn", "(ILWharfPapers$Lots;LWharfPapers$Story;)V"⟩, 7), (⟨"WharfPapers$Plan", "shut", "(II[I)V"⟩, 7)]
theorem lw_r3 : ∀ q ∈ lw_privs_3, lw_okq q := List.forall_mem_cons.mpr ⟨lw_p32, List.forall_mem_cons.mpr ⟨lw_p33, List.forall_mem_cons.mpr ⟨lw_p34, List.forall_mem_cons.mpr ⟨lw_p35, List.forall_mem_cons.mpr ⟨lw_p36, List.forall_mem_cons.mpr ⟨lw_p37, List.forall_mem_cons.mpr ⟨lw_p38, List.forall_mem_cons.mpr ⟨lw_p39, List.forall_mem_cons.mpr ⟨lw_p40, List.forall_mem_cons.mpr ⟨lw_p41, List.forall_mem_cons.mpr ⟨lw_p42, List.forall_mem_cons.mpr ⟨lw_p43, List.forall_mem_cons.mpr ⟨lw_p44, List.forall_mem_cons.mpr ⟨lw_p45, List.forall_mem_cons.mpr ⟨lw_p46, List.forall_mem_cons.mpr ⟨lw_p47, fun _ h => absurd h List.not_mem_nil⟩⟩⟩⟩⟩⟩⟩⟩⟩⟩⟩⟩⟩⟩⟩⟩
theorem lw_p48 : lw_okq (⟨"WharfPapers$Plan", "isParted", "(II[I)Z"⟩, 7) := ⟨⟨by decide +kernel, by decide +kernel⟩, List.mem_of_getElem? (i := 391) (by decide +kernel), List.mem_of_getElem? (i := 1049) (by decide +kernel), List.mem_of_getElem? (i := 1050) (by decide +kernel)⟩
theorem lw_p49 : lw_okq (⟨"WharfPapers$Plan", "openFloor", "()V"⟩, 7) := ⟨⟨by decide +kernel, by decide +kernel⟩, List.mem_of_getElem? (i := 391) (by decide +kernel), List.mem_of_getElem? (i := 1053) (by decide +kernel), List.mem_of_getElem? (i := 1054) (by decide +kernel)⟩
theorem lw_p50 : lw_okq (⟨"WharfPapersModel", "noLot", "(I)Z"⟩, 79) := ⟨⟨by decide +kernel, by decide +kernel⟩, List.mem_of_getElem? (i := 1074) (by decide +kernel), List.mem_of_getElem? (i := 1348) (by decide +kernel), List.mem_of_getElem? (i := 1349) (by decide +kernel)⟩
theorem lw_p51 : lw_okq (⟨"WharfPapersModel", "noTarget", "(II)Z"⟩, 79) := ⟨⟨by decide +kernel, by decide +kernel⟩, List.mem_of_getElem? (i := 1074) (by decide +kernel), List.mem_of_getElem? (i := 1357) (by decide +kernel), List.mem_of_getElem? (i := 1358) (by decide +kernel)⟩
theorem lw_p52 : lw_okq (⟨"WharfPapersModel", "isPaper", "(I)Z"⟩, 79) := ⟨⟨by decide +kernel, by decide +kernel⟩, List.mem_of_getElem? (i := 1074) (by decide +kernel), List.mem_of_getElem? (i := 1364) (by decide +kernel), List.mem_of_getElem? (i := 1365) (by decide +kernel)⟩
theorem lw_p53 : lw_okq (⟨"WharfPapersModel", "isKnown", "(I)Z"⟩, 79) := ⟨⟨by decide +kernel, by decide +kernel⟩, List.mem_of_getElem? (i := 1074) (by decide +kernel), List.mem_of_getElem? (i := 1371) (by decide +kernel), List.mem_of_getElem? (i := 1372) (by decide +kernel)⟩
theorem lw_p54 : lw_okq (⟨"WharfPapersModel", "findBook", "(I)V"⟩, 79) := ⟨⟨by decide +kernel, by decide +kernel⟩, List.mem_of_getElem? (i := 1074) (by decide +kernel), List.mem_of_getElem? (i := 1385) (by decide +kernel), List.mem_of_getElem? (i := 1386) (by decide +kernel)⟩
theorem lw_p55 : lw_okq (⟨"WharfPapersModel", "here", "()I"⟩, 79) := ⟨⟨by decide +kernel, by decide +kernel⟩, List.mem_of_getElem? (i := 1074) (by decide +kernel), List.mem_of_getElem? (i := 1403) (by decide +kernel), List.mem_of_getElem? (i := 1404) (by decide +kernel)⟩
theorem lw_p56 : lw_okq (⟨"WharfPapersModel", "takeWord", "()V"⟩, 79) := ⟨⟨by decide +kernel, by decide +kernel⟩, List.mem_of_getElem? (i := 1074) (by decide +kernel), List.mem_of_getElem? (i := 1407) (by decide +kernel), List.mem_of_getElem? (i := 1408) (by decide +kernel)⟩
theorem lw_p57 : lw_okq (⟨"WharfPapersModel", "isWord", "(IIIIIII)Z"⟩, 79) := ⟨⟨by decide +kernel, by decide +kernel⟩, List.mem_of_getElem? (i := 1074) (by decide +kernel), List.mem_of_getElem? (i := 1413) (by decide +kernel), List.mem_of_getElem? (i := 1414) (by decide +kernel)⟩
theorem lw_p58 : lw_okq (⟨"WharfPapersModel", "want", "(ZII)Z"⟩, 79) := ⟨⟨by decide +kernel, by decide +kernel⟩, List.mem_of_getElem? (i := 1074) (by decide +kernel), List.mem_of_getElem? (i := 1417) (by decide +kernel), List.mem_of_getElem? (i := 1418) (by decide +kernel)⟩
theorem lw_p59 : lw_okq (⟨"WharfPapersModel", "readClause", "(II)V"⟩, 79) := ⟨⟨by decide +kernel, by decide +kernel⟩, List.mem_of_getElem? (i := 1074) (by decide +kernel), List.mem_of_getElem? (i := 1421) (by decide +kernel), List.mem_of_getElem? (i := 1422) (by decide +kernel)⟩
theorem lw_p60 : lw_okq (⟨"WharfPapersModel", "nameOf", "()I"⟩, 79) := ⟨⟨by decide +kernel, by decide +kernel⟩, List.mem_of_getElem? (i := 1074) (by decide +kernel), List.mem_of_getElem? (i := 1425) (by decide +kernel), List.mem_of_getElem? (i := 1426) (by decide +kernel)⟩
theorem lw_p61 : lw_okq (⟨"WharfPapersModel", "takeNumber", "(I)I"⟩, 79) := ⟨⟨by decide +kernel, by decide +kernel⟩, List.mem_of_getElem? (i := 1074) (by decide +kernel), List.mem_of_getElem? (i := 1432) (by decide +kernel), List.mem_of_getElem? (i := 1433) (by decide +kernel)⟩
theorem lw_p62 : lw_okq (⟨"WharfPapersModel", "readRank", "(I)V"⟩, 79) := ⟨⟨by decide +kernel, by decide +kernel⟩, List.mem_of_getElem? (i := 1074) (by decide +kernel), List.mem_of_getElem? (i := 1438) (by decide +kernel), List.mem_of_getElem? (i := 1439) (by decide +kernel)⟩
theorem lw_p63 : lw_okq (⟨"WharfPapersModel", "keyOf", "()I"⟩, 79) := ⟨⟨by decide +kernel, by decide +kernel⟩, List.mem_of_getElem? (i := 1074) (by decide +kernel), List.mem_of_getElem? (i := 1442) (by decide +kernel), List.mem_of_getElem? (i := 1443) (by decide +kernel)⟩
def lw_privs_4 : List (MethodName × Nat) := [(⟨"WharfPapers$Plan", "isParted", "(II[I)Z"⟩, 7), (⟨"WharfPapers$Plan", "openFloor", "()V"⟩, 7), (⟨"WharfPapersModel", "noLot", "(I)Z"⟩, 79), (⟨"WharfPapersModel", "noTarget", "(II)Z"⟩, 79), (⟨"WharfPapersModel", "isPaper", "(I)Z"⟩, 79), (⟨"WharfPapersModel", "isKnown", "(I)Z"⟩, 79), (⟨"WharfPapersModel", "findBook", "(I)V"⟩, 79), (⟨"WharfPapersModel", "here", "()I"⟩, 79), (⟨"WharfPapersModel", "takeWord", "()V"⟩, 79), (⟨"WharfPapersModel", "isWord", "(IIIIIII)Z"⟩, 79), (⟨"WharfPapersModel", "want", "(ZII)Z"⟩, 79), (⟨"WharfPapersModel", "readClause", "(II)V"⟩, 79), (⟨"WharfPapersModel", "nameOf", "()I"⟩, 79), (⟨"WharfPapersModel", "takeNumber", "(I)I"⟩, 79), (⟨"WharfPapersModel", "readRank", "(I)V"⟩, 79), (⟨"WharfPapersModel", "keyOf", "()I"⟩, 79)]
theorem lw_r4 : ∀ q ∈ lw_privs_4, lw_okq q := List.forall_mem_cons.mpr ⟨lw_p48, List.forall_mem_cons.mpr ⟨lw_p49, List.forall_mem_cons.mpr ⟨lw_p50, List.forall_mem_cons.mpr ⟨lw_p51, List.forall_mem_cons.mpr ⟨lw_p52, List.forall_mem_cons.mpr ⟨lw_p53, List.forall_mem_cons.mpr ⟨lw_p54, List.forall_mem_cons.mpr ⟨lw_p55, List.forall_mem_cons.mpr ⟨lw_p56, List.forall_mem_cons.mpr ⟨lw_p57, List.forall_mem_cons.mpr ⟨lw_p58, List.forall_mem_cons.mpr ⟨lw_p59, List.forall_mem_cons.mpr ⟨lw_p60, List.forall_mem_cons.mpr ⟨lw_p61, List.forall_mem_cons.mpr ⟨lw_p62, List.forall_mem_cons.mpr ⟨lw_p63, fun _ h => absurd h List.not_mem_nil⟩⟩⟩⟩⟩⟩⟩⟩⟩⟩⟩⟩⟩⟩⟩⟩
theorem lw_p64 : lw_okq (⟨"WharfPapersModel", "findTerms", "(I)V"⟩, 79) := ⟨⟨by decide +kernel, by decide +kernel⟩, List.mem_of_getElem? (i := 1074) (by decide +kernel), List.mem_of_getElem? (i := 1458) (by decide +kernel), List.mem_of_getElem? (i := 1459) (by decide +kernel)⟩
theorem lw_p65 : lw_okq (⟨"WharfPapersModel", "tell", "(II)V"⟩, 79) := ⟨⟨by decide +kernel, by decide +kernel⟩, List.mem_of_getElem? (i := 1074) (by decide +kernel), List.mem_of_getElem? (i := 1466) (by decide +kernel), List.mem_of_getElem? (i := 1467) (by decide +kernel)⟩
theorem lw_p66 : lw_okq (⟨"WharfPapersModel", "befall", "(I)Z"⟩, 79) := ⟨⟨by decide +kernel, by decide +kernel⟩, List.mem_of_getElem? (i := 1074) (by decide +kernel), List.mem_of_getElem? (i := 1470) (by decide +kernel), List.mem_of_getElem? (i := 1471) (by decide +kernel)⟩
theorem lw_p67 : lw_okq (⟨"WharfPapersModel", "issue", "(I)Z"⟩, 79) := ⟨⟨by decide +kernel, by decide +kernel⟩, List.mem_of_getElem? (i := 1074) (by decide +kernel), List.mem_of_getElem? (i := 1474) (by decide +kernel), List.mem_of_getElem? (i := 1475) (by decide +kernel)⟩
theorem lw_p68 : lw_okq (⟨"WharfPapersModel", "lay", "(IIIII)V"⟩, 79) := ⟨⟨by decide +kernel, by decide +kernel⟩, List.mem_of_getElem? (i := 1074) (by decide +kernel), List.mem_of_getElem? (i := 1478) (by decide +kernel), List.mem_of_getElem? (i := 1479) (by decide +kernel)⟩
theorem lw_p69 : lw_okq (⟨"WharfPapersModel", "onPapers", "(I)I"⟩, 79) := ⟨⟨by decide +kernel, by decide +kernel⟩, List.mem_of_getElem? (i := 1074) (by decide +kernel), List.mem_of_getElem? (i := 1482) (by decide +kernel), List.mem_of_getElem? (i := 1483) (by decide +kernel)⟩
theorem lw_p70 : lw_okq (⟨"WharfPapersModel", "there", "(I)I"⟩, 79) := ⟨⟨by decide +kernel, by decide +kernel⟩, List.mem_of_getElem? (i := 1074) (by decide +kernel), List.mem_of_getElem? (i := 1486) (by decide +kernel), List.mem_of_getElem? (i := 1487) (by decide +kernel)⟩
theorem lw_p71 : lw_okq (⟨"WharfPapersModel", "burn", "(II)Z"⟩, 79) := ⟨⟨by decide +kernel, by decide +kernel⟩, List.mem_of_getElem? (i := 1074) (by decide +kernel), List.mem_of_getElem? (i := 1490) (by decide +kernel), List.mem_of_getElem? (i := 1491) (by decide +kernel)⟩
theorem lw_p72 : lw_okq (⟨"WharfPapersModel", "pass", "(II)Z"⟩, 79) := ⟨⟨by decide +kernel, by decide +kernel⟩, List.mem_of_getElem? (i := 1074) (by decide +kernel), List.mem_of_getElem? (i := 1494) (by decide +kernel), List.mem_of_getElem? (i := 1495) (by decide +kernel)⟩
theorem lw_p73 : lw_okq (⟨"WharfPapersModel", "partFrom", "(II)Z"⟩, 79) := ⟨⟨by decide +kernel, by decide +kernel⟩, List.mem_of_getElem? (i := 1074) (by decide +kernel), List.mem_of_getElem? (i := 1498) (by decide +kernel), List.mem_of_getElem? (i := 1499) (by decide +kernel)⟩
theorem lw_p74 : lw_okq (⟨"WharfPapersModel", "lend", "(II)Z"⟩, 79) := ⟨⟨by decide +kernel, by decide +kernel⟩, List.mem_of_getElem? (i := 1074) (by decide +kernel), List.mem_of_getElem? (i := 1502) (by decide +kernel), List.mem_of_getElem? (i := 1503) (by decide +kernel)⟩
theorem lw_p75 : lw_okq (⟨"WharfPapersModel", "handOut", "(II)Z"⟩, 79) := ⟨⟨by decide +kernel, by decide +kernel⟩, List.mem_of_getElem? (i := 1074) (by decide +kernel), List.mem_of_getElem? (i := 1506) (by decide +kernel), List.mem_of_getElem? (i := 1507) (by decide +kernel)⟩
theorem lw_p76 : lw_okq (⟨"WharfPapersModel", "change", "(II)Z"⟩, 79) := ⟨⟨by decide +kernel, by decide +kernel⟩, List.mem_of_getElem? (i := 1074) (by decide +kernel), List.mem_of_getElem? (i := 1510) (by decide +kernel), List.mem_of_getElem? (i := 1511) (by decide +kernel)⟩
theorem lw_p77 : lw_okq (⟨"WharfPapersModel", "linesNow", "(I)I"⟩, 79) := ⟨⟨by decide +kernel, by decide +kernel⟩, List.mem_of_getElem? (i := 1074) (by decide +kernel), List.mem_of_getElem? (i := 1518) (by decide +kernel), List.mem_of_getElem? (i := 1519) (by decide +kernel)⟩
theorem lw_p78 : lw_okq (⟨"WharfPapersModel", "papersToday", "()I"⟩, 79) := ⟨⟨by decide +kernel, by decide +kernel⟩, List.mem_of_getElem? (i := 1074) (by decide +kernel), List.mem_of_getElem? (i := 1522) (by decide +kernel), List.mem_of_getElem? (i := 1523) (by decide +kernel)⟩
theorem lw_p79 : lw_okq (⟨"WharfPapersModel", "whyNot", "(IIIII)I"⟩, 79) := ⟨⟨by decide +kernel, by decide +kernel⟩, List.mem_of_getElem? (i := 1074) (by decide +kernel), List.mem_of_getElem? (i := 1530) (by decide +kernel), List.mem_of_getElem? (i := 1531) (by decide +kernel)⟩
def lw_privs_5 : List (MethodName × Nat) := [(⟨"WharfPapersModel", "findTerms", "(I)V"⟩, 79), (⟨"WharfPapersModel", "tell", "(II)V"⟩, 79), (⟨"WharfPapersModel", "befall", "(I)Z"⟩, 79), (⟨"WharfPapersModel", "issue", "(I)Z"⟩, 79), (⟨"WharfPapersModel", "lay", "(IIIII)V"⟩, 79), (⟨"WharfPapersModel", "onPapers", "(I)I"⟩, 79), (⟨"WharfPapersModel", "there", "(I)I"⟩, 79), (⟨"WharfPapersModel", "burn", "(II)Z"⟩, 79), (⟨"WharfPapersModel", "pass", "(II)Z"⟩, 79), (⟨"WharfPapersModel", "partFrom", "(II)Z"⟩, 79), (⟨"WharfPapersModel", "lend", "(II)Z"⟩, 79), (⟨"WharfPapersModel", "handOut", "(II)Z"⟩, 79), (⟨"WharfPapersModel", "change", "(II)Z"⟩, 79), (⟨"WharfPapersModel", "linesNow", "(I)I"⟩, 79), (⟨"WharfPapersModel", "papersToday", "()I"⟩, 79), (⟨"WharfPapersModel", "whyNot", "(IIIII)I"⟩, 79)]
theorem lw_r5 : ∀ q ∈ lw_privs_5, lw_okq q := List.forall_mem_cons.mpr ⟨lw_p64, List.forall_mem_cons.mpr ⟨lw_p65, List.forall_mem_cons.mpr ⟨lw_p66, List.forall_mem_cons.mpr ⟨lw_p67, List.forall_mem_cons.mpr ⟨lw_p68, List.forall_mem_cons.mpr ⟨lw_p69, List.forall_mem_cons.mpr ⟨lw_p70, List.forall_mem_cons.mpr ⟨lw_p71, List.forall_mem_cons.mpr ⟨lw_p72, List.forall_mem_cons.mpr ⟨lw_p73, List.forall_mem_cons.mpr ⟨lw_p74, List.forall_mem_cons.mpr ⟨lw_p75, List.forall_mem_cons.mpr ⟨lw_p76, List.forall_mem_cons.mpr ⟨lw_p77, List.forall_mem_cons.mpr ⟨lw_p78, List.forall_mem_cons.mpr ⟨lw_p79, fun _ h => absurd h List.not_mem_nil⟩⟩⟩⟩⟩⟩⟩⟩⟩⟩⟩⟩⟩⟩⟩⟩
theorem lw_p80 : lw_okq (⟨"WharfPapersModel", "over", "(I)I"⟩, 79) := ⟨⟨by decide +kernel, by decide +kernel⟩, List.mem_of_getElem? (i := 1074) (by decide +kernel), List.mem_of_getElem? (i := 1538) (by decide +kernel), List.mem_of_getElem? (i := 1539) (by decide +kernel)⟩
theorem lw_p81 : lw_okq (⟨"WharfPapersModel", "fewestFrom", "(II)I"⟩, 79) := ⟨⟨by decide +kernel, by decide +kernel⟩, List.mem_of_getElem? (i := 1074) (by decide +kernel), List.mem_of_getElem? (i := 1553) (by decide +kernel), List.mem_of_getElem? (i := 1554) (by decide +kernel)⟩
theorem lw_p82 : lw_okq (⟨"WharfPapersModel", "rentOf", "(II)I"⟩, 79) := ⟨⟨by decide +kernel, by decide +kernel⟩, List.mem_of_getElem? (i := 1074) (by decide +kernel), List.mem_of_getElem? (i := 1569) (by decide +kernel), List.mem_of_getElem? (i := 1570) (by decide +kernel)⟩
theorem lw_p83 : lw_okq (⟨"WharfPapersModel", "weightOn", "(II)I"⟩, 79) := ⟨⟨by decide +kernel, by decide +kernel⟩, List.mem_of_getElem? (i := 1074) (by decide +kernel), List.mem_of_getElem? (i := 1577) (by decide +kernel), List.mem_of_getElem? (i := 1578) (by decide +kernel)⟩
theorem lw_p84 : lw_okq (⟨"WharfPapersModel", "wants", "(III)I"⟩, 79) := ⟨⟨by decide +kernel, by decide +kernel⟩, List.mem_of_getElem? (i := 1074) (by decide +kernel), List.mem_of_getElem? (i := 1603) (by decide +kernel), List.mem_of_getElem? (i := 1604) (by decide +kernel)⟩
theorem lw_p85 : lw_okq (⟨"WharfPapersModel", "goRounds", "()V"⟩, 79) := ⟨⟨by decide +kernel, by decide +kernel⟩, List.mem_of_getElem? (i := 1074) (by decide +kernel), List.mem_of_getElem? (i := 1633) (by decide +kernel), List.mem_of_getElem? (i := 1634) (by decide +kernel)⟩
theorem lw_p86 : lw_okq (⟨"WharfPapersModel", "owes", "(I)I"⟩, 79) := ⟨⟨by decide +kernel, by decide +kernel⟩, List.mem_of_getElem? (i := 1074) (by decide +kernel), List.mem_of_getElem? (i := 1637) (by decide +kernel), List.mem_of_getElem? (i := 1638) (by decide +kernel)⟩
theorem lw_p87 : lw_okq (⟨"WharfPapersModel", "has", "(I)I"⟩, 79) := ⟨⟨by decide +kernel, by decide +kernel⟩, List.mem_of_getElem? (i := 1074) (by decide +kernel), List.mem_of_getElem? (i := 1641) (by decide +kernel), List.mem_of_getElem? (i := 1642) (by decide +kernel)⟩
theorem lw_p88 : lw_okq (⟨"WharfPapersModel", "gives", "(I)I"⟩, 79) := ⟨⟨by decide +kernel, by decide +kernel⟩, List.mem_of_getElem? (i := 1074) (by decide +kernel), List.mem_of_getElem? (i := 1645) (by decide +kernel), List.mem_of_getElem? (i := 1646) (by decide +kernel)⟩
theorem lw_p89 : lw_okq (⟨"WharfPapersModel", "put", "(III)V"⟩, 79) := ⟨⟨by decide +kernel, by decide +kernel⟩, List.mem_of_getElem? (i := 1074) (by decide +kernel), List.mem_of_getElem? (i := 1657) (by decide +kernel), List.mem_of_getElem? (i := 1658) (by decide +kernel)⟩
theorem lw_p90 : lw_okq (⟨"WharfPapersModel", "layAll", "()I"⟩, 79) := ⟨⟨by decide +kernel, by decide +kernel⟩, List.mem_of_getElem? (i := 1074) (by decide +kernel), List.mem_of_getElem? (i := 1661) (by decide +kernel), List.mem_of_getElem? (i := 1662) (by decide +kernel)⟩
theorem lw_p91 : lw_okq (⟨"WharfPapersModel", "mayLie", "(II)Z"⟩, 79) := ⟨⟨by decide +kernel, by decide +kernel⟩, List.mem_of_getElem? (i := 1074) (by decide +kernel), List.mem_of_getElem? (i := 1665) (by decide +kernel), List.mem_of_getElem? (i := 1666) (by decide +kernel)⟩
def lw_privs_6 : List (MethodName × Nat) := [(⟨"WharfPapersModel", "over", "(I)I"⟩, 79), (⟨"WharfPapersModel", "fewestFrom", "(II)I"⟩, 79), (⟨"WharfPapersModel", "rentOf", "(II)I"⟩, 79), (⟨"WharfPapersModel", "weightOn", "(II)I"⟩, 79), (⟨"WharfPapersModel", "wants", "(III)I"⟩, 79), (⟨"WharfPapersModel", "goRounds", "()V"⟩, 79), (⟨"WharfPapersModel", "owes", "(I)I"⟩, 79), (⟨"WharfPapersModel", "has", "(I)I"⟩, 79), (⟨"WharfPapersModel", "gives", "(I)I"⟩, 79), (⟨"WharfPapersModel", "put", "(III)V"⟩, 79), (⟨"WharfPapersModel", "layAll", "()I"⟩, 79), (⟨"WharfPapersModel", "mayLie", "(II)Z"⟩, 79)]
theorem lw_r6 : ∀ q ∈ lw_privs_6, lw_okq q := List.forall_mem_cons.mpr ⟨lw_p80, List.forall_mem_cons.mpr ⟨lw_p81, List.forall_mem_cons.mpr ⟨lw_p82, List.forall_mem_cons.mpr ⟨lw_p83, List.forall_mem_cons.mpr ⟨lw_p84, List.forall_mem_cons.mpr ⟨lw_p85, List.forall_mem_cons.mpr ⟨lw_p86, List.forall_mem_cons.mpr ⟨lw_p87, List.forall_mem_cons.mpr ⟨lw_p88, List.forall_mem_cons.mpr ⟨lw_p89, List.forall_mem_cons.mpr ⟨lw_p90, List.forall_mem_cons.mpr ⟨lw_p91, fun _ h => absurd h List.not_mem_nil⟩⟩⟩⟩⟩⟩⟩⟩⟩⟩⟩⟩
def lw_privs : List (MethodName × Nat) := lw_privs_1 ++ (lw_privs_2 ++ (lw_privs_3 ++ (lw_privs_4 ++ (lw_privs_5 ++ (lw_privs_6)))))
def lw_tbl : List Cond := k2_sels lw_privs ++ tables_1
theorem lw_privs_ok : ∀ q ∈ lw_privs, lw_okq q := by
  show ∀ q ∈ lw_privs_1 ++ (lw_privs_2 ++ (lw_privs_3 ++ (lw_privs_4 ++ (lw_privs_5 ++ (lw_privs_6))))), lw_okq q
  exact List.forall_mem_append.mpr ⟨lw_r1, List.forall_mem_append.mpr ⟨lw_r2, List.forall_mem_append.mpr ⟨lw_r3, List.forall_mem_append.mpr ⟨lw_r4, List.forall_mem_append.mpr ⟨lw_r5, lw_r6⟩⟩⟩⟩⟩
end
section
def RX0 : String := "WharfPapers$Doubt"
def TX0 : u_T := fun k => match k with
  | 0 => ("WharfPapers$Doubt", "having", "[I", true)
  | 1 => ("WharfPapers$Doubt", "picked", "[I", true)
  | _ => ("WharfPapers$Doubt", "count", "I", false)
def tyX0 : Nat → FieldType := fun k => match k with
  | 0 => .array .int
  | 1 => .array .int
  | _ => .int
def RX1 : String := "WharfPapers$Dues"
def TX1 : u_T := fun k => match k with
  | 0 => ("WharfPapers$Dues", "debtor", "[I", true)
  | 1 => ("WharfPapers$Dues", "creditor", "[I", true)
  | 2 => ("WharfPapers$Dues", "sum", "[I", true)
  | 3 => ("WharfPapers$Dues", "given", "[I", true)
  | 4 => ("WharfPapers$Dues", "count", "I", false)
  | 5 => ("WharfPapers$Dues", "coin", "[I", true)
  | 6 => ("WharfPapers$Dues", "owes", "[I", true)
  | 7 => ("WharfPapers$Dues", "has", "[I", true)
  | 8 => ("WharfPapers$Dues", "failed", "[Z", true)
  | _ => ("WharfPapers$Dues", "rounds", "I", false)
def tyX1 : Nat → FieldType := fun k => match k with
  | 0 => .array .int
  | 1 => .array .int
  | 2 => .array .int
  | 3 => .array .int
  | 4 => .int
  | 5 => .array .int
  | 6 => .array .int
  | 7 => .array .int
  | 8 => .array .boolean
  | _ => .int
def RX2 : String := "WharfPapers$Lines"
def TX2 : u_T := fun k => match k with
  | 0 => ("WharfPapers$Lines", "kind", "[I", true)
  | 1 => ("WharfPapers$Lines", "day", "[I", true)
  | 2 => ("WharfPapers$Lines", "told", "[I", true)
  | 3 => ("WharfPapers$Lines", "target", "[I", true)
  | 4 => ("WharfPapers$Lines", "p", "[I", true)
  | 5 => ("WharfPapers$Lines", "q", "[I", true)
  | 6 => ("WharfPapers$Lines", "n", "[I", true)
  | 7 => ("WharfPapers$Lines", "order", "[I", true)
  | 8 => ("WharfPapers$Lines", "isVoid", "[Z", true)
  | 9 => ("WharfPapers$Lines", "count", "I", false)
  | _ => ("WharfPapers$Lines", "knownCount", "I", false)
def tyX2 : Nat → FieldType := fun k => match k with
  | 0 => .array .int
  | 1 => .array .int
  | 2 => .array .int
  | 3 => .array .int
  | 4 => .array .int
  | 5 => .array .int
  | 6 => .array .int
  | 7 => .array .int
  | 8 => .array .boolean
  | 9 => .int
  | _ => .int
def RX3 : String := "WharfPapers$Lots"
def TX3 : u_T := fun k => match k with
  | 0 => ("WharfPapers$Lots", "sort", "[I", true)
  | 1 => ("WharfPapers$Lots", "casks", "[I", true)
  | 2 => ("WharfPapers$Lots", "weight", "[I", true)
  | 3 => ("WharfPapers$Lots", "floor", "[I", true)
  | 4 => ("WharfPapers$Lots", "since", "[I", true)
  | _ => ("WharfPapers$Lots", "count", "I", false)
def tyX3 : Nat → FieldType := fun k => match k with
  | 0 => .array .int
  | 1 => .array .int
  | 2 => .array .int
  | 3 => .array .int
  | 4 => .array .int
  | _ => .int
def RX4 : String := "WharfPapers$Plan"
def TX4 : u_T := fun k => match k with
  | 0 => ("WharfPapers$Plan", "place", "[I", true)
  | 1 => ("WharfPapers$Plan", "laid", "[I", true)
  | 2 => ("WharfPapers$Plan", "count", "I", false)
  | 3 => ("WharfPapers$Plan", "casks", "[I", true)
  | 4 => ("WharfPapers$Plan", "sorts", "[I", true)
  | 5 => ("WharfPapers$Plan", "price", "[J", true)
  | _ => ("WharfPapers$Plan", "best", "[J", true)
def tyX4 : Nat → FieldType := fun k => match k with
  | 0 => .array .int
  | 1 => .array .int
  | 2 => .int
  | 3 => .array .int
  | 4 => .array .int
  | 5 => .array .long
  | _ => .array .long
def RX5 : String := "WharfPapers$Reader"
def TX5 : u_T := fun k => match k with
  | 0 => ("WharfPapers$Reader", "text", "[I", true)
  | 1 => ("WharfPapers$Reader", "length", "I", false)
  | 2 => ("WharfPapers$Reader", "code", "[I", true)
  | 3 => ("WharfPapers$Reader", "value", "[I", true)
  | 4 => ("WharfPapers$Reader", "clauses", "I", false)
  | 5 => ("WharfPapers$Reader", "fault", "I", false)
  | 6 => ("WharfPapers$Reader", "faultAt", "I", false)
  | 7 => ("WharfPapers$Reader", "at", "I", false)
  | _ => ("WharfPapers$Reader", "start", "I", false)
def tyX5 : Nat → FieldType := fun k => match k with
  | 0 => .array .int
  | 1 => .int
  | 2 => .array .int
  | 3 => .array .int
  | 4 => .int
  | 5 => .int
  | 6 => .int
  | 7 => .int
  | _ => .int
def RX6 : String := "WharfPapers$Sales"
def TX6 : u_T := fun k => match k with
  | 0 => ("WharfPapers$Sales", "seller", "[I", true)
  | 1 => ("WharfPapers$Sales", "buyer", "[I", true)
  | 2 => ("WharfPapers$Sales", "sort", "[I", true)
  | 3 => ("WharfPapers$Sales", "casks", "[I", true)
  | 4 => ("WharfPapers$Sales", "open", "[I", true)
  | 5 => ("WharfPapers$Sales", "total", "[I", true)
  | 6 => ("WharfPapers$Sales", "groups", "[I", true)
  | _ => ("WharfPapers$Sales", "count", "I", false)
def tyX6 : Nat → FieldType := fun k => match k with
  | 0 => .array .int
  | 1 => .array .int
  | 2 => .array .int
  | 3 => .array .int
  | 4 => .array .int
  | 5 => .array .int
  | 6 => .array .int
  | _ => .int
def RX7 : String := "WharfPapers$Story"
def TX7 : u_T := fun k => match k with
  | 0 => ("WharfPapers$Story", "lots", "LWharfPapers$Lots;", true)
  | 1 => ("WharfPapers$Story", "lines", "LWharfPapers$Lines;", true)
  | 2 => ("WharfPapers$Story", "terms", "LWharfPapers$Terms;", true)
  | 3 => ("WharfPapers$Story", "there", "[Z", true)
  | 4 => ("WharfPapers$Story", "vain", "[Z", true)
  | 5 => ("WharfPapers$Story", "lot", "[I", true)
  | 6 => ("WharfPapers$Story", "casks", "[I", true)
  | 7 => ("WharfPapers$Story", "holds", "[I", true)
  | 8 => ("WharfPapers$Story", "title", "[I", true)
  | 9 => ("WharfPapers$Story", "lender", "[I", true)
  | 10 => ("WharfPapers$Story", "sum", "[I", true)
  | 11 => ("WharfPapers$Story", "stopper", "[I", true)
  | 12 => ("WharfPapers$Story", "out", "[I", true)
  | 13 => ("WharfPapers$Story", "burnt", "[I", true)
  | 14 => ("WharfPapers$Story", "onPapers", "[I", true)
  | _ => ("WharfPapers$Story", "doubles", "I", false)
def tyX7 : Nat → FieldType := fun k => match k with
  | 0 => .object "WharfPapers$Lots"
  | 1 => .object "WharfPapers$Lines"
  | 2 => .object "WharfPapers$Terms"
  | 3 => .array .boolean
  | 4 => .array .boolean
  | 5 => .array .int
  | 6 => .array .int
  | 7 => .array .int
  | 8 => .array .int
  | 9 => .array .int
  | 10 => .array .int
  | 11 => .array .int
  | 12 => .array .int
  | 13 => .array .int
  | 14 => .array .int
  | _ => .int
def RX8 : String := "WharfPapers$Terms"
def TX8 : u_T := fun k => match k with
  | 0 => ("WharfPapers$Terms", "day", "[I", true)
  | 1 => ("WharfPapers$Terms", "clauses", "[I", true)
  | 2 => ("WharfPapers$Terms", "code", "[[I", true)
  | 3 => ("WharfPapers$Terms", "value", "[[I", true)
  | 4 => ("WharfPapers$Terms", "order", "[I", true)
  | 5 => ("WharfPapers$Terms", "isStruck", "[Z", true)
  | 6 => ("WharfPapers$Terms", "held", "[I", true)
  | 7 => ("WharfPapers$Terms", "heldOn", "I", false)
  | _ => ("WharfPapers$Terms", "count", "I", false)
def tyX8 : Nat → FieldType := fun k => match k with
  | 0 => .array .int
  | 1 => .array .int
  | 2 => .array (.array .int)
  | 3 => .array (.array .int)
  | 4 => .array .int
  | 5 => .array .boolean
  | 6 => .array .int
  | 7 => .int
  | _ => .int
def RX9 : String := "WharfPapers$Weighings"
def TX9 : u_T := fun k => match k with
  | 0 => ("WharfPapers$Weighings", "lot", "[I", true)
  | 1 => ("WharfPapers$Weighings", "casks", "[I", true)
  | 2 => ("WharfPapers$Weighings", "weight", "[I", true)
  | 3 => ("WharfPapers$Weighings", "day", "[I", true)
  | _ => ("WharfPapers$Weighings", "count", "I", false)
def tyX9 : Nat → FieldType := fun k => match k with
  | 0 => .array .int
  | 1 => .array .int
  | 2 => .array .int
  | 3 => .array .int
  | _ => .int
def RX10 : String := "WharfPapers"
def TX10 : u_T := fun k => match k with
  | 0 => ("WharfPapers", "now", "I", false)
  | 1 => ("WharfPapers", "lots", "LWharfPapers$Lots;", true)
  | 2 => ("WharfPapers", "lines", "LWharfPapers$Lines;", true)
  | 3 => ("WharfPapers", "terms", "LWharfPapers$Terms;", true)
  | 4 => ("WharfPapers", "reader", "LWharfPapers$Reader;", true)
  | 5 => ("WharfPapers", "story", "LWharfPapers$Story;", true)
  | 6 => ("WharfPapers", "earlier", "LWharfPapers$Story;", true)
  | 7 => ("WharfPapers", "doubt", "LWharfPapers$Doubt;", true)
  | 8 => ("WharfPapers", "weighings", "LWharfPapers$Weighings;", true)
  | 9 => ("WharfPapers", "unpaid", "[[I", true)
  | 10 => ("WharfPapers", "sales", "LWharfPapers$Sales;", true)
  | 11 => ("WharfPapers", "dues", "LWharfPapers$Dues;", true)
  | 12 => ("WharfPapers", "room", "[I", true)
  | 13 => ("WharfPapers", "partedFrom", "[I", true)
  | _ => ("WharfPapers", "plan", "LWharfPapers$Plan;", true)
def tyX10 : Nat → FieldType := fun k => match k with
  | 0 => .int
  | 1 => .object "WharfPapers$Lots"
  | 2 => .object "WharfPapers$Lines"
  | 3 => .object "WharfPapers$Terms"
  | 4 => .object "WharfPapers$Reader"
  | 5 => .object "WharfPapers$Story"
  | 6 => .object "WharfPapers$Story"
  | 7 => .object "WharfPapers$Doubt"
  | 8 => .object "WharfPapers$Weighings"
  | 9 => .array (.array .int)
  | 10 => .object "WharfPapers$Sales"
  | 11 => .object "WharfPapers$Dues"
  | 12 => .array .int
  | 13 => .array .int
  | _ => .object "WharfPapers$Plan"
def RX11 : String := "WharfPapersModel"
def TX11 : u_T := fun k => match k with
  | 0 => ("WharfPapersModel", "now", "I", false)
  | 1 => ("WharfPapersModel", "lots", "I", false)
  | 2 => ("WharfPapersModel", "sortOf", "[I", true)
  | 3 => ("WharfPapersModel", "casksOf", "[I", true)
  | 4 => ("WharfPapersModel", "weightOf", "[I", true)
  | 5 => ("WharfPapersModel", "owner", "[I", true)
  | 6 => ("WharfPapersModel", "floorOf", "[I", true)
  | 7 => ("WharfPapersModel", "lotDay", "[I", true)
  | 8 => ("WharfPapersModel", "room", "[I", true)
  | 9 => ("WharfPapersModel", "lines", "I", false)
  | 10 => ("WharfPapersModel", "kindOf", "[I", true)
  | 11 => ("WharfPapersModel", "dayOf", "[I", true)
  | 12 => ("WharfPapersModel", "toldOn", "[I", true)
  | 13 => ("WharfPapersModel", "target", "[I", true)
  | 14 => ("WharfPapersModel", "houseP", "[I", true)
  | 15 => ("WharfPapersModel", "houseQ", "[I", true)
  | 16 => ("WharfPapersModel", "many", "[I", true)
  | 17 => ("WharfPapersModel", "isVoid", "[Z", true)
  | 18 => ("WharfPapersModel", "isVain", "[Z", true)
  | 19 => ("WharfPapersModel", "isDouble", "[Z", true)
  | 20 => ("WharfPapersModel", "book", "[I", true)
  | 21 => ("WharfPapersModel", "bookSize", "I", false)
  | 22 => ("WharfPapersModel", "terms", "I", false)
  | 23 => ("WharfPapersModel", "inForce", "[I", true)
  | 24 => ("WharfPapersModel", "clauses", "[I", true)
  | 25 => ("WharfPapersModel", "clauseKind", "[I", true)
  | 26 => ("WharfPapersModel", "first", "[I", true)
  | 27 => ("WharfPapersModel", "second", "[I", true)
  | 28 => ("WharfPapersModel", "text", "[I", true)
  | 29 => ("WharfPapersModel", "textSize", "I", false)
  | 30 => ("WharfPapersModel", "at", "I", false)
  | 31 => ("WharfPapersModel", "faultOf", "I", false)
  | 32 => ("WharfPapersModel", "place", "I", false)
  | 33 => ("WharfPapersModel", "from", "I", false)
  | 34 => ("WharfPapersModel", "letters", "I", false)
  | 35 => ("WharfPapersModel", "isOn", "[Z", true)
  | 36 => ("WharfPapersModel", "row", "[I", true)
  | 37 => ("WharfPapersModel", "holds", "[I", true)
  | 38 => ("WharfPapersModel", "keys", "I", false)
  | 39 => ("WharfPapersModel", "keyMany", "I", false)
  | 40 => ("WharfPapersModel", "isThere", "[Z", true)
  | 41 => ("WharfPapersModel", "lotOf", "[I", true)
  | 42 => ("WharfPapersModel", "casks", "[I", true)
  | 43 => ("WharfPapersModel", "holder", "[I", true)
  | 44 => ("WharfPapersModel", "title", "[I", true)
  | 45 => ("WharfPapersModel", "lender", "[I", true)
  | 46 => ("WharfPapersModel", "lent", "[I", true)
  | 47 => ("WharfPapersModel", "stopper", "[I", true)
  | 48 => ("WharfPapersModel", "outOf", "[I", true)
  | 49 => ("WharfPapersModel", "burntOf", "[I", true)
  | 50 => ("WharfPapersModel", "own", "[I", true)
  | 51 => ("WharfPapersModel", "owns", "I", false)
  | 52 => ("WharfPapersModel", "wasHolder", "[I", true)
  | 53 => ("WharfPapersModel", "wasTitle", "[I", true)
  | 54 => ("WharfPapersModel", "weighings", "I", false)
  | 55 => ("WharfPapersModel", "weighLot", "[I", true)
  | 56 => ("WharfPapersModel", "weighMany", "[I", true)
  | 57 => ("WharfPapersModel", "weighed", "[I", true)
  | 58 => ("WharfPapersModel", "weighDay", "[I", true)
  | 59 => ("WharfPapersModel", "unpaid", "[I", true)
  | 60 => ("WharfPapersModel", "sales", "I", false)
  | 61 => ("WharfPapersModel", "netOf", "[I", true)
  | 62 => ("WharfPapersModel", "groups", "[I", true)
  | 63 => ("WharfPapersModel", "dues", "I", false)
  | 64 => ("WharfPapersModel", "dueFrom", "[I", true)
  | 65 => ("WharfPapersModel", "dueTo", "[I", true)
  | 66 => ("WharfPapersModel", "dueSum", "[I", true)
  | 67 => ("WharfPapersModel", "given", "[I", true)
  | 68 => ("WharfPapersModel", "next", "[I", true)
  | 69 => ("WharfPapersModel", "coin", "[I", true)
  | 70 => ("WharfPapersModel", "changes", "I", false)
  | 71 => ("WharfPapersModel", "isParted", "[Z", true)
  | 72 => ("WharfPapersModel", "laid", "[I", true)
  | 73 => ("WharfPapersModel", "bestLaid", "[I", true)
  | 74 => ("WharfPapersModel", "ofSet", "[I", true)
  | 75 => ("WharfPapersModel", "setSize", "I", false)
  | 76 => ("WharfPapersModel", "load", "[I", true)
  | 77 => ("WharfPapersModel", "sorts", "[I", true)
  | _ => ("WharfPapersModel", "moved", "[I", true)
def tyX11 : Nat → FieldType := fun k => match k with
  | 0 => .int
  | 1 => .int
  | 2 => .array .int
  | 3 => .array .int
  | 4 => .array .int
  | 5 => .array .int
  | 6 => .array .int
  | 7 => .array .int
  | 8 => .array .int
  | 9 => .int
  | 10 => .array .int
  | 11 => .array .int
  | 12 => .array .int
  | 13 => .array .int
  | 14 => .array .int
  | 15 => .array .int
  | 16 => .array .int
  | 17 => .array .boolean
  | 18 => .array .boolean
  | 19 => .array .boolean
  | 20 => .array .int
  | 21 => .int
  | 22 => .int
  | 23 => .array .int
  | 24 => .array .int
  | 25 => .array .int
  | 26 => .array .int
  | 27 => .array .int
  | 28 => .array .int
  | 29 => .int
  | 30 => .int
  | 31 => .int
  | 32 => .int
  | 33 => .int
  | 34 => .int
  | 35 => .array .boolean
  | 36 => .array .int
  | 37 => .array .int
  | 38 => .int
  | 39 => .int
  | 40 => .array .boolean
  | 41 => .array .int
  | 42 => .array .int
  | 43 => .array .int
  | 44 => .array .int
  | 45 => .array .int
  | 46 => .array .int
  | 47 => .array .int
  | 48 => .array .int
  | 49 => .array .int
  | 50 => .array .int
  | 51 => .int
  | 52 => .array .int
  | 53 => .array .int
  | 54 => .int
  | 55 => .array .int
  | 56 => .array .int
  | 57 => .array .int
  | 58 => .array .int
  | 59 => .array .int
  | 60 => .int
  | 61 => .array .int
  | 62 => .array .int
  | 63 => .int
  | 64 => .array .int
  | 65 => .array .int
  | 66 => .array .int
  | 67 => .array .int
  | 68 => .array .int
  | 69 => .array .int
  | 70 => .int
  | 71 => .array .boolean
  | 72 => .array .int
  | 73 => .array .int
  | 74 => .array .int
  | 75 => .int
  | 76 => .array .int
  | 77 => .array .int
  | _ => .array .int
abbrev vwCl : List vw_C := [(RX0, TX0, 3), (RX1, TX1, 10), (RX2, TX2, 11), (RX3, TX3, 6), (RX4, TX4, 7), (RX5, TX5, 9), (RX6, TX6, 8), (RX7, TX7, 16), (RX8, TX8, 9), (RX9, TX9, 5), (RX10, TX10, 15), (RX11, TX11, 79)]
/-- is field j of class ci a number? -/
def fI (ci j : Nat) : Bool := match ci with
  | 0 => [2].contains j
  | 1 => [4, 9].contains j
  | 2 => [9, 10].contains j
  | 3 => [5].contains j
  | 4 => [2].contains j
  | 5 => [1, 4, 5, 6, 7, 8].contains j
  | 6 => [7].contains j
  | 7 => [15].contains j
  | 8 => [7, 8].contains j
  | 9 => [4].contains j
  | 10 => [0].contains j
  | 11 => [0, 1, 9, 21, 22, 29, 30, 31, 32, 33, 34, 38, 39, 51, 54, 60, 63, 70, 75].contains j
  | _ => false
/-- the shape of cell k: its kind (below 12: an object of that class; 12 int[], 13 boolean[], 14 long[], 15 int[][]) and its length -/
def shp (k : Nat) : Nat × Nat := bif Nat.blt k 87 then (bif Nat.blt k 43 then (bif Nat.blt k 21 then (bif Nat.blt k 10 then (bif Nat.blt k 5 then (bif Nat.blt k 2 then (bif Nat.blt k 1 then ((10, 15)) else ((3, 6))) else (bif Nat.blt k 3 then ((12, 12)) else (bif Nat.blt k 4 then ((12, 12)) else ((12, 12))))) else (bif Nat.blt k 7 then (bif Nat.blt k 6 then ((12, 12)) else ((12, 12))) else (bif Nat.blt k 8 then ((2, 11)) else (bif Nat.blt k 9 then ((12, 120)) else ((12, 120)))))) else (bif Nat.blt k 15 then (bif Nat.blt k 12 then (bif Nat.blt k 11 then ((12, 120)) else ((12, 120))) else (bif Nat.blt k 13 then ((12, 120)) else (bif Nat.blt k 14 then ((12, 120)) else ((12, 120))))) else (bif Nat.blt k 18 then (bif Nat.blt k 16 then ((12, 120)) else (bif Nat.blt k 17 then ((13, 120)) else ((8, 9)))) else (bif Nat.blt k 19 then ((12, 8)) else (bif Nat.blt k 20 then ((12, 8)) else ((15, 8))))))) else (bif Nat.blt k 32 then (bif Nat.blt k 26 then (bif Nat.blt k 23 then (bif Nat.blt k 22 then ((12, 10)) else ((12, 10))) else (bif Nat.blt k 24 then ((12, 10)) else (bif Nat.blt k 25 then ((12, 10)) else ((12, 10))))) else (bif Nat.blt k 29 then (bif Nat.blt k 27 then ((12, 10)) else (bif Nat.blt k 28 then ((12, 10)) else ((12, 10)))) else (bif Nat.blt k 30 then ((15, 8)) else (bif Nat.blt k 31 then ((12, 10)) else ((12, 10)))))) else (bif Nat.blt k 37 then (bif Nat.blt k 34 then (bif Nat.blt k 33 then ((12, 10)) else ((12, 10))) else (bif Nat.blt k 35 then ((12, 10)) else (bif Nat.blt k 36 then ((12, 10)) else ((12, 10))))) else (bif Nat.blt k 40 then (bif Nat.blt k 38 then ((12, 10)) else (bif Nat.blt k 39 then ((12, 8)) else ((13, 8)))) else (bif Nat.blt k 41 then ((12, 10)) else (bif Nat.blt k 42 then ((5, 9)) else ((12, 160)))))))) else (bif Nat.blt k 65 then (bif Nat.blt k 54 then (bif Nat.blt k 48 then (bif Nat.blt k 45 then (bif Nat.blt k 44 then ((12, 10)) else ((12, 10))) else (bif Nat.blt k 46 then ((7, 16)) else (bif Nat.blt k 47 then ((13, 120)) else ((13, 120))))) else (bif Nat.blt k 51 then (bif Nat.blt k 49 then ((12, 120)) else (bif Nat.blt k 50 then ((12, 120)) else ((12, 120)))) else (bif Nat.blt k 52 then ((12, 120)) else (bif Nat.blt k 53 then ((12, 120)) else ((12, 120)))))) else (bif Nat.blt k 59 then (bif Nat.blt k 56 then (bif Nat.blt k 55 then ((12, 120)) else ((12, 12))) else (bif Nat.blt k 57 then ((12, 12)) else (bif Nat.blt k 58 then ((12, 12)) else ((7, 16))))) else (bif Nat.blt k 62 then (bif Nat.blt k 60 then ((13, 120)) else (bif Nat.blt k 61 then ((13, 120)) else ((12, 120)))) else (bif Nat.blt k 63 then ((12, 120)) else (bif Nat.blt k 64 then ((12, 120)) else ((12, 120))))))) else (bif Nat.blt k 76 then (bif Nat.blt k 70 then (bif Nat.blt k 67 then (bif Nat.blt k 66 then ((12, 120)) else ((12, 120))) else (bif Nat.blt k 68 then ((12, 120)) else (bif Nat.blt k 69 then ((12, 12)) else ((12, 12))))) else (bif Nat.blt k 73 then (bif Nat.blt k 71 then ((12, 12)) else (bif Nat.blt k 72 then ((0, 3)) else ((12, 201)))) else (bif Nat.blt k 74 then ((12, 120)) else (bif Nat.blt k 75 then ((9, 5)) else ((12, 40)))))) else (bif Nat.blt k 81 then (bif Nat.blt k 78 then (bif Nat.blt k 77 then ((12, 40)) else ((12, 40))) else (bif Nat.blt k 79 then ((12, 40)) else (bif Nat.blt k 80 then ((15, 8)) else ((12, 12))))) else (bif Nat.blt k 84 then (bif Nat.blt k 82 then ((12, 12)) else (bif Nat.blt k 83 then ((12, 12)) else ((12, 12)))) else (bif Nat.blt k 85 then ((12, 12)) else (bif Nat.blt k 86 then ((12, 12)) else ((12, 12))))))))) else (bif Nat.blt k 131 then (bif Nat.blt k 109 then (bif Nat.blt k 98 then (bif Nat.blt k 92 then (bif Nat.blt k 89 then (bif Nat.blt k 88 then ((12, 12)) else ((6, 8))) else (bif Nat.blt k 90 then ((12, 24)) else (bif Nat.blt k 91 then ((12, 24)) else ((12, 24))))) else (bif Nat.blt k 95 then (bif Nat.blt k 93 then ((12, 24)) else (bif Nat.blt k 94 then ((12, 8)) else ((12, 256)))) else (bif Nat.blt k 96 then ((12, 256)) else (bif Nat.blt k 97 then ((1, 10)) else ((12, 24)))))) else (bif Nat.blt k 103 then (bif Nat.blt k 100 then (bif Nat.blt k 99 then ((12, 24)) else ((12, 24))) else (bif Nat.blt k 101 then ((12, 24)) else (bif Nat.blt k 102 then ((12, 8)) else ((12, 8))))) else (bif Nat.blt k 106 then (bif Nat.blt k 104 then ((12, 8)) else (bif Nat.blt k 105 then ((13, 8)) else ((12, 6)))) else (bif Nat.blt k 107 then ((12, 4)) else (bif Nat.blt k 108 then ((4, 7)) else ((12, 12))))))) else (bif Nat.blt k 120 then (bif Nat.blt k 114 then (bif Nat.blt k 111 then (bif Nat.blt k 110 then ((12, 8)) else ((12, 256))) else (bif Nat.blt k 112 then ((12, 256)) else (bif Nat.blt k 113 then ((14, 256)) else ((14, 256))))) else (bif Nat.blt k 117 then (bif Nat.blt k 115 then ((11, 79)) else (bif Nat.blt k 116 then ((12, 12)) else ((12, 12)))) else (bif Nat.blt k 118 then ((12, 12)) else (bif Nat.blt k 119 then ((12, 12)) else ((12, 12)))))) else (bif Nat.blt k 125 then (bif Nat.blt k 122 then (bif Nat.blt k 121 then ((12, 12)) else ((12, 6))) else (bif Nat.blt k 123 then ((12, 120)) else (bif Nat.blt k 124 then ((12, 120)) else ((12, 120))))) else (bif Nat.blt k 128 then (bif Nat.blt k 126 then ((12, 120)) else (bif Nat.blt k 127 then ((12, 120)) else ((12, 120)))) else (bif Nat.blt k 129 then ((12, 120)) else (bif Nat.blt k 130 then ((13, 120)) else ((13, 120)))))))) else (bif Nat.blt k 153 then (bif Nat.blt k 142 then (bif Nat.blt k 136 then (bif Nat.blt k 133 then (bif Nat.blt k 132 then ((13, 120)) else ((12, 120))) else (bif Nat.blt k 134 then ((12, 8)) else (bif Nat.blt k 135 then ((12, 8)) else ((12, 80))))) else (bif Nat.blt k 139 then (bif Nat.blt k 137 then ((12, 80)) else (bif Nat.blt k 138 then ((12, 80)) else ((12, 160)))) else (bif Nat.blt k 140 then ((13, 8)) else (bif Nat.blt k 141 then ((12, 8)) else ((12, 9)))))) else (bif Nat.blt k 147 then (bif Nat.blt k 144 then (bif Nat.blt k 143 then ((13, 120)) else ((12, 120))) else (bif Nat.blt k 145 then ((12, 120)) else (bif Nat.blt k 146 then ((12, 120)) else ((12, 120))))) else (bif Nat.blt k 150 then (bif Nat.blt k 148 then ((12, 120)) else (bif Nat.blt k 149 then ((12, 120)) else ((12, 120)))) else (bif Nat.blt k 151 then ((12, 12)) else (bif Nat.blt k 152 then ((12, 12)) else ((12, 120))))))) else (bif Nat.blt k 164 then (bif Nat.blt k 158 then (bif Nat.blt k 155 then (bif Nat.blt k 154 then ((12, 120)) else ((12, 120))) else (bif Nat.blt k 156 then ((12, 40)) else (bif Nat.blt k 157 then ((12, 40)) else ((12, 40))))) else (bif Nat.blt k 161 then (bif Nat.blt k 159 then ((12, 40)) else (bif Nat.blt k 160 then ((12, 96)) else ((12, 32)))) else (bif Nat.blt k 162 then ((12, 256)) else (bif Nat.blt k 163 then ((12, 24)) else ((12, 24)))))) else (bif Nat.blt k 169 then (bif Nat.blt k 166 then (bif Nat.blt k 165 then ((12, 24)) else ((12, 24))) else (bif Nat.blt k 167 then ((12, 24)) else (bif Nat.blt k 168 then ((12, 8)) else ((13, 16))))) else (bif Nat.blt k 172 then (bif Nat.blt k 170 then ((12, 8)) else (bif Nat.blt k 171 then ((12, 8)) else ((12, 8)))) else (bif Nat.blt k 173 then ((12, 6)) else (bif Nat.blt k 174 then ((12, 24)) else ((12, 9)))))))))
/-- the reference in field (or row) j of cell k, once all is made -/
def ρ0 (k : Nat) (j : Int) : Option Nat := bif Nat.blt k 58 then (bif Nat.blt k 20 then (bif Nat.blt k 7 then (bif Nat.blt k 1 then (bif Nat.beq k 0 then (match j with | 1 => some 1 | 2 => some 7 | 3 => some 17 | 4 => some 41 | 5 => some 45 | 6 => some 58 | 7 => some 71 | 8 => some 74 | 9 => some 79 | 10 => some 88 | 11 => some 96 | 12 => some 105 | 13 => some 106 | 14 => some 107 | _ => none) else none) else (bif Nat.beq k 1 then (match j with | 0 => some 2 | 1 => some 3 | 2 => some 4 | 3 => some 5 | 4 => some 6 | _ => none) else none)) else (bif Nat.blt k 17 then (bif Nat.beq k 7 then (match j with | 0 => some 8 | 1 => some 9 | 2 => some 10 | 3 => some 11 | 4 => some 12 | 5 => some 13 | 6 => some 14 | 7 => some 15 | 8 => some 16 | _ => none) else none) else (bif Nat.beq k 17 then (match j with | 0 => some 18 | 1 => some 19 | 2 => some 20 | 3 => some 29 | 4 => some 38 | 5 => some 39 | 6 => some 40 | _ => none) else none))) else (bif Nat.blt k 41 then (bif Nat.blt k 29 then (bif Nat.beq k 20 && decide (0 ≤ j) && decide (j < 8) then some (21 + j.toNat) else none) else (bif Nat.beq k 29 && decide (0 ≤ j) && decide (j < 8) then some (30 + j.toNat) else none)) else (bif Nat.blt k 45 then (bif Nat.beq k 41 then (match j with | 0 => some 42 | 2 => some 43 | 3 => some 44 | _ => none) else none) else (bif Nat.beq k 45 then (match j with | 0 => some 1 | 1 => some 7 | 2 => some 17 | 3 => some 46 | 4 => some 47 | 5 => some 48 | 6 => some 49 | 7 => some 50 | 8 => some 51 | 9 => some 52 | 10 => some 53 | 11 => some 54 | 12 => some 55 | 13 => some 56 | 14 => some 57 | _ => none) else none)))) else (bif Nat.blt k 88 then (bif Nat.blt k 74 then (bif Nat.blt k 71 then (bif Nat.beq k 58 then (match j with | 0 => some 1 | 1 => some 7 | 2 => some 17 | 3 => some 59 | 4 => some 60 | 5 => some 61 | 6 => some 62 | 7 => some 63 | 8 => some 64 | 9 => some 65 | 10 => some 66 | 11 => some 67 | 12 => some 68 | 13 => some 69 | 14 => some 70 | _ => none) else none) else (bif Nat.beq k 71 then (match j with | 0 => some 72 | 1 => some 73 | _ => none) else none)) else (bif Nat.blt k 79 then (bif Nat.beq k 74 then (match j with | 0 => some 75 | 1 => some 76 | 2 => some 77 | 3 => some 78 | _ => none) else none) else (bif Nat.beq k 79 && decide (0 ≤ j) && decide (j < 8) then some (80 + j.toNat) else none))) else (bif Nat.blt k 107 then (bif Nat.blt k 96 then (bif Nat.beq k 88 then (match j with | 0 => some 89 | 1 => some 90 | 2 => some 91 | 3 => some 92 | 4 => some 93 | 5 => some 94 | 6 => some 95 | _ => none) else none) else (bif Nat.beq k 96 then (match j with | 0 => some 97 | 1 => some 98 | 2 => some 99 | 3 => some 100 | 5 => some 101 | 6 => some 102 | 7 => some 103 | 8 => some 104 | _ => none) else none)) else (bif Nat.blt k 114 then (bif Nat.beq k 107 then (match j with | 0 => some 108 | 1 => some 109 | 3 => some 110 | 4 => some 111 | 5 => some 112 | 6 => some 113 | _ => none) else none) else (bif Nat.beq k 114 then (match j with | 2 => some 115 | 3 => some 116 | 4 => some 117 | 5 => some 118 | 6 => some 119 | 7 => some 120 | 8 => some 121 | 10 => some 122 | 11 => some 123 | 12 => some 124 | 13 => some 125 | 14 => some 126 | 15 => some 127 | 16 => some 128 | 17 => some 129 | 18 => some 130 | 19 => some 131 | 20 => some 132 | 23 => some 133 | 24 => some 134 | 25 => some 135 | 26 => some 136 | 27 => some 137 | 28 => some 138 | 35 => some 139 | 36 => some 140 | 37 => some 141 | 40 => some 142 | 41 => some 143 | 42 => some 144 | 43 => some 145 | 44 => some 146 | 45 => some 147 | 46 => some 148 | 47 => some 149 | 48 => some 150 | 49 => some 151 | 50 => some 152 | 52 => some 153 | 53 => some 154 | 55 => some 155 | 56 => some 156 | 57 => some 157 | 58 => some 158 | 59 => some 159 | 61 => some 160 | 62 => some 161 | 64 => some 162 | 65 => some 163 | 66 => some 164 | 67 => some 165 | 68 => some 166 | 69 => some 167 | 71 => some 168 | 72 => some 169 | 73 => some 170 | 74 => some 171 | 76 => some 172 | 77 => some 173 | 78 => some 174 | _ => none) else none))))
/-- the numbers, once all is made -/
def σ0 (k : Nat) (j : Int) : Int := if (k = 17 ∧ j = 7) ∨ (k = 41 ∧ j = 6) ∨ (k = 114 ∧ j = 32) then -1 else if (k = 105 ∨ k = 121) ∧ 0 ≤ j ∧ j < 6 then 200 else 0
end
section
/-! OWN MACHINE. Numbers are Int, cells go by number (cell k lies at base + k; constants from 1000 on), their contents are functions. -/
abbrev AV : Type := Int ⊕ Int ⊕ Option Nat
abbrev vi (z : Int) : AV := Sum.inl z
abbrev vl (z : Int) : AV := Sum.inr (Sum.inl z)
abbrev vr (k : Nat) : AV := Sum.inr (Sum.inr (some k))
/-- base, the heap at the law's start, classes and slots, addresses of constants, the script's length and ints -/
abbrev GC : Type := Nat × Heap × va_G × (Nat → Nat) × Nat × (Nat → Int)
abbrev WS : Type := Nat × (Nat → Int → Option Nat) × (Nat → Int → Int)
abbrev MI : Type := MethodName × ByteArray × Nat × Option FieldType
def adr (G : GC) (k : Nat) : Nat := if k < 1000 then G.1 + k else G.2.2.2.1 (k - 1000)
def crf (G : GC) (r : Option Nat) : Value := match r with
  | none => .null
  | some k => .ref (adr G k)
def cvl (G : GC) (v : AV) : Value := match v with
  | .inl z => .int (Int32.ofInt z)
  | .inr (.inl z) => .long (Int64.ofInt z)
  | .inr (.inr r) => crf G r
def fvl (G : GC) (ci : Nat) (ρ : Nat → Int → Option Nat) (σ : Nat → Int → Int) (k j : Nat) : Value := if fI ci j = true then .int (Int32.ofInt (σ k j)) else crf G (ρ k j)
def upq {α : Type} (σ : Nat → Int → α) (k : Nat) (i : Int) (v : α) : Nat → Int → α := fun a => if a = k then (fun b => if b = i then v else σ k b) else σ a
theorem upq_ne {α : Type} {σ : Nat → Int → α} {k a : Nat} {i : Int} {v : α} (h : a ≠ k) : upq σ k i v a = σ a := if_neg h
theorem upq_eq {α : Type} {σ : Nat → Int → α} {k : Nat} {i b : Int} {v : α} : upq σ k i v k b = if b = i then v else σ k b := by unfold upq; rw [if_pos rfl]
def arrq (U : State) (H : Heap) (a : Nat) (ty : FieldType) (n : Nat) (f : Nat → Value) : Prop := ∃ cA : ClassId, H[a]? = some (arrV cA n f) ∧ ArrOfT U cA ty
/-- cell k holds what ρ and σ say -/
def cellq (G : GC) (ρ : Nat → Int → Option Nat) (σ : Nat → Int → Int) (U : State) (H : Heap) (k : Nat) : Prop := match shp k with
  | (12, n) => arrq U H (adr G k) .int n (fun j => .int (Int32.ofInt (σ k j)))
  | (13, n) => arrq U H (adr G k) .boolean n (fun j => .int (Int32.ofInt (σ k j)))
  | (14, n) => arrq U H (adr G k) .long n (fun j => .long (Int64.ofInt (σ k j)))
  | (15, n) => arrq U H (adr G k) (.array .int) n (fun j => crf G (ρ k j))
  | (ci, N) => t_OB (adr G k) (G.2.2.1.1 ci) N (G.2.2.1.2 ci) H (fun j => fvl G ci ρ σ k j)
def Invq (G : GC) (S : WS) (U : State) (H : Heap) : Prop := (H.size = G.1 + S.1 ∧ S.1 ≤ 175) ∧ (∀ q : Nat, q < G.1 → H[q]? = G.2.1[q]?) ∧ ∀ k : Nat, k < S.1 → cellq G S.2.1 S.2.2 U H k
/-- the words that hold on the way -/
def tbG : List Cond := lw_tbl.filter goodWord
/-- static arrays: class, name, length, contents (cells 1000, 1001 ..) -/
abbrev stq : List (String × String × List Int) := [("WharfPapers", "HAS_P", [1, 1, 0, 1, 0, 1, 0, 0, 0, 1, 0]), ("WharfPapers", "LEAST_N", [1, 0, 1, 1, -1, -1, -1, 1, 1, -1, -1]), ("WharfPapers", "MOST_N", [200, 1, 200, 9999, -1, -1, -1, 200, 200, -1, -1]), ("WharfPapers$Reader", "MOST_OF_NAME", [99, 1, 1, 999, 1]), ("WharfPapers$Terms", "AT_FIRST", [2, 1, 0, 10, 0, 0, 0, 0, 0, 2257]), ("WharfPapers$Plan", "OF_A_FLOOR", [279936, 46656, 7776, 1296, 216, 36, 6, 1])]
/-- texts: entry in the Reader's table, text (cells 1010 ..; their bytes 1030 ..) -/
abbrev txq : List (Nat × String × List Int32) := [(98, "rent", [114, 101, 110, 116]), (100, "title", [116, 105, 116, 108, 101]), (102, "stop", [115, 116, 111, 112]), (104, "bear", [98, 101, 97, 114]), (106, "beyond", [98, 101, 121, 111, 110, 100]), (108, "bank", [98, 97, 110, 107]), (110, "seller", [115, 101, 108, 108, 101, 114]), (112, "owner", [111, 119, 110, 101, 114]), (114, "let", [108, 101, 116]), (116, "dry", [100, 114, 121]), (118, "rank", [114, 97, 110, 107]), (120, "strike", [115, 116, 114, 105, 107, 101]), (122, "by", [98, 121])]
def lenq : List Nat := txq.map (fun q => q.2.2.length)
def bytq : List (List Int32) := txq.map (fun q => q.2.2)
abbrev sfmt : String := "Ljava/util/function/BiFunction;"
/-- links of nest mates -/
abbrev nstq : List (String × Nat × MethodName × String) := [("WharfPapers", 15, ⟨"WharfPapers$Lots", "<init>", "()V"⟩, "WharfPapers"), ("WharfPapers", 22, ⟨"WharfPapers$Lines", "<init>", "()V"⟩, "WharfPapers"), ("WharfPapers", 29, ⟨"WharfPapers$Terms", "<init>", "()V"⟩, "WharfPapers"), ("WharfPapers", 36, ⟨"WharfPapers$Reader", "<init>", "()V"⟩, "WharfPapers"), ("WharfPapers", 55, ⟨"WharfPapers$Doubt", "<init>", "()V"⟩, "WharfPapers"), ("WharfPapers", 62, ⟨"WharfPapers$Weighings", "<init>", "()V"⟩, "WharfPapers"), ("WharfPapers", 74, ⟨"WharfPapers$Sales", "<init>", "()V"⟩, "WharfPapers"), ("WharfPapers", 81, ⟨"WharfPapers$Dues", "<init>", "()V"⟩, "WharfPapers"), ("WharfPapers", 95, ⟨"WharfPapers$Plan", "<init>", "()V"⟩, "WharfPapers"), ("WharfPapers$Doubt", 45, ⟨"WharfPapers", "within", "(III)Z"⟩, "WharfPapers")]
def AOA (U : State) : Prop := (Cond.arrayOver (.array .int)).before #[] U = true
theorem AOA.moved {u U : State} (hvm : u.vm.Alike U.vm) (h : AOA u) : AOA U := Jvm.Stand.arrayOver_alikeB hvm h
theorem AOA.use {A : Array Value} {U : State} (h : AOA U) : (Cond.arrayOver (.array .int)).before A U = true := h
/-- what the tables give of any state on the way: classes, static arrays, texts, the script -/
def Kst (G : GC) (U : State) : Prop := va_K G.2.2.1 vwCl [] U ∧
  (∀ (i : Nat) (q : String × String × List Int), stq[i]? = some q → va_Z q.1 q.2.1 "[I" (.ref (adr G (1000 + i))) (fun a => G.1 ≤ a) U G.2.1 ∧ va_T .int (adr G (1000 + i)) q.2.2.length (fun j => .int (Int32.ofInt (q.2.2.getD j 0))) (fun a => G.1 ≤ a) U G.2.1) ∧
  (∀ (i : Nat) (q : Nat × String × List Int32), txq[i]? = some q → vk_R "WharfPapers$Reader" q.1 q.2.1 (adr G (1010 + i)) U) ∧
  vk_S 13 lenq bytq (fun i => adr G (1010 + i)) (fun i => adr G (1030 + i)) (fun a => G.1 ≤ a) U G.2.1 ∧
  va_Z "java/lang/String" "COMPACT_STRINGS" "Z" (.int 1) (fun a => G.1 ≤ a) U G.2.1 ∧
  (∃ r : Option Nat, va_Z "jdk/internal/util/Preconditions" "SIOOBE_FORMATTER" sfmt (crf G r) (fun a => G.1 ≤ a) U G.2.1) ∧
  va_T .int (adr G 1060) G.2.2.2.2.1 (fun j => .int (Int32.ofInt (G.2.2.2.2.2 j))) (fun a => G.1 ≤ a) U G.2.1 ∧
  (∀ q ∈ nstq, va_Nw (.methodLinkNest q.1 q.2.1 q.2.2.1 q.2.2.2) U) ∧ AOA U
theorem Kst.warm {G : GC} {u U : State} (hW : u.WarmedH U.vm) (h : Kst G u) : Kst G U := by
  obtain ⟨h1, h2, h3, h4, h5, ⟨r, h6⟩, h7, h8, h9⟩ := h
  exact ⟨va_K.moved hW.alike h1, fun i q hq => ⟨(h2 i q hq).1.moved hW.alike, (h2 i q hq).2.moved hW.alike⟩, fun i q hq => (h3 i q hq).warm hW, h4.moved hW.alike, h5.moved hW.alike, ⟨r, h6.moved hW.alike⟩, h7.moved hW.alike, fun q hq => va_Nw.warmM hW (h8 q hq), h9.moved hW.alike⟩
theorem Kst.same {G : GC} {u U : State} (hv : U.vm = u.vm) (h : Kst G u) : Kst G U := by
  have ha : u.vm.Alike U.vm := by rw [hv]; exact Vm.Alike.refl _
  obtain ⟨h1, h2, h3, h4, h5, ⟨r, h6⟩, h7, h8, h9⟩ := h
  exact ⟨va_K.moved ha h1, fun i q hq => ⟨(h2 i q hq).1.moved ha, (h2 i q hq).2.moved ha⟩, fun i q hq => (h3 i q hq).same hv, h4.moved ha, h5.moved ha, ⟨r, h6.moved ha⟩, h7.moved ha, fun q hq => (h8 q hq).same rfl hv.symm, h9.moved ha⟩
theorem arrq.moved {u U : State} {H : Heap} {a : Nat} {ty : FieldType} {n : Nat} {f : Nat → Value} (hvm : u.vm.Alike U.vm) (h : arrq u H a ty n f) : arrq U H a ty n f := by
  obtain ⟨cA, h1, h2⟩ := h
  exact ⟨cA, h1, arrOfT_moved hvm h2⟩
theorem cellq.moved {G : GC} {ρ : Nat → Int → Option Nat} {σ : Nat → Int → Int} {u U : State} {H : Heap} {k : Nat} (hvm : u.vm.Alike U.vm) (h : cellq G ρ σ u H k) : cellq G ρ σ U H k := by
  unfold cellq at h ⊢
  split at h
  · exact arrq.moved hvm h
  · exact arrq.moved hvm h
  · exact arrq.moved hvm h
  · exact arrq.moved hvm h
  · exact h
theorem Invq.moved {G : GC} {S : WS} {u U : State} {H : Heap} (hvm : u.vm.Alike U.vm) (h : Invq G S u H) : Invq G S U H := ⟨h.1, h.2.1, fun k hk => (h.2.2 k hk).moved hvm⟩
theorem adr_lt {G : GC} {k : Nat} (h : k < 1000) : adr G k = G.1 + k := if_pos h
/-- a cell reads alike where heap, refs and numbers are alike there -/
theorem cellq.kept {G : GC} {ρ ρ' : Nat → Int → Option Nat} {σ σ' : Nat → Int → Int} {U : State} {H H' : Heap} {k : Nat} (h : cellq G ρ σ U H k) (hH : H'[adr G k]? = H[adr G k]?) (hρ : ρ' k = ρ k) (hσ : σ' k = σ k) : cellq G ρ' σ' U H' k := by
  unfold cellq at h ⊢
  split at h
  · obtain ⟨cA, h1, h2⟩ := h; exact ⟨cA, by rw [hH, h1, hσ], h2⟩
  · obtain ⟨cA, h1, h2⟩ := h; exact ⟨cA, by rw [hH, h1, hσ], h2⟩
  · obtain ⟨cA, h1, h2⟩ := h; exact ⟨cA, by rw [hH, h1, hσ], h2⟩
  · obtain ⟨cA, h1, h2⟩ := h; exact ⟨cA, by rw [hH, h1, hρ], h2⟩
  · refine t_OB.to (t_OB.kept h hH) (fun j _ => ?_)
    unfold fvl
    rw [hσ, hρ]
/-- one cell is written: the world behind it -/
theorem Invq.put {G : GC} {n : Nat} {ρ ρ' : Nat → Int → Option Nat} {σ σ' : Nat → Int → Int} {U : State} {H H' : Heap} {k : Nat} (h : Invq G (n, ρ, σ) U H) (hk : k < n) (hs : H'.size = H.size) (ho : ∀ q : Nat, q ≠ adr G k → H'[q]? = H[q]?) (hc : cellq G ρ' σ' U H' k) (hρ : ∀ a, a ≠ k → ρ' a = ρ a) (hσ : ∀ a, a ≠ k → σ' a = σ a) : Invq G (n, ρ', σ') U H' := by
  obtain ⟨⟨h1, h0⟩, h2, h3⟩ := h
  have hk9 : k < 1000 := Nat.lt_of_lt_of_le hk (Nat.le_trans h0 (by decide))
  refine ⟨⟨by rw [hs, h1], h0⟩, fun q hq => ?_, fun a ha => ?_⟩
  · rw [ho q (by rw [adr_lt hk9]; omega)]
    exact h2 q hq
  · by_cases e : a = k
    · subst e; exact hc
    · refine (h3 a ha).kept (ho _ ?_) (hρ a e) (hσ a e)
      have ha9 : a < 1000 := Nat.lt_of_lt_of_le ha (Nat.le_trans h0 (by decide))
      rw [adr_lt hk9, adr_lt ha9]
      omega
/-! locals -/
def hdL (l : List (Option AV)) : Option AV := match l with
  | [] => none
  | a :: _ => a
def noL (a : Option AV) : Option AV := match a with
  | some (.inr (.inl _)) => none
  | b => b
def sL : Nat → List (Option AV) → AV → List (Option AV)
  | 0, l, v => some v :: l.tail
  | 1, l, v => noL (hdL l) :: some v :: l.tail.tail
  | i + 2, l, v => hdL l :: sL (i + 1) l.tail v
/-- a long: the place behind it is gone too -/
def sLL : Nat → List (Option AV) → AV → List (Option AV)
  | 0, l, v => some v :: none :: l.tail.tail
  | 1, l, v => noL (hdL l) :: some v :: none :: l.tail.tail.tail
  | i + 2, l, v => hdL l :: sLL (i + 1) l.tail v
def prL (G : GC) : Nat → List (Option AV) → List (Nat × Value)
  | _, [] => []
  | n, none :: l => prL G (n + 1) l
  | n, some v :: l => (n, cvl G v) :: prL G (n + 1) l
def nthq {α : Type} : List α → Nat → Option α
  | [], _ => none
  | a :: _, 0 => some a
  | _ :: l, n + 1 => nthq l n
theorem prL_in {G : GC} : ∀ {L : List (Option AV)} {n i : Nat} {v : AV}, nthq L i = some (some v) → (n + i, cvl G v) ∈ prL G n L
  | [], n, i, v, h => by cases h
  | none :: l, n, 0, v, h => by cases h
  | none :: l, n, i + 1, v, h => by
    have := prL_in (G := G) (L := l) (n := n + 1) (i := i) (v := v) h
    show _ ∈ prL G (n + 1) l
    rw [show n + (i + 1) = n + 1 + i by omega]
    exact this
  | some w :: l, n, 0, v, h => by
    cases h
    exact List.mem_cons_self
  | some w :: l, n, i + 1, v, h => by
    have := prL_in (G := G) (L := l) (n := n + 1) (i := i) (v := v) h
    show _ ∈ _ :: prL G (n + 1) l
    rw [show n + (i + 1) = n + 1 + i by omega]
    exact List.mem_cons_of_mem _ this
theorem prL_of {G : GC} : ∀ {L : List (Option AV)} {n : Nat} {q : Nat × Value}, q ∈ prL G n L → ∃ (i : Nat) (v : AV), nthq L i = some (some v) ∧ q = (n + i, cvl G v)
  | [], n, q, h => by cases h
  | none :: l, n, q, h => by
    obtain ⟨i, v, h1, h2⟩ := prL_of (G := G) (L := l) (n := n + 1) h
    exact ⟨i + 1, v, h1, by rw [h2]; congr 1; omega⟩
  | some w :: l, n, q, h => by
    rcases List.mem_cons.mp h with h | h
    · exact ⟨0, w, rfl, h⟩
    · obtain ⟨i, v, h1, h2⟩ := prL_of (G := G) (L := l) (n := n + 1) h
      exact ⟨i + 1, v, h1, by rw [h2]; congr 1; omega⟩
def lh (G : GC) (ls : Array Slot) (nL : Nat) (L : List (Option AV)) : Prop := lv_has ls nL (prL G 0 L)
theorem lh.at {G : GC} {ls : Array Slot} {nL : Nat} {L : List (Option AV)} (h : lh G ls nL L) {i : Nat} {v : AV} (hi : nthq L i = some (some v)) : ls[i]? = some (.val (cvl G v)) := by
  have := h.2.2 _ (prL_in (G := G) (n := 0) hi)
  simpa using this
theorem nthq_hd {L : List (Option AV)} {v : AV} (h : hdL L = some v) : nthq L 0 = some (some v) := by
  cases L with
  | nil => cases h
  | cons a l => exact congrArg some h
theorem nthq_tl {α : Type} {L : List α} {i : Nat} {v : α} (h : nthq L.tail i = some v) : nthq L (i + 1) = some v := by
  cases L with
  | nil => cases h
  | cons a l => exact h
theorem noL_some {a : Option AV} {v : AV} (h : noL a = some v) : a = some v ∧ ∀ z, v ≠ vl z := by
  unfold noL at h
  split at h
  · cases h
  · rename_i hn
    refine ⟨h, fun z hz => ?_⟩
    subst hz
    exact hn z h
theorem sL_at : ∀ {i : Nat} {L : List (Option AV)} {v w : AV} {j : Nat}, nthq (sL i L v) j = some (some w) → (j = i ∧ w = v) ∨ (j ≠ i ∧ nthq L j = some (some w) ∧ (j + 1 = i → ∀ z, w ≠ vl z))
  | 0, L, v, w, 0, h => Or.inl ⟨rfl, by cases h; rfl⟩
  | 0, L, v, w, j + 1, h => Or.inr ⟨by omega, nthq_tl h, by omega⟩
  | 1, L, v, w, 0, h => by
    have h1 : noL (hdL L) = some w := Option.some.inj h
    obtain ⟨h2, h3⟩ := noL_some h1
    exact Or.inr ⟨by omega, nthq_hd h2, fun _ => h3⟩
  | 1, L, v, w, 1, h => Or.inl ⟨rfl, by cases h; rfl⟩
  | 1, L, v, w, j + 2, h => Or.inr ⟨by omega, nthq_tl (nthq_tl h), by omega⟩
  | i + 2, L, v, w, 0, h => Or.inr ⟨by omega, nthq_hd (Option.some.inj h), by omega⟩
  | i + 2, L, v, w, j + 1, h => by
    rcases sL_at (i := i + 1) (L := L.tail) (v := v) (w := w) (j := j) h with ⟨h1, h2⟩ | ⟨h1, h2, h3⟩
    · exact Or.inl ⟨by omega, h2⟩
    · exact Or.inr ⟨by omega, nthq_tl h2, fun e => h3 (by omega)⟩
theorem sLL_at : ∀ {i : Nat} {L : List (Option AV)} {v w : AV} {j : Nat}, nthq (sLL i L v) j = some (some w) → (j = i ∧ w = v) ∨ (j ≠ i ∧ j ≠ i + 1 ∧ nthq L j = some (some w) ∧ (j + 1 = i → ∀ z, w ≠ vl z))
  | 0, L, v, w, 0, h => Or.inl ⟨rfl, by cases h; rfl⟩
  | 0, L, v, w, 1, h => by cases h
  | 0, L, v, w, j + 2, h => Or.inr ⟨by omega, by omega, nthq_tl (nthq_tl h), by omega⟩
  | 1, L, v, w, 0, h => by
    have h1 : noL (hdL L) = some w := Option.some.inj h
    obtain ⟨h2, h3⟩ := noL_some h1
    exact Or.inr ⟨by omega, by omega, nthq_hd h2, fun _ => h3⟩
  | 1, L, v, w, 1, h => Or.inl ⟨rfl, by cases h; rfl⟩
  | 1, L, v, w, 2, h => by cases h
  | 1, L, v, w, j + 3, h => Or.inr ⟨by omega, by omega, nthq_tl (nthq_tl (nthq_tl h)), by omega⟩
  | i + 2, L, v, w, 0, h => Or.inr ⟨by omega, by omega, nthq_hd (Option.some.inj h), by omega⟩
  | i + 2, L, v, w, j + 1, h => by
    rcases sLL_at (i := i + 1) (L := L.tail) (v := v) (w := w) (j := j) h with ⟨h1, h2⟩ | ⟨h1, h0, h2, h3⟩
    · exact Or.inl ⟨by omega, h2⟩
    · exact Or.inr ⟨by omega, by omega, nthq_tl h2, fun e => h3 (by omega)⟩
theorem cvl_cat {G : GC} {w : AV} (h : (cvl G w).category = 2) : ∃ z, w = vl z := by
  match w with
  | .inl z => cases h
  | .inr (.inl z) => exact ⟨z, rfl⟩
  | .inr (.inr none) => cases h
  | .inr (.inr (some k)) => cases h
theorem lh.set {G : GC} {ls : Array Slot} {nL i : Nat} {L : List (Option AV)} {v : AV} {lv' : List (Nat × Value)} (hl : (i, cvl G v) :: (prL G 0 L).filter (fun q => !(q.1 == i) && !(q.1 + 1 == i && q.2.category == 2)) = lv') (h : lv_has ls nL lv') : lh G ls nL (sL i L v) := by
  refine ⟨h.1, h.2.1, fun q hq => h.2.2 q ?_⟩
  obtain ⟨j, w, h1, rfl⟩ := prL_of hq
  rw [← hl, Nat.zero_add]
  rcases sL_at h1 with ⟨rfl, rfl⟩ | ⟨h2, h3, h4⟩
  · exact List.mem_cons_self
  · refine List.mem_cons_of_mem _ (List.mem_filter.mpr ⟨by simpa using prL_in (G := G) (n := 0) h3, ?_⟩)
    have h5 : (j + 1 == i && (cvl G w).category == 2) = false := by
      by_cases e : j + 1 = i
      · have : ¬ (cvl G w).category = 2 := fun q => by
          obtain ⟨z, hz⟩ := cvl_cat q
          exact h4 e z hz
        simp [this]
      · simp [e]
    simp [h2, h5]
theorem lh.setL {G : GC} {ls : Array Slot} {nL i : Nat} {L : List (Option AV)} {v : AV} {lv' : List (Nat × Value)} (hl : (i, cvl G v) :: (prL G 0 L).filter (fun q => !(q.1 == i) && (!(q.1 == i + 1) && !(q.1 + 1 == i && q.2.category == 2))) = lv') (h : lv_has ls nL lv') : lh G ls nL (sLL i L v) := by
  refine ⟨h.1, h.2.1, fun q hq => h.2.2 q ?_⟩
  obtain ⟨j, w, h1, rfl⟩ := prL_of hq
  rw [← hl, Nat.zero_add]
  rcases sLL_at h1 with ⟨rfl, rfl⟩ | ⟨h2, h6, h3, h4⟩
  · exact List.mem_cons_self
  · refine List.mem_cons_of_mem _ (List.mem_filter.mpr ⟨by simpa using prL_in (G := G) (n := 0) h3, ?_⟩)
    have h5 : (j + 1 == i && (cvl G w).category == 2) = false := by
      by_cases e : j + 1 = i
      · have : ¬ (cvl G w).category = 2 := fun q => by
          obtain ⟨z, hz⟩ := cvl_cat q
          exact h4 e z hz
        simp [this]
      · simp [e]
    simp [h2, h5, h6]
end
section
/-! THE OWN MACHINE'S JUDGEMENT: from a frame at pc with locals L and stack st in the world S the method returns, and Q holds of answer and world. -/
abbrev En : Type := Nat × Instr × Nat × Nat × Nat
def jofq (i : Instr) : Option Int := match i with
  | .goto o => some o
  | .ifCond _ o => some o
  | .if_icmp _ o => some o
  | _ => none
/-- an entry of a code list: its place, instruction, length, the next place, the place that it jumps to -/
def dok (cc : ByteArray) (e : En) : Prop := decode cc e.1 = .ok (e.2.1, e.2.2.1) ∧ e.1 + e.2.2.1 = e.2.2.2.1 ∧ ∀ o, jofq e.2.1 = some o → (e.1 : Int) + o = (e.2.2.2.2 : Int)
def dokb (cc : ByteArray) (e : En) : Bool := decide (decode cc e.1 = .ok (e.2.1, e.2.2.1)) && (decide (e.1 + e.2.2.1 = e.2.2.2.1) && (match jofq e.2.1 with
  | some o => decide ((e.1 : Int) + o = (e.2.2.2.2 : Int))
  | none => true))
theorem dok_of {cc : ByteArray} {e : En} (h : dokb cc e = true) : dok cc e := by
  unfold dokb at h
  rw [Bool.and_eq_true, Bool.and_eq_true] at h
  refine ⟨of_decide_eq_true h.1, of_decide_eq_true h.2.1, fun o ho => ?_⟩
  have h3 := h.2.2
  rw [ho] at h3
  exact of_decide_eq_true h3
theorem dok_at {cc : ByteArray} {es : List En} (h : es.all (dokb cc) = true) : ∀ {e : En} (i : Nat), nthq es i = some e → dok cc e := by
  intro e i hi
  refine dok_of (List.all_eq_true.mp h e ?_)
  clear h
  induction es generalizing i with
  | nil => cases hi
  | cons a l ih =>
    cases i with
    | zero => cases hi; exact List.mem_cons_self
    | succ i => exact List.mem_cons_of_mem _ (ih i hi)
def rokq (ret : Option FieldType) (r : Option AV) : Prop := match ret, r with
  | none, none => True
  | some .int, some (.inl _) => True
  | some .boolean, some (.inl z) => z = 0 ∨ z = 1
  | some .byte, some (.inl z) => z = 0
  | some .char, some (.inl z) => 0 ≤ z ∧ z < 65536
  | some .long, some (.inr (.inl _)) => True
  | some (.object _), some (.inr (.inr (some _))) => True
  | _, _ => False
def rinq (r : Option AV) : Instr := match r with
  | none => .return_
  | some (.inl _) => .ireturn
  | some (.inr (.inl _)) => .lreturn
  | some (.inr (.inr _)) => .areturn
def RunX (l : Launch) (G : GC) (M : MI) (R : Room) (pc : Nat) (L : List (Option AV)) (st : List AV) (S : WS) (ca sl : Nat) (Q : Option AV → WS → Prop) : Prop :=
  ∀ (p : Program) (e : Env) (s : State) (m : MethodId) (args : Array Value) (below : List Frame) (meth : Method) (c : Code) (H : Heap) (locs : List Loc) (Z : State → Prop) (ls : Array Slot),
    CallFix p m c M.2.1 M.2.2.1 s args tbG M.1.cls → meth.name = M.1.name → Kst G s →
    (∀ (r : Option AV) (S' : WS) (pc' : Nat) (ls' : Array Slot) (H' : Heap) (locs' : List Loc) (ca' sl' : Nat), Q r S' → rokq M.2.2.2 r → decode M.2.1 pc' = .ok (rinq r, 1) → Invq G S' s H' → (∀ q ∈ locs', G.1 ≤ q.base) → ca' ≤ R.cells → sl' ≤ R.slots →
      W p l e R s m args below meth c H' locs' ca' sl' Z (F0 m pc' ls' (r.toList.map (cvl G)))) →
    Invq G S s H → (∀ q ∈ locs, G.1 ≤ q.base) → lh G ls M.2.2.1 L →
    W p l e R s m args below meth c H locs ca sl Z (F0 m pc ls (st.map (cvl G)))
/-! numbers -/
abbrev rgi (z : Int) : Prop := -2147483648 ≤ z ∧ z < 2147483648
abbrev rgl (z : Int) : Prop := -9223372036854775808 ≤ z ∧ z < 9223372036854775808
theorem o32 {z : Int} (h : rgi z) : (Int32.ofInt z).toInt = z := by
  have q : (Int32.size : Int) = 4294967296 := rfl
  rw [Int32.toInt_ofInt, Int.bmod_eq_of_le (by omega) (by omega)]
theorem o64 {z : Int} (h : rgl z) : (Int64.ofInt z).toInt = z := by
  have q : (Int64.size : Int) = 18446744073709551616 := rfl
  rw [Int64.toInt_ofInt, Int.bmod_eq_of_le (by omega) (by omega)]
theorem o32_lt {x y : Int} (hx : rgi x) (hy : rgi y) : Int32.ofInt x < Int32.ofInt y ↔ x < y := by rw [Int32.lt_iff_toInt_lt, o32 hx, o32 hy]
theorem o32_le {x y : Int} (hx : rgi x) (hy : rgi y) : Int32.ofInt x ≤ Int32.ofInt y ↔ x ≤ y := by rw [Int32.le_iff_toInt_le, o32 hx, o32 hy]
theorem o32_eq {x y : Int} (hx : rgi x) (hy : rgi y) : Int32.ofInt x = Int32.ofInt y ↔ x = y := by rw [← Int32.toInt_inj, o32 hx, o32 hy]
theorem o64_lt {x y : Int} (hx : rgl x) (hy : rgl y) : Int64.ofInt x < Int64.ofInt y ↔ x < y := by rw [Int64.lt_iff_toInt_lt, o64 hx, o64 hy]
theorem o64_eq {x y : Int} (hx : rgl x) (hy : rgl y) : Int64.ofInt x = Int64.ofInt y ↔ x = y := by rw [← Int64.toInt_inj, o64 hx, o64 hy]
theorem o32_0 : (0 : Int32) = Int32.ofInt 0 := rfl
theorem o32_ix {i : Int} (h0 : 0 ≤ i) (h1 : i < 2147483648) : (Int32.ofInt i).toNatClampNeg = i.toNat := by
  rw [Int32.toNatClampNeg, o32 ⟨by omega, h1⟩]
theorem o32_in {i : Int} {n : Nat} (h : 0 ≤ i ∧ i < n) (hn : n ≤ 100000) : ¬ (Int32.ofInt i < 0 ∨ n ≤ (Int32.ofInt i).toNatClampNeg) := by
  rw [o32_0, o32_lt (by omega) (by decide), o32_ix h.1 (by omega)]
  omega
theorem o32_div {x y : Int} (hx : 0 ≤ x ∧ x < 2147483648) (hy : 0 < y ∧ y < 2147483648) : Int32.ofInt x / Int32.ofInt y = Int32.ofInt (x / y) := by
  rw [← Int32.toInt_inj, Int32.toInt_div, o32 (by omega), o32 (by omega), Int.tdiv_eq_ediv_of_nonneg hx.1]
  have h1 : x / y ≤ x := Int.ediv_le_self _ hx.1
  have h2 : 0 ≤ x / y := Int.ediv_nonneg hx.1 (by omega)
  rw [o32 (by omega), Int.bmod_eq_of_le (by omega) (by omega)]
theorem o64_div {x y : Int} (hx : 0 ≤ x ∧ x < 9223372036854775808) (hy : 0 < y ∧ y < 9223372036854775808) : Int64.ofInt x / Int64.ofInt y = Int64.ofInt (x / y) := by
  rw [← Int64.toInt_inj, Int64.toInt_div, o64 (by omega), o64 (by omega), Int.tdiv_eq_ediv_of_nonneg hx.1]
  have h1 : x / y ≤ x := Int.ediv_le_self _ hx.1
  have h2 : 0 ≤ x / y := Int.ediv_nonneg hx.1 (by omega)
  rw [o64 (by omega), Int.bmod_eq_of_le (by omega) (by omega)]
/-- the bits' own words; lemmas on small numbers come later -/
def bAnd (x y : Int) : Int := (Int32.ofInt x &&& Int32.ofInt y).toInt
def bOr (x y : Int) : Int := (Int32.ofInt x ||| Int32.ofInt y).toInt
def bXor (x y : Int) : Int := (Int32.ofInt x ^^^ Int32.ofInt y).toInt
def bShl (x y : Int) : Int := (Int32.ofInt x <<< (Int32.ofInt y &&& 31)).toInt
def bShr (x y : Int) : Int := (Int32.ofInt x >>> (Int32.ofInt y &&& 31)).toInt
def bUsh (x y : Int) : Int := ((Int32.ofInt x).toUInt32 >>> ((Int32.ofInt y).toUInt32 &&& Int32.toUInt32 31)).toInt32.toInt
def lAnd (x y : Int) : Int := (Int64.ofInt x &&& Int64.ofInt y).toInt
def lOr (x y : Int) : Int := (Int64.ofInt x ||| Int64.ofInt y).toInt
def lShl (x y : Int) : Int := (Int64.ofInt x <<< ((Int32.ofInt y).toInt64 &&& 63)).toInt
def lShr (x y : Int) : Int := (Int64.ofInt x >>> ((Int32.ofInt y).toInt64 &&& 63)).toInt
def lUsh (x y : Int) : Int := ((Int64.ofInt x).toUInt64 >>> ((Int32.ofInt y).toInt64.toUInt64 &&& Int64.toUInt64 63)).toInt64.toInt
def lCmp (x y : Int) : Int := if y < x then 1 else if x = y then 0 else -1
def l2iq (x : Int) : Int := (Int64.ofInt x).toInt32.toInt
theorem shp_le : ∀ k, k < 175 → (shp k).2 ≤ 256 := by decide +kernel
section XR
variable {l : Launch} {G : GC} {M : MI} {R : Room} {pc nx tg : Nat} {L : List (Option AV)} {st : List AV} {S : WS} {ca sl : Nat} {Q : Option AV → WS → Prop}
theorem x_iconst {z : Int} (hd : dok M.2.1 (pc, .iconst z, 1, nx, tg)) (k : RunX l G M R nx L (vi z :: st) S ca sl Q) : RunX l G M R pc L (st) S ca sl Q := by
  intro p e s m args below meth c H locs Z ls hc hn hks hr hi hlo hl
  obtain ⟨hd1, hd2, hd3⟩ := hd
  dsimp only at hd1 hd2 hd3
  subst hd2
  have k1 := k p e s m args below meth c H locs Z ls hc hn hks hr hi hlo hl
  refine lv_iconst hc.1 hc.2.1 hd1 rfl ?_
  exact k1
theorem x_bipush {z w : Int} (hd : dok M.2.1 (pc, .bipush w, 2, nx, tg)) (hz : (Int8.ofInt w).toInt32 = Int32.ofInt z) (k : RunX l G M R nx L (vi z :: st) S ca sl Q) : RunX l G M R pc L (st) S ca sl Q := by
  intro p e s m args below meth c H locs Z ls hc hn hks hr hi hlo hl
  obtain ⟨hd1, hd2, hd3⟩ := hd
  dsimp only at hd1 hd2 hd3
  subst hd2
  have k1 := k p e s m args below meth c H locs Z ls hc hn hks hr hi hlo hl
  refine lv_bipush hc.1 hc.2.1 hd1 hz ?_
  exact k1
theorem x_sipush {z w : Int} (hd : dok M.2.1 (pc, .sipush w, 3, nx, tg)) (hz : (Int16.ofInt w).toInt32 = Int32.ofInt z) (k : RunX l G M R nx L (vi z :: st) S ca sl Q) : RunX l G M R pc L (st) S ca sl Q := by
  intro p e s m args below meth c H locs Z ls hc hn hks hr hi hlo hl
  obtain ⟨hd1, hd2, hd3⟩ := hd
  dsimp only at hd1 hd2 hd3
  subst hd2
  have k1 := k p e s m args below meth c H locs Z ls hc hn hks hr hi hlo hl
  refine lv_sipush hc.1 hc.2.1 hd1 hz ?_
  exact k1
theorem x_lconst {n : Fin 2} {z : Int} (hd : dok M.2.1 (pc, .lconst n, 1, nx, tg)) (hz : Int64.ofNat (n : Nat) = Int64.ofInt z) (k : RunX l G M R nx L (vl z :: st) S ca sl Q) : RunX l G M R pc L (st) S ca sl Q := by
  intro p e s m args below meth c H locs Z ls hc hn hks hr hi hlo hl
  obtain ⟨hd1, hd2, hd3⟩ := hd
  dsimp only at hd1 hd2 hd3
  subst hd2
  have k1 := k p e s m args below meth c H locs Z ls hc hn hks hr hi hlo hl
  refine lv_lconst hc.1 hc.2.1 hd1 hz ?_
  exact k1
theorem x_ldc {z : Int} {v : Int32} {idx : Nat} (hd : dok M.2.1 (pc, .ldc idx, 2, nx, tg)) (hw : Jvm.Cond.constant M.1.cls idx v ∈ tbG) (hz : v = Int32.ofInt z) (k : RunX l G M R nx L (vi z :: st) S ca sl Q) : RunX l G M R pc L (st) S ca sl Q := by
  intro p e s m args below meth c H locs Z ls hc hn hks hr hi hlo hl
  obtain ⟨hd1, hd2, hd3⟩ := hd
  dsimp only at hd1 hd2 hd3
  subst hd2
  have k1 := k p e s m args below meth c H locs Z ls hc hn hks hr hi hlo hl
  refine lv_ldc hc.1 hc.2.1 hc.2.2.2.1 (hc.2.2.2.2 _ hw) hd1 ?_
  rw [hz]
  exact k1
theorem x_ldc2 {z : Int} {v : Int64} {idx : Nat} (hd : dok M.2.1 (pc, .ldc2_w idx, 3, nx, tg)) (hw : Jvm.Cond.constantLong M.1.cls idx v ∈ tbG) (hz : v = Int64.ofInt z) (k : RunX l G M R nx L (vl z :: st) S ca sl Q) : RunX l G M R pc L (st) S ca sl Q := by
  intro p e s m args below meth c H locs Z ls hc hn hks hr hi hlo hl
  obtain ⟨hd1, hd2, hd3⟩ := hd
  dsimp only at hd1 hd2 hd3
  subst hd2
  have k1 := k p e s m args below meth c H locs Z ls hc hn hks hr hi hlo hl
  refine lv_ldc2 hc.1 hc.2.1 hc.2.2.2.1 (hc.2.2.2.2 _ hw) hd1 ?_
  rw [hz]
  exact k1
theorem x_iload_n {i : Fin 4} {z : Int} (hd : dok M.2.1 (pc, .iload_n i, 1, nx, tg)) (hv : nthq L (i : Nat) = some (some (vi z))) (k : RunX l G M R nx L (vi z :: st) S ca sl Q) : RunX l G M R pc L (st) S ca sl Q := by
  intro p e s m args below meth c H locs Z ls hc hn hks hr hi hlo hl
  obtain ⟨hd1, hd2, hd3⟩ := hd
  dsimp only at hd1 hd2 hd3
  subst hd2
  have k1 := k p e s m args below meth c H locs Z ls hc hn hks hr hi hlo hl
  refine lv_iload_n hc.1 hc.2.1 hd1 rfl (hl.at hv) ?_
  exact k1
theorem x_iload {i : Nat} {z : Int} (hd : dok M.2.1 (pc, .iload i, 2, nx, tg)) (hv : nthq L i = some (some (vi z))) (k : RunX l G M R nx L (vi z :: st) S ca sl Q) : RunX l G M R pc L (st) S ca sl Q := by
  intro p e s m args below meth c H locs Z ls hc hn hks hr hi hlo hl
  obtain ⟨hd1, hd2, hd3⟩ := hd
  dsimp only at hd1 hd2 hd3
  subst hd2
  have k1 := k p e s m args below meth c H locs Z ls hc hn hks hr hi hlo hl
  refine lv_iload hc.1 hc.2.1 hd1 (hl.at hv) ?_
  exact k1
theorem x_lload_n {i : Fin 4} {z : Int} (hd : dok M.2.1 (pc, .lload_n i, 1, nx, tg)) (hv : nthq L (i : Nat) = some (some (vl z))) (k : RunX l G M R nx L (vl z :: st) S ca sl Q) : RunX l G M R pc L (st) S ca sl Q := by
  intro p e s m args below meth c H locs Z ls hc hn hks hr hi hlo hl
  obtain ⟨hd1, hd2, hd3⟩ := hd
  dsimp only at hd1 hd2 hd3
  subst hd2
  have k1 := k p e s m args below meth c H locs Z ls hc hn hks hr hi hlo hl
  refine lv_lload_n hc.1 hc.2.1 hd1 rfl (hl.at hv) ?_
  exact k1
theorem x_lload {i : Nat} {z : Int} (hd : dok M.2.1 (pc, .lload i, 2, nx, tg)) (hv : nthq L i = some (some (vl z))) (k : RunX l G M R nx L (vl z :: st) S ca sl Q) : RunX l G M R pc L (st) S ca sl Q := by
  intro p e s m args below meth c H locs Z ls hc hn hks hr hi hlo hl
  obtain ⟨hd1, hd2, hd3⟩ := hd
  dsimp only at hd1 hd2 hd3
  subst hd2
  have k1 := k p e s m args below meth c H locs Z ls hc hn hks hr hi hlo hl
  refine lv_lload hc.1 hc.2.1 hd1 (hl.at hv) ?_
  exact k1
theorem x_aload_n {i : Fin 4} {z : Nat} (hd : dok M.2.1 (pc, .aload_n i, 1, nx, tg)) (hv : nthq L (i : Nat) = some (some (vr z))) (k : RunX l G M R nx L (vr z :: st) S ca sl Q) : RunX l G M R pc L (st) S ca sl Q := by
  intro p e s m args below meth c H locs Z ls hc hn hks hr hi hlo hl
  obtain ⟨hd1, hd2, hd3⟩ := hd
  dsimp only at hd1 hd2 hd3
  subst hd2
  have k1 := k p e s m args below meth c H locs Z ls hc hn hks hr hi hlo hl
  refine lv_aload_n hc.1 hc.2.1 hd1 rfl (hl.at hv) ?_
  exact k1
theorem x_aload {i : Nat} {z : Nat} (hd : dok M.2.1 (pc, .aload i, 2, nx, tg)) (hv : nthq L i = some (some (vr z))) (k : RunX l G M R nx L (vr z :: st) S ca sl Q) : RunX l G M R pc L (st) S ca sl Q := by
  intro p e s m args below meth c H locs Z ls hc hn hks hr hi hlo hl
  obtain ⟨hd1, hd2, hd3⟩ := hd
  dsimp only at hd1 hd2 hd3
  subst hd2
  have k1 := k p e s m args below meth c H locs Z ls hc hn hks hr hi hlo hl
  refine lv_aload hc.1 hc.2.1 hd1 (hl.at hv) ?_
  exact k1
theorem x_istore_n {i : Fin 4} {z : Int} (hd : dok M.2.1 (pc, .istore_n i, 1, nx, tg)) (hi9 : Nat.blt ((i : Nat)) M.2.2.1 = true) (k : RunX l G M R nx (sL (i : Nat) L (vi z)) st S ca sl Q) : RunX l G M R pc L (vi z :: st) S ca sl Q := by
  intro p e s m args below meth c H locs Z ls hc hn hks hr hi hlo hl
  obtain ⟨hd1, hd2, hd3⟩ := hd
  dsimp only at hd1 hd2 hd3
  subst hd2
  exact lv_istore_n hc.1 hc.2.1 hd1 rfl hl (by simpa using hi9) rfl (fun ls1 hl1 => k p e s m args below meth c H locs Z ls1 hc hn hks hr hi hlo (lh.set (v := vi z) rfl hl1))
theorem x_istore {i : Nat} {z : Int} (hd : dok M.2.1 (pc, .istore i, 2, nx, tg)) (hi9 : Nat.blt ((i : Nat)) M.2.2.1 = true) (k : RunX l G M R nx (sL (i : Nat) L (vi z)) st S ca sl Q) : RunX l G M R pc L (vi z :: st) S ca sl Q := by
  intro p e s m args below meth c H locs Z ls hc hn hks hr hi hlo hl
  obtain ⟨hd1, hd2, hd3⟩ := hd
  dsimp only at hd1 hd2 hd3
  subst hd2
  exact lv_istore hc.1 hc.2.1 hd1 hl (by simpa using hi9) rfl (fun ls1 hl1 => k p e s m args below meth c H locs Z ls1 hc hn hks hr hi hlo (lh.set (v := vi z) rfl hl1))
theorem x_lstore_n {i : Fin 4} {z : Int} (hd : dok M.2.1 (pc, .lstore_n i, 1, nx, tg)) (hi9 : Nat.blt ((i : Nat) + 1) M.2.2.1 = true) (k : RunX l G M R nx (sLL (i : Nat) L (vl z)) st S ca sl Q) : RunX l G M R pc L (vl z :: st) S ca sl Q := by
  intro p e s m args below meth c H locs Z ls hc hn hks hr hi hlo hl
  obtain ⟨hd1, hd2, hd3⟩ := hd
  dsimp only at hd1 hd2 hd3
  subst hd2
  exact lv_lstore_n hc.1 hc.2.1 hd1 rfl hl (by simpa using hi9) rfl (fun ls1 hl1 => k p e s m args below meth c H locs Z ls1 hc hn hks hr hi hlo (lh.setL (v := vl z) rfl hl1))
theorem x_lstore {i : Nat} {z : Int} (hd : dok M.2.1 (pc, .lstore i, 2, nx, tg)) (hi9 : Nat.blt ((i : Nat) + 1) M.2.2.1 = true) (k : RunX l G M R nx (sLL (i : Nat) L (vl z)) st S ca sl Q) : RunX l G M R pc L (vl z :: st) S ca sl Q := by
  intro p e s m args below meth c H locs Z ls hc hn hks hr hi hlo hl
  obtain ⟨hd1, hd2, hd3⟩ := hd
  dsimp only at hd1 hd2 hd3
  subst hd2
  exact lv_lstore hc.1 hc.2.1 hd1 hl (by simpa using hi9) rfl (fun ls1 hl1 => k p e s m args below meth c H locs Z ls1 hc hn hks hr hi hlo (lh.setL (v := vl z) rfl hl1))
theorem x_astore_n {i : Fin 4} {z : Nat} (hd : dok M.2.1 (pc, .astore_n i, 1, nx, tg)) (hi9 : Nat.blt ((i : Nat)) M.2.2.1 = true) (k : RunX l G M R nx (sL (i : Nat) L (vr z)) st S ca sl Q) : RunX l G M R pc L (vr z :: st) S ca sl Q := by
  intro p e s m args below meth c H locs Z ls hc hn hks hr hi hlo hl
  obtain ⟨hd1, hd2, hd3⟩ := hd
  dsimp only at hd1 hd2 hd3
  subst hd2
  exact lv_astore_n hc.1 hc.2.1 hd1 rfl hl (by simpa using hi9) rfl (fun ls1 hl1 => k p e s m args below meth c H locs Z ls1 hc hn hks hr hi hlo (lh.set (v := vr z) rfl hl1))
theorem x_astore {i : Nat} {z : Nat} (hd : dok M.2.1 (pc, .astore i, 2, nx, tg)) (hi9 : Nat.blt ((i : Nat)) M.2.2.1 = true) (k : RunX l G M R nx (sL (i : Nat) L (vr z)) st S ca sl Q) : RunX l G M R pc L (vr z :: st) S ca sl Q := by
  intro p e s m args below meth c H locs Z ls hc hn hks hr hi hlo hl
  obtain ⟨hd1, hd2, hd3⟩ := hd
  dsimp only at hd1 hd2 hd3
  subst hd2
  exact lv_astore hc.1 hc.2.1 hd1 hl (by simpa using hi9) rfl (fun ls1 hl1 => k p e s m args below meth c H locs Z ls1 hc hn hks hr hi hlo (lh.set (v := vr z) rfl hl1))
theorem x_iinc {i : Nat} {z w : Int} (hd : dok M.2.1 (pc, .iinc i w, 3, nx, tg)) (hv : nthq L i = some (some (vi z))) (hi9 : Nat.blt i M.2.2.1 = true) (k : RunX l G M R nx (sL i L (vi (z + w))) st S ca sl Q) : RunX l G M R pc L st S ca sl Q := by
  intro p e s m args below meth c H locs Z ls hc hn hks hr hi hlo hl
  obtain ⟨hd1, hd2, hd3⟩ := hd
  dsimp only at hd1 hd2 hd3
  subst hd2
  obtain ⟨q, hq⟩ := List.mem_iff_getElem?.mp (prL_in (G := G) (n := 0) hv)
  rw [Nat.zero_add] at hq
  exact lv_iinc hc.1 hc.2.1 hd1 hl hq (v := Int32.ofInt (z + w)) (by rw [Int32.ofInt_add]) (by simpa using hi9) rfl (fun ls1 hl1 => k p e s m args below meth c H locs Z ls1 hc hn hks hr hi hlo (lh.set (v := vi (z + w)) rfl hl1))
theorem x_iadd {x y : Int} (hd : dok M.2.1 (pc, .iadd, 1, nx, tg)) (k : RunX l G M R nx L (vi (x + y) :: st) S ca sl Q) : RunX l G M R pc L (vi y :: vi x :: st) S ca sl Q := by
  intro p e s m args below meth c H locs Z ls hc hn hks hr hi hlo hl
  obtain ⟨hd1, hd2, hd3⟩ := hd
  dsimp only at hd1 hd2 hd3
  subst hd2
  have k1 := k p e s m args below meth c H locs Z ls hc hn hks hr hi hlo hl
  refine lv_iadd hc.1 hc.2.1 hd1 ?_
  rw [← Int32.ofInt_add]
  exact k1
theorem x_isub {x y : Int} (hd : dok M.2.1 (pc, .isub, 1, nx, tg)) (k : RunX l G M R nx L (vi (x - y) :: st) S ca sl Q) : RunX l G M R pc L (vi y :: vi x :: st) S ca sl Q := by
  intro p e s m args below meth c H locs Z ls hc hn hks hr hi hlo hl
  obtain ⟨hd1, hd2, hd3⟩ := hd
  dsimp only at hd1 hd2 hd3
  subst hd2
  have k1 := k p e s m args below meth c H locs Z ls hc hn hks hr hi hlo hl
  refine lv_isub hc.1 hc.2.1 hd1 ?_
  rw [← Int32.ofInt_sub]
  exact k1
theorem x_imul {x y : Int} (hd : dok M.2.1 (pc, .imul, 1, nx, tg)) (k : RunX l G M R nx L (vi (x * y) :: st) S ca sl Q) : RunX l G M R pc L (vi y :: vi x :: st) S ca sl Q := by
  intro p e s m args below meth c H locs Z ls hc hn hks hr hi hlo hl
  obtain ⟨hd1, hd2, hd3⟩ := hd
  dsimp only at hd1 hd2 hd3
  subst hd2
  have k1 := k p e s m args below meth c H locs Z ls hc hn hks hr hi hlo hl
  refine lv_imul hc.1 hc.2.1 hd1 ?_
  rw [← Int32.ofInt_mul]
  exact k1
theorem x_ladd {x y : Int} (hd : dok M.2.1 (pc, .ladd, 1, nx, tg)) (k : RunX l G M R nx L (vl (x + y) :: st) S ca sl Q) : RunX l G M R pc L (vl y :: vl x :: st) S ca sl Q := by
  intro p e s m args below meth c H locs Z ls hc hn hks hr hi hlo hl
  obtain ⟨hd1, hd2, hd3⟩ := hd
  dsimp only at hd1 hd2 hd3
  subst hd2
  have k1 := k p e s m args below meth c H locs Z ls hc hn hks hr hi hlo hl
  refine lv_ladd hc.1 hc.2.1 hd1 ?_
  rw [← Int64.ofInt_add]
  exact k1
theorem x_lmul {x y : Int} (hd : dok M.2.1 (pc, .lmul, 1, nx, tg)) (k : RunX l G M R nx L (vl (x * y) :: st) S ca sl Q) : RunX l G M R pc L (vl y :: vl x :: st) S ca sl Q := by
  intro p e s m args below meth c H locs Z ls hc hn hks hr hi hlo hl
  obtain ⟨hd1, hd2, hd3⟩ := hd
  dsimp only at hd1 hd2 hd3
  subst hd2
  have k1 := k p e s m args below meth c H locs Z ls hc hn hks hr hi hlo hl
  refine lv_lmul hc.1 hc.2.1 hd1 ?_
  rw [← Int64.ofInt_mul]
  exact k1
theorem o32_ne0 {y : Int} (h : 0 < y ∧ y < 2147483648) : ¬ Int32.ofInt y = 0 := by
  rw [o32_0, o32_eq (by omega) (by decide)]
  omega
theorem o64_ne0 {y : Int} (h : 0 < y ∧ y < 9223372036854775808) : ¬ Int64.ofInt y = 0 := by
  rw [show (0 : Int64) = Int64.ofInt 0 from rfl, o64_eq (by omega) (by decide)]
  omega
theorem o32_rem {x y : Int} (hx : 0 ≤ x ∧ x < 2147483648) (hy : 0 < y ∧ y < 2147483648) : Int32.ofInt x - Int32.ofInt x / Int32.ofInt y * Int32.ofInt y = Int32.ofInt (x % y) := by
  rw [o32_div hx hy, ← Int32.ofInt_mul, ← Int32.ofInt_sub, Int.emod_def, Int.mul_comm]
theorem o64_rem {x y : Int} (hx : 0 ≤ x ∧ x < 9223372036854775808) (hy : 0 < y ∧ y < 9223372036854775808) : Int64.ofInt x - Int64.ofInt x / Int64.ofInt y * Int64.ofInt y = Int64.ofInt (x % y) := by
  rw [o64_div hx hy, ← Int64.ofInt_mul, ← Int64.ofInt_sub, Int.emod_def, Int.mul_comm]
theorem x_idiv {x y : Int} (hd : dok M.2.1 (pc, .idiv, 1, nx, tg)) (hx : 0 ≤ x ∧ x < 2147483648) (hy : 0 < y ∧ y < 2147483648) (k : RunX l G M R nx L (vi (x / y) :: st) S ca sl Q) : RunX l G M R pc L (vi y :: vi x :: st) S ca sl Q := by
  intro p e s m args below meth c H locs Z ls hc hn hks hr hi hlo hl
  obtain ⟨hd1, hd2, hd3⟩ := hd
  dsimp only at hd1 hd2 hd3
  subst hd2
  have k1 := k p e s m args below meth c H locs Z ls hc hn hks hr hi hlo hl
  refine lv_idiv hc.1 hc.2.1 hd1 (o32_ne0 hy) ?_
  rw [o32_div hx hy]
  exact k1
theorem x_irem {x y : Int} (hd : dok M.2.1 (pc, .irem, 1, nx, tg)) (hx : 0 ≤ x ∧ x < 2147483648) (hy : 0 < y ∧ y < 2147483648) (k : RunX l G M R nx L (vi (x % y) :: st) S ca sl Q) : RunX l G M R pc L (vi y :: vi x :: st) S ca sl Q := by
  intro p e s m args below meth c H locs Z ls hc hn hks hr hi hlo hl
  obtain ⟨hd1, hd2, hd3⟩ := hd
  dsimp only at hd1 hd2 hd3
  subst hd2
  have k1 := k p e s m args below meth c H locs Z ls hc hn hks hr hi hlo hl
  refine lv_irem hc.1 hc.2.1 hd1 (o32_ne0 hy) ?_
  rw [o32_rem hx hy]
  exact k1
theorem x_ldiv {x y : Int} (hd : dok M.2.1 (pc, .ldiv, 1, nx, tg)) (hx : 0 ≤ x ∧ x < 9223372036854775808) (hy : 0 < y ∧ y < 9223372036854775808) (k : RunX l G M R nx L (vl (x / y) :: st) S ca sl Q) : RunX l G M R pc L (vl y :: vl x :: st) S ca sl Q := by
  intro p e s m args below meth c H locs Z ls hc hn hks hr hi hlo hl
  obtain ⟨hd1, hd2, hd3⟩ := hd
  dsimp only at hd1 hd2 hd3
  subst hd2
  have k1 := k p e s m args below meth c H locs Z ls hc hn hks hr hi hlo hl
  refine lv_ldiv hc.1 hc.2.1 hd1 (o64_ne0 hy) ?_
  rw [o64_div hx hy]
  exact k1
theorem x_lrem {x y : Int} (hd : dok M.2.1 (pc, .lrem, 1, nx, tg)) (hx : 0 ≤ x ∧ x < 9223372036854775808) (hy : 0 < y ∧ y < 9223372036854775808) (k : RunX l G M R nx L (vl (x % y) :: st) S ca sl Q) : RunX l G M R pc L (vl y :: vl x :: st) S ca sl Q := by
  intro p e s m args below meth c H locs Z ls hc hn hks hr hi hlo hl
  obtain ⟨hd1, hd2, hd3⟩ := hd
  dsimp only at hd1 hd2 hd3
  subst hd2
  have k1 := k p e s m args below meth c H locs Z ls hc hn hks hr hi hlo hl
  refine lv_lrem hc.1 hc.2.1 hd1 (o64_ne0 hy) ?_
  rw [o64_rem hx hy]
  exact k1
theorem x_iand {x y : Int} (hd : dok M.2.1 (pc, .iand, 1, nx, tg)) (k : RunX l G M R nx L (vi (bAnd x y) :: st) S ca sl Q) : RunX l G M R pc L (vi y :: vi x :: st) S ca sl Q := by
  intro p e s m args below meth c H locs Z ls hc hn hks hr hi hlo hl
  obtain ⟨hd1, hd2, hd3⟩ := hd
  dsimp only at hd1 hd2 hd3
  subst hd2
  have k1 := k p e s m args below meth c H locs Z ls hc hn hks hr hi hlo hl
  refine lv_iand hc.1 hc.2.1 hd1 ?_
  change W _ _ _ _ _ _ _ _ _ _ _ _ _ _ _ (F0 _ _ _ (.int (Int32.ofInt (bAnd x y)) :: _)) at k1
  rw [bAnd, Int32.ofInt_toInt] at k1
  exact k1
theorem x_ior {x y : Int} (hd : dok M.2.1 (pc, .ior, 1, nx, tg)) (k : RunX l G M R nx L (vi (bOr x y) :: st) S ca sl Q) : RunX l G M R pc L (vi y :: vi x :: st) S ca sl Q := by
  intro p e s m args below meth c H locs Z ls hc hn hks hr hi hlo hl
  obtain ⟨hd1, hd2, hd3⟩ := hd
  dsimp only at hd1 hd2 hd3
  subst hd2
  have k1 := k p e s m args below meth c H locs Z ls hc hn hks hr hi hlo hl
  refine lv_ior hc.1 hc.2.1 hd1 ?_
  change W _ _ _ _ _ _ _ _ _ _ _ _ _ _ _ (F0 _ _ _ (.int (Int32.ofInt (bOr x y)) :: _)) at k1
  rw [bOr, Int32.ofInt_toInt] at k1
  exact k1
theorem x_ixor {x y : Int} (hd : dok M.2.1 (pc, .ixor, 1, nx, tg)) (k : RunX l G M R nx L (vi (bXor x y) :: st) S ca sl Q) : RunX l G M R pc L (vi y :: vi x :: st) S ca sl Q := by
  intro p e s m args below meth c H locs Z ls hc hn hks hr hi hlo hl
  obtain ⟨hd1, hd2, hd3⟩ := hd
  dsimp only at hd1 hd2 hd3
  subst hd2
  have k1 := k p e s m args below meth c H locs Z ls hc hn hks hr hi hlo hl
  refine lv_ixor hc.1 hc.2.1 hd1 ?_
  change W _ _ _ _ _ _ _ _ _ _ _ _ _ _ _ (F0 _ _ _ (.int (Int32.ofInt (bXor x y)) :: _)) at k1
  rw [bXor, Int32.ofInt_toInt] at k1
  exact k1
theorem x_ishl {x y : Int} (hd : dok M.2.1 (pc, .ishl, 1, nx, tg)) (k : RunX l G M R nx L (vi (bShl x y) :: st) S ca sl Q) : RunX l G M R pc L (vi y :: vi x :: st) S ca sl Q := by
  intro p e s m args below meth c H locs Z ls hc hn hks hr hi hlo hl
  obtain ⟨hd1, hd2, hd3⟩ := hd
  dsimp only at hd1 hd2 hd3
  subst hd2
  have k1 := k p e s m args below meth c H locs Z ls hc hn hks hr hi hlo hl
  refine lv_ishl hc.1 hc.2.1 hd1 ?_
  change W _ _ _ _ _ _ _ _ _ _ _ _ _ _ _ (F0 _ _ _ (.int (Int32.ofInt (bShl x y)) :: _)) at k1
  rw [bShl, Int32.ofInt_toInt] at k1
  exact k1
theorem x_ishr {x y : Int} (hd : dok M.2.1 (pc, .ishr, 1, nx, tg)) (k : RunX l G M R nx L (vi (bShr x y) :: st) S ca sl Q) : RunX l G M R pc L (vi y :: vi x :: st) S ca sl Q := by
  intro p e s m args below meth c H locs Z ls hc hn hks hr hi hlo hl
  obtain ⟨hd1, hd2, hd3⟩ := hd
  dsimp only at hd1 hd2 hd3
  subst hd2
  have k1 := k p e s m args below meth c H locs Z ls hc hn hks hr hi hlo hl
  refine lv_ishr hc.1 hc.2.1 hd1 ?_
  change W _ _ _ _ _ _ _ _ _ _ _ _ _ _ _ (F0 _ _ _ (.int (Int32.ofInt (bShr x y)) :: _)) at k1
  rw [bShr, Int32.ofInt_toInt] at k1
  exact k1
theorem x_land {x y : Int} (hd : dok M.2.1 (pc, .land, 1, nx, tg)) (k : RunX l G M R nx L (vl (lAnd x y) :: st) S ca sl Q) : RunX l G M R pc L (vl y :: vl x :: st) S ca sl Q := by
  intro p e s m args below meth c H locs Z ls hc hn hks hr hi hlo hl
  obtain ⟨hd1, hd2, hd3⟩ := hd
  dsimp only at hd1 hd2 hd3
  subst hd2
  have k1 := k p e s m args below meth c H locs Z ls hc hn hks hr hi hlo hl
  refine lv_land hc.1 hc.2.1 hd1 ?_
  change W _ _ _ _ _ _ _ _ _ _ _ _ _ _ _ (F0 _ _ _ (.long (Int64.ofInt (lAnd x y)) :: _)) at k1
  rw [lAnd, Int64.ofInt_toInt] at k1
  exact k1
theorem x_lor {x y : Int} (hd : dok M.2.1 (pc, .lor, 1, nx, tg)) (k : RunX l G M R nx L (vl (lOr x y) :: st) S ca sl Q) : RunX l G M R pc L (vl y :: vl x :: st) S ca sl Q := by
  intro p e s m args below meth c H locs Z ls hc hn hks hr hi hlo hl
  obtain ⟨hd1, hd2, hd3⟩ := hd
  dsimp only at hd1 hd2 hd3
  subst hd2
  have k1 := k p e s m args below meth c H locs Z ls hc hn hks hr hi hlo hl
  refine lv_lor hc.1 hc.2.1 hd1 ?_
  change W _ _ _ _ _ _ _ _ _ _ _ _ _ _ _ (F0 _ _ _ (.long (Int64.ofInt (lOr x y)) :: _)) at k1
  rw [lOr, Int64.ofInt_toInt] at k1
  exact k1
theorem x_iushr {x y : Int} (hd : dok M.2.1 (pc, .iushr, 1, nx, tg)) (k : RunX l G M R nx L (vi (bUsh x y) :: st) S ca sl Q) : RunX l G M R pc L (vi y :: vi x :: st) S ca sl Q := by
  intro p e s m args below meth c H locs Z ls hc hn hks hr hi hlo hl
  obtain ⟨hd1, hd2, hd3⟩ := hd
  dsimp only at hd1 hd2 hd3
  subst hd2
  have k1 := k p e s m args below meth c H locs Z ls hc hn hks hr hi hlo hl
  refine lv_iushr hc.1 hc.2.1 hd1 (v := Int32.ofInt (bUsh x y)) (by rw [bUsh, Int32.ofInt_toInt]) ?_
  exact k1
theorem x_lshl {x y : Int} (hd : dok M.2.1 (pc, .lshl, 1, nx, tg)) (k : RunX l G M R nx L (vl (lShl x y) :: st) S ca sl Q) : RunX l G M R pc L (vi y :: vl x :: st) S ca sl Q := by
  intro p e s m args below meth c H locs Z ls hc hn hks hr hi hlo hl
  obtain ⟨hd1, hd2, hd3⟩ := hd
  dsimp only at hd1 hd2 hd3
  subst hd2
  have k1 := k p e s m args below meth c H locs Z ls hc hn hks hr hi hlo hl
  refine lv_lshl hc.1 hc.2.1 hd1 (v := Int64.ofInt (lShl x y)) (by rw [lShl, Int64.ofInt_toInt]) ?_
  exact k1
theorem x_lshr {x y : Int} (hd : dok M.2.1 (pc, .lshr, 1, nx, tg)) (k : RunX l G M R nx L (vl (lShr x y) :: st) S ca sl Q) : RunX l G M R pc L (vi y :: vl x :: st) S ca sl Q := by
  intro p e s m args below meth c H locs Z ls hc hn hks hr hi hlo hl
  obtain ⟨hd1, hd2, hd3⟩ := hd
  dsimp only at hd1 hd2 hd3
  subst hd2
  have k1 := k p e s m args below meth c H locs Z ls hc hn hks hr hi hlo hl
  refine lv_lshr hc.1 hc.2.1 hd1 (v := Int64.ofInt (lShr x y)) (by rw [lShr, Int64.ofInt_toInt]) ?_
  exact k1
theorem x_lushr {x y : Int} (hd : dok M.2.1 (pc, .lushr, 1, nx, tg)) (k : RunX l G M R nx L (vl (lUsh x y) :: st) S ca sl Q) : RunX l G M R pc L (vi y :: vl x :: st) S ca sl Q := by
  intro p e s m args below meth c H locs Z ls hc hn hks hr hi hlo hl
  obtain ⟨hd1, hd2, hd3⟩ := hd
  dsimp only at hd1 hd2 hd3
  subst hd2
  have k1 := k p e s m args below meth c H locs Z ls hc hn hks hr hi hlo hl
  refine lv_lushr hc.1 hc.2.1 hd1 (v := Int64.ofInt (lUsh x y)) (by rw [lUsh, Int64.ofInt_toInt]) ?_
  exact k1
theorem o_i2l {x : Int} (hx : rgi x) : (Int32.ofInt x).toInt64 = Int64.ofInt x := by
  rw [← Int64.toInt_inj, Int32.toInt_toInt64, o32 hx, o64 (by omega)]
theorem o_l2i (x : Int) : (Int64.ofInt x).toInt32 = Int32.ofInt (l2iq x) := by rw [l2iq, Int32.ofInt_toInt]
theorem o_cmp {x y : Int} (hx : rgl x) (hy : rgl y) : lg_cmp (Int64.ofInt x) (Int64.ofInt y) = Int32.ofInt (lCmp x y) := by
  unfold lg_cmp lCmp
  have h1 : Int64.ofInt x > Int64.ofInt y ↔ y < x := o64_lt hy hx
  by_cases a : y < x
  · rw [if_pos a, if_pos (h1.mpr a)]; rfl
  · rw [if_neg a, if_neg (fun q => a (h1.mp q))]
    by_cases b : x = y
    · rw [if_pos b, if_pos (by rw [b])]; rfl
    · rw [if_neg b, if_neg (fun q => b ((o64_eq hx hy).mp q))]; rfl
theorem x_i2l {x : Int} (hd : dok M.2.1 (pc, .i2l, 1, nx, tg)) (hx : rgi x) (k : RunX l G M R nx L (vl x :: st) S ca sl Q) : RunX l G M R pc L (vi x :: st) S ca sl Q := by
  intro p e s m args below meth c H locs Z ls hc hn hks hr hi hlo hl
  obtain ⟨hd1, hd2, hd3⟩ := hd
  dsimp only at hd1 hd2 hd3
  subst hd2
  have k1 := k p e s m args below meth c H locs Z ls hc hn hks hr hi hlo hl
  refine lv_i2l hc.1 hc.2.1 hd1 (o_i2l hx) ?_
  exact k1
theorem x_l2i {x : Int} (hd : dok M.2.1 (pc, .l2i, 1, nx, tg)) (k : RunX l G M R nx L (vi (l2iq x) :: st) S ca sl Q) : RunX l G M R pc L (vl x :: st) S ca sl Q := by
  intro p e s m args below meth c H locs Z ls hc hn hks hr hi hlo hl
  obtain ⟨hd1, hd2, hd3⟩ := hd
  dsimp only at hd1 hd2 hd3
  subst hd2
  have k1 := k p e s m args below meth c H locs Z ls hc hn hks hr hi hlo hl
  refine lv_l2i hc.1 hc.2.1 hd1 (o_l2i x) ?_
  exact k1
theorem x_lcmp {x y : Int} (hd : dok M.2.1 (pc, .lcmp, 1, nx, tg)) (hx : rgl x) (hy : rgl y) (k : RunX l G M R nx L (vi (lCmp x y) :: st) S ca sl Q) : RunX l G M R pc L (vl y :: vl x :: st) S ca sl Q := by
  intro p e s m args below meth c H locs Z ls hc hn hks hr hi hlo hl
  obtain ⟨hd1, hd2, hd3⟩ := hd
  dsimp only at hd1 hd2 hd3
  subst hd2
  have k1 := k p e s m args below meth c H locs Z ls hc hn hks hr hi hlo hl
  refine W.lcmp hc.1 hc.2.1 hd1 ?_
  rw [o_cmp hx hy]
  exact k1
theorem cvl_i {G : GC} {z : Int} : (cvl G (vi z)).category = 1 := rfl
theorem cvl_r {G : GC} {k : Nat} : (cvl G (vr k)).category = 1 := rfl
theorem x_dupi {x : Int} (hd : dok M.2.1 (pc, .dup, 1, nx, tg)) (k : RunX l G M R nx L (vi x :: vi x :: st) S ca sl Q) : RunX l G M R pc L (vi x :: st) S ca sl Q := by
  intro p e s m args below meth c H locs Z ls hc hn hks hr hi hlo hl
  obtain ⟨hd1, hd2, hd3⟩ := hd
  dsimp only at hd1 hd2 hd3
  subst hd2
  have k1 := k p e s m args below meth c H locs Z ls hc hn hks hr hi hlo hl
  refine lv_dup hc.1 hc.2.1 hd1 cvl_i ?_
  exact k1
theorem x_dupr {x : Nat} (hd : dok M.2.1 (pc, .dup, 1, nx, tg)) (k : RunX l G M R nx L (vr x :: vr x :: st) S ca sl Q) : RunX l G M R pc L (vr x :: st) S ca sl Q := by
  intro p e s m args below meth c H locs Z ls hc hn hks hr hi hlo hl
  obtain ⟨hd1, hd2, hd3⟩ := hd
  dsimp only at hd1 hd2 hd3
  subst hd2
  have k1 := k p e s m args below meth c H locs Z ls hc hn hks hr hi hlo hl
  refine lv_dup hc.1 hc.2.1 hd1 cvl_r ?_
  exact k1
theorem x_dup2 {x : Int} {y : Nat} (hd : dok M.2.1 (pc, .dup2, 1, nx, tg)) (k : RunX l G M R nx L (vi x :: vr y :: vi x :: vr y :: st) S ca sl Q) : RunX l G M R pc L (vi x :: vr y :: st) S ca sl Q := by
  intro p e s m args below meth c H locs Z ls hc hn hks hr hi hlo hl
  obtain ⟨hd1, hd2, hd3⟩ := hd
  dsimp only at hd1 hd2 hd3
  subst hd2
  have k1 := k p e s m args below meth c H locs Z ls hc hn hks hr hi hlo hl
  refine lv_dup2_11 hc.1 hc.2.1 hd1 cvl_i cvl_r ?_
  exact k1
theorem x_pop {x : Int} (hd : dok M.2.1 (pc, .pop, 1, nx, tg)) (k : RunX l G M R nx L (st) S ca sl Q) : RunX l G M R pc L (vi x :: st) S ca sl Q := by
  intro p e s m args below meth c H locs Z ls hc hn hks hr hi hlo hl
  obtain ⟨hd1, hd2, hd3⟩ := hd
  dsimp only at hd1 hd2 hd3
  subst hd2
  have k1 := k p e s m args below meth c H locs Z ls hc hn hks hr hi hlo hl
  refine lv_pop hc.1 hc.2.1 hd1 cvl_i ?_
  exact k1
theorem x_goto {off : Int} (hd : dok M.2.1 (pc, .goto off, 3, nx, tg)) (k : RunX l G M R tg L st S ca sl Q) : RunX l G M R pc L st S ca sl Q := by
  intro p e s m args below meth c H locs Z ls hc hn hks hr hi hlo hl
  exact lv_goto hc.1 hc.2.1 hd.1 (hd.2.2 off rfl) (k p e s m args below meth c H locs Z ls hc hn hks hr hi hlo hl)
theorem x_icmp_eq {x y off : Int} (hd : dok M.2.1 (pc, .if_icmp .eq off, 3, nx, tg)) (hx : rgi x) (hy : rgi y) (kt : x = y → RunX l G M R tg L st S ca sl Q) (kf : ¬ (x = y) → RunX l G M R nx L st S ca sl Q) : RunX l G M R pc L (vi y :: vi x :: st) S ca sl Q := by
  intro p e s m args below meth c H locs Z ls hc hn hks hr hi hlo hl
  obtain ⟨hd1, hd2, hd3⟩ := hd
  dsimp only at hd1 hd2 hd3
  subst hd2
  have iff := o32_eq hx hy
  exact lv_icmp_eq hc.1 hc.2.1 hd1 (hd3 off rfl) (fun q => kt (iff.mp q) p e s m args below meth c H locs Z ls hc hn hks hr hi hlo hl) (fun q => kf (fun q2 => q (iff.mpr q2)) p e s m args below meth c H locs Z ls hc hn hks hr hi hlo hl)
theorem x_if_eq {x off : Int} (hd : dok M.2.1 (pc, .ifCond .eq off, 3, nx, tg)) (hx : rgi x) (kt : x = 0 → RunX l G M R tg L st S ca sl Q) (kf : ¬ (x = 0) → RunX l G M R nx L st S ca sl Q) : RunX l G M R pc L (vi x :: st) S ca sl Q := by
  intro p e s m args below meth c H locs Z ls hc hn hks hr hi hlo hl
  obtain ⟨hd1, hd2, hd3⟩ := hd
  dsimp only at hd1 hd2 hd3
  subst hd2
  have hy : rgi 0 := by decide
  have iff := o32_eq hx hy
  exact lv_if_eq hc.1 hc.2.1 hd1 (hd3 off rfl) (fun q => kt (iff.mp q) p e s m args below meth c H locs Z ls hc hn hks hr hi hlo hl) (fun q => kf (fun q2 => q (iff.mpr q2)) p e s m args below meth c H locs Z ls hc hn hks hr hi hlo hl)
theorem x_icmp_ne {x y off : Int} (hd : dok M.2.1 (pc, .if_icmp .ne off, 3, nx, tg)) (hx : rgi x) (hy : rgi y) (kt : x ≠ y → RunX l G M R tg L st S ca sl Q) (kf : x = y → RunX l G M R nx L st S ca sl Q) : RunX l G M R pc L (vi y :: vi x :: st) S ca sl Q := by
  intro p e s m args below meth c H locs Z ls hc hn hks hr hi hlo hl
  obtain ⟨hd1, hd2, hd3⟩ := hd
  dsimp only at hd1 hd2 hd3
  subst hd2
  have iff := not_congr (o32_eq hx hy)
  exact lv_icmp_ne hc.1 hc.2.1 hd1 (hd3 off rfl) (fun q => kt (iff.mp q) p e s m args below meth c H locs Z ls hc hn hks hr hi hlo hl) (fun q => kf ((o32_eq hx hy).mp q) p e s m args below meth c H locs Z ls hc hn hks hr hi hlo hl)
theorem x_if_ne {x off : Int} (hd : dok M.2.1 (pc, .ifCond .ne off, 3, nx, tg)) (hx : rgi x) (kt : x ≠ 0 → RunX l G M R tg L st S ca sl Q) (kf : x = 0 → RunX l G M R nx L st S ca sl Q) : RunX l G M R pc L (vi x :: st) S ca sl Q := by
  intro p e s m args below meth c H locs Z ls hc hn hks hr hi hlo hl
  obtain ⟨hd1, hd2, hd3⟩ := hd
  dsimp only at hd1 hd2 hd3
  subst hd2
  have hy : rgi 0 := by decide
  have iff := not_congr (o32_eq hx hy)
  exact lv_if_ne hc.1 hc.2.1 hd1 (hd3 off rfl) (fun q => kt (iff.mp q) p e s m args below meth c H locs Z ls hc hn hks hr hi hlo hl) (fun q => kf ((o32_eq hx hy).mp q) p e s m args below meth c H locs Z ls hc hn hks hr hi hlo hl)
theorem x_icmp_lt {x y off : Int} (hd : dok M.2.1 (pc, .if_icmp .lt off, 3, nx, tg)) (hx : rgi x) (hy : rgi y) (kt : x < y → RunX l G M R tg L st S ca sl Q) (kf : ¬ (x < y) → RunX l G M R nx L st S ca sl Q) : RunX l G M R pc L (vi y :: vi x :: st) S ca sl Q := by
  intro p e s m args below meth c H locs Z ls hc hn hks hr hi hlo hl
  obtain ⟨hd1, hd2, hd3⟩ := hd
  dsimp only at hd1 hd2 hd3
  subst hd2
  have iff := o32_lt hx hy
  exact lv_icmp_lt hc.1 hc.2.1 hd1 (hd3 off rfl) (fun q => kt (iff.mp q) p e s m args below meth c H locs Z ls hc hn hks hr hi hlo hl) (fun q => kf (fun q2 => q (iff.mpr q2)) p e s m args below meth c H locs Z ls hc hn hks hr hi hlo hl)
theorem x_if_lt {x off : Int} (hd : dok M.2.1 (pc, .ifCond .lt off, 3, nx, tg)) (hx : rgi x) (kt : x < 0 → RunX l G M R tg L st S ca sl Q) (kf : ¬ (x < 0) → RunX l G M R nx L st S ca sl Q) : RunX l G M R pc L (vi x :: st) S ca sl Q := by
  intro p e s m args below meth c H locs Z ls hc hn hks hr hi hlo hl
  obtain ⟨hd1, hd2, hd3⟩ := hd
  dsimp only at hd1 hd2 hd3
  subst hd2
  have hy : rgi 0 := by decide
  have iff := o32_lt hx hy
  exact lv_if_lt hc.1 hc.2.1 hd1 (hd3 off rfl) (fun q => kt (iff.mp q) p e s m args below meth c H locs Z ls hc hn hks hr hi hlo hl) (fun q => kf (fun q2 => q (iff.mpr q2)) p e s m args below meth c H locs Z ls hc hn hks hr hi hlo hl)
theorem x_icmp_ge {x y off : Int} (hd : dok M.2.1 (pc, .if_icmp .ge off, 3, nx, tg)) (hx : rgi x) (hy : rgi y) (kt : y ≤ x → RunX l G M R tg L st S ca sl Q) (kf : ¬ (y ≤ x) → RunX l G M R nx L st S ca sl Q) : RunX l G M R pc L (vi y :: vi x :: st) S ca sl Q := by
  intro p e s m args below meth c H locs Z ls hc hn hks hr hi hlo hl
  obtain ⟨hd1, hd2, hd3⟩ := hd
  dsimp only at hd1 hd2 hd3
  subst hd2
  have iff := o32_le hy hx
  exact lv_icmp_ge hc.1 hc.2.1 hd1 (hd3 off rfl) (fun q => kt (iff.mp q) p e s m args below meth c H locs Z ls hc hn hks hr hi hlo hl) (fun q => kf (fun q2 => q (iff.mpr q2)) p e s m args below meth c H locs Z ls hc hn hks hr hi hlo hl)
theorem x_if_ge {x off : Int} (hd : dok M.2.1 (pc, .ifCond .ge off, 3, nx, tg)) (hx : rgi x) (kt : 0 ≤ x → RunX l G M R tg L st S ca sl Q) (kf : ¬ (0 ≤ x) → RunX l G M R nx L st S ca sl Q) : RunX l G M R pc L (vi x :: st) S ca sl Q := by
  intro p e s m args below meth c H locs Z ls hc hn hks hr hi hlo hl
  obtain ⟨hd1, hd2, hd3⟩ := hd
  dsimp only at hd1 hd2 hd3
  subst hd2
  have hy : rgi 0 := by decide
  have iff := o32_le hy hx
  exact lv_if_ge hc.1 hc.2.1 hd1 (hd3 off rfl) (fun q => kt (iff.mp q) p e s m args below meth c H locs Z ls hc hn hks hr hi hlo hl) (fun q => kf (fun q2 => q (iff.mpr q2)) p e s m args below meth c H locs Z ls hc hn hks hr hi hlo hl)
theorem x_icmp_gt {x y off : Int} (hd : dok M.2.1 (pc, .if_icmp .gt off, 3, nx, tg)) (hx : rgi x) (hy : rgi y) (kt : y < x → RunX l G M R tg L st S ca sl Q) (kf : ¬ (y < x) → RunX l G M R nx L st S ca sl Q) : RunX l G M R pc L (vi y :: vi x :: st) S ca sl Q := by
  intro p e s m args below meth c H locs Z ls hc hn hks hr hi hlo hl
  obtain ⟨hd1, hd2, hd3⟩ := hd
  dsimp only at hd1 hd2 hd3
  subst hd2
  have iff := o32_lt hy hx
  exact lv_icmp_gt hc.1 hc.2.1 hd1 (hd3 off rfl) (fun q => kt (iff.mp q) p e s m args below meth c H locs Z ls hc hn hks hr hi hlo hl) (fun q => kf (fun q2 => q (iff.mpr q2)) p e s m args below meth c H locs Z ls hc hn hks hr hi hlo hl)
theorem x_if_gt {x off : Int} (hd : dok M.2.1 (pc, .ifCond .gt off, 3, nx, tg)) (hx : rgi x) (kt : 0 < x → RunX l G M R tg L st S ca sl Q) (kf : ¬ (0 < x) → RunX l G M R nx L st S ca sl Q) : RunX l G M R pc L (vi x :: st) S ca sl Q := by
  intro p e s m args below meth c H locs Z ls hc hn hks hr hi hlo hl
  obtain ⟨hd1, hd2, hd3⟩ := hd
  dsimp only at hd1 hd2 hd3
  subst hd2
  have hy : rgi 0 := by decide
  have iff := o32_lt hy hx
  exact lv_if_gt hc.1 hc.2.1 hd1 (hd3 off rfl) (fun q => kt (iff.mp q) p e s m args below meth c H locs Z ls hc hn hks hr hi hlo hl) (fun q => kf (fun q2 => q (iff.mpr q2)) p e s m args below meth c H locs Z ls hc hn hks hr hi hlo hl)
theorem x_icmp_le {x y off : Int} (hd : dok M.2.1 (pc, .if_icmp .le off, 3, nx, tg)) (hx : rgi x) (hy : rgi y) (kt : x ≤ y → RunX l G M R tg L st S ca sl Q) (kf : ¬ (x ≤ y) → RunX l G M R nx L st S ca sl Q) : RunX l G M R pc L (vi y :: vi x :: st) S ca sl Q := by
  intro p e s m args below meth c H locs Z ls hc hn hks hr hi hlo hl
  obtain ⟨hd1, hd2, hd3⟩ := hd
  dsimp only at hd1 hd2 hd3
  subst hd2
  have iff := o32_le hx hy
  exact lv_icmp_le hc.1 hc.2.1 hd1 (hd3 off rfl) (fun q => kt (iff.mp q) p e s m args below meth c H locs Z ls hc hn hks hr hi hlo hl) (fun q => kf (fun q2 => q (iff.mpr q2)) p e s m args below meth c H locs Z ls hc hn hks hr hi hlo hl)
theorem x_if_le {x off : Int} (hd : dok M.2.1 (pc, .ifCond .le off, 3, nx, tg)) (hx : rgi x) (kt : x ≤ 0 → RunX l G M R tg L st S ca sl Q) (kf : ¬ (x ≤ 0) → RunX l G M R nx L st S ca sl Q) : RunX l G M R pc L (vi x :: st) S ca sl Q := by
  intro p e s m args below meth c H locs Z ls hc hn hks hr hi hlo hl
  obtain ⟨hd1, hd2, hd3⟩ := hd
  dsimp only at hd1 hd2 hd3
  subst hd2
  have hy : rgi 0 := by decide
  have iff := o32_le hx hy
  exact lv_if_le hc.1 hc.2.1 hd1 (hd3 off rfl) (fun q => kt (iff.mp q) p e s m args below meth c H locs Z ls hc hn hks hr hi hlo hl) (fun q => kf (fun q2 => q (iff.mpr q2)) p e s m args below meth c H locs Z ls hc hn hks hr hi hlo hl)
/-- the table of a switch: the offset for x -/
def swq (dflt lo hi : Int) (offs : Array Int) (x : Int) : Int := if x < lo ∨ hi < x then dflt else (offs[(x - lo).toNat]?).getD dflt
theorem x_tsw {dflt lo hi x : Int} {offs : Array Int} {len : Nat} (hd : dok M.2.1 (pc, .tableswitch dflt lo hi offs, len, nx, tg)) (hx : rgi x) (hsz : hi - lo < offs.size) {t : Nat} (ht : (pc : Int) + swq dflt lo hi offs x = (t : Int)) (k : RunX l G M R t L st S ca sl Q) : RunX l G M R pc L (vi x :: st) S ca sl Q := by
  intro p e s m args below meth c H locs Z ls hc hn hks hr hi9 hlo hl
  have k1 := k p e s m args below meth c H locs Z ls hc hn hks hr hi9 hlo hl
  unfold swq at ht
  by_cases h : x < lo ∨ hi < x
  · rw [if_pos h] at ht
    exact lv_tableOut hc.1 hc.2.1 hd.1 (by rw [o32 hx]; exact h) ht k1
  · rw [if_neg h] at ht
    have hlt : (x - lo).toNat < offs.size := by omega
    have he : offs[(x - lo).toNat]? = some (offs[(x - lo).toNat]'hlt) := Array.getElem?_eq_getElem hlt
    rw [he] at ht
    exact lv_tableIn hc.1 hc.2.1 hd.1 (by rw [o32 hx]; omega) (by rw [o32 hx]; omega) (by rw [o32 hx]; exact he) ht k1
theorem x_iald {n0 n k : Nat} {ρ : Nat → Int → Option Nat} {σ : Nat → Int → Int} {i : Int} (hd : dok M.2.1 (pc, .iaload, 1, nx, tg)) (hs : shp k = (12, n)) (hk : k < n0) (hix : 0 ≤ i ∧ i < n) (kk : RunX l G M R nx L (vi (σ k i) :: st) (n0, ρ, σ) ca sl Q) : RunX l G M R pc L (vi i :: vr k :: st) (n0, ρ, σ) ca sl Q := by
  intro p e s m args below meth c H locs Z ls hc hn hks hr hi hlo hl
  obtain ⟨hd1, hd2, hd3⟩ := hd
  dsimp only at hd1 hd2 hd3
  subst hd2
  have k1 := kk p e s m args below meth c H locs Z ls hc hn hks hr hi hlo hl
  have hcl := hi.2.2 k hk
  have hle := shp_le k (Nat.lt_of_lt_of_le hk hi.1.2)
  unfold cellq at hcl
  rw [hs] at hcl hle
  obtain ⟨cA, h1, h2⟩ := hcl
  have hle : n ≤ 256 := hle
  have hnn := o32_in hix (by omega)
  have hcn := o32_ix (i := i) hix.1 (by omega)
  have hin : ((i.toNat : Nat) : Int) = i := Int.toNat_of_nonneg hix.1
  refine W.iald (v := Value.int (Int32.ofInt (σ k i))) hc.1 hc.2.1 h1 (h2 _ _) (fun q => by cases q) (by rw [arrV_size]; exact hnn) (by rw [hcn, arrV_read _ _ (by omega)]; show some _ = _; rw [hin]) rfl rfl hd1 k1
theorem x_zald {n0 n k : Nat} {ρ : Nat → Int → Option Nat} {σ : Nat → Int → Int} {i : Int} (hd : dok M.2.1 (pc, .baload, 1, nx, tg)) (hs : shp k = (13, n)) (hk : k < n0) (hix : 0 ≤ i ∧ i < n) (kk : RunX l G M R nx L (vi (σ k i) :: st) (n0, ρ, σ) ca sl Q) : RunX l G M R pc L (vi i :: vr k :: st) (n0, ρ, σ) ca sl Q := by
  intro p e s m args below meth c H locs Z ls hc hn hks hr hi hlo hl
  obtain ⟨hd1, hd2, hd3⟩ := hd
  dsimp only at hd1 hd2 hd3
  subst hd2
  have k1 := kk p e s m args below meth c H locs Z ls hc hn hks hr hi hlo hl
  have hcl := hi.2.2 k hk
  have hle := shp_le k (Nat.lt_of_lt_of_le hk hi.1.2)
  unfold cellq at hcl
  rw [hs] at hcl hle
  obtain ⟨cA, h1, h2⟩ := hcl
  have hle : n ≤ 256 := hle
  have hnn := o32_in hix (by omega)
  have hcn := o32_ix (i := i) hix.1 (by omega)
  have hin : ((i.toNat : Nat) : Int) = i := Int.toNat_of_nonneg hix.1
  refine W.zald (v := Value.int (Int32.ofInt (σ k i))) hc.1 hc.2.1 h1 (h2 _ _) (fun q => by cases q) (by rw [arrV_size]; exact hnn) (by rw [hcn, arrV_read _ _ (by omega)]; show some _ = _; rw [hin]) rfl rfl hd1 k1
theorem x_lald {n0 n k : Nat} {ρ : Nat → Int → Option Nat} {σ : Nat → Int → Int} {i : Int} (hd : dok M.2.1 (pc, .laload, 1, nx, tg)) (hs : shp k = (14, n)) (hk : k < n0) (hix : 0 ≤ i ∧ i < n) (kk : RunX l G M R nx L (vl (σ k i) :: st) (n0, ρ, σ) ca sl Q) : RunX l G M R pc L (vi i :: vr k :: st) (n0, ρ, σ) ca sl Q := by
  intro p e s m args below meth c H locs Z ls hc hn hks hr hi hlo hl
  obtain ⟨hd1, hd2, hd3⟩ := hd
  dsimp only at hd1 hd2 hd3
  subst hd2
  have k1 := kk p e s m args below meth c H locs Z ls hc hn hks hr hi hlo hl
  have hcl := hi.2.2 k hk
  have hle := shp_le k (Nat.lt_of_lt_of_le hk hi.1.2)
  unfold cellq at hcl
  rw [hs] at hcl hle
  obtain ⟨cA, h1, h2⟩ := hcl
  have hle : n ≤ 256 := hle
  have hnn := o32_in hix (by omega)
  have hcn := o32_ix (i := i) hix.1 (by omega)
  have hin : ((i.toNat : Nat) : Int) = i := Int.toNat_of_nonneg hix.1
  refine W.lald (v := Value.long (Int64.ofInt (σ k i))) hc.1 hc.2.1 h1 (h2 _ _) (fun q => by cases q) (by rw [arrV_size]; exact hnn) (by rw [hcn, arrV_read _ _ (by omega)]; show some _ = _; rw [hin]) rfl rfl hd1 k1
theorem x_aald {n0 n k r : Nat} {ρ : Nat → Int → Option Nat} {σ : Nat → Int → Int} {i : Int} (hd : dok M.2.1 (pc, .aaload, 1, nx, tg)) (hs : shp k = (15, n)) (hk : k < n0) (hix : 0 ≤ i ∧ i < n) (hρ : ρ k i = some r) (kk : RunX l G M R nx L (vr r :: st) (n0, ρ, σ) ca sl Q) : RunX l G M R pc L (vi i :: vr k :: st) (n0, ρ, σ) ca sl Q := by
  intro p e s m args below meth c H locs Z ls hc hn hks hr hi hlo hl
  obtain ⟨hd1, hd2, hd3⟩ := hd
  dsimp only at hd1 hd2 hd3
  subst hd2
  have k1 := kk p e s m args below meth c H locs Z ls hc hn hks hr hi hlo hl
  have hcl := hi.2.2 k hk
  have hle := shp_le k (Nat.lt_of_lt_of_le hk hi.1.2)
  unfold cellq at hcl
  rw [hs] at hcl hle
  obtain ⟨cA, h1, h2⟩ := hcl
  have hle : n ≤ 256 := hle
  have hnn := o32_in hix (by omega)
  have hcn := o32_ix (i := i) hix.1 (by omega)
  have hin : ((i.toNat : Nat) : Int) = i := Int.toNat_of_nonneg hix.1
  refine W.aald (v := crf G (some r)) hc.1 hc.2.1 h1 (h2 _ _) rfl (fun q => by cases q) (by rw [arrV_size]; exact hnn) (by rw [hcn, arrV_read _ _ (by omega)]; show some (crf G (ρ k _)) = _; rw [hin, hρ]) rfl rfl hd1 k1
theorem x_iast {n0 n k : Nat} {ρ : Nat → Int → Option Nat} {σ : Nat → Int → Int} {i v : Int} (hd : dok M.2.1 (pc, .iastore, 1, nx, tg)) (hs : shp k = (12, n)) (hk : k < n0) (hix : 0 ≤ i ∧ i < n) (kk : RunX l G M R nx L st (n0, ρ, upq σ k i v) ca sl Q) : RunX l G M R pc L (vi v :: vi i :: vr k :: st) (n0, ρ, σ) ca sl Q := by
  intro p e s m args below meth c H locs Z ls hc hn hks hr hi hlo hl
  obtain ⟨hd1, hd2, hd3⟩ := hd
  dsimp only at hd1 hd2 hd3
  subst hd2
  have hcl := hi.2.2 k hk
  have hle := shp_le k (Nat.lt_of_lt_of_le hk hi.1.2)
  unfold cellq at hcl
  rw [hs] at hcl hle
  obtain ⟨cA, h1, h2⟩ := hcl
  have hle : n ≤ 256 := hle
  have hnn := o32_in hix (by omega)
  have hcn := o32_ix (i := i) hix.1 (by omega)
  have hin : ((i.toNat : Nat) : Int) = i := Int.toNat_of_nonneg hix.1
  refine W.iast hc.1 hc.2.1 h1 (h2 _ _) (fun q => by cases q) (by rw [arrV_size]; exact hnn) rfl rfl hd1 (fun H1 e1 e2 e3 => ?_)
  have hI : Invq G (n0, ρ, upq σ k i v) s H1 := by
    refine hi.put hk e2 e3 ?_ (fun _ _ => rfl) (fun a ha => upq_ne ha)
    unfold cellq
    rw [hs]
    refine ⟨cA, ?_, h2⟩
    rw [e1, hcn, arrV_store]
    refine congrArg some (congrArg (arrV cA n) (funext fun j => ?_))
    show updV _ _ _ j = Value.int (Int32.ofInt (upq σ k i v k j))
    rw [upq_eq]
    by_cases q : j = i.toNat
    · subst q
      rw [if_pos hin]
      simp [updV]
    · rw [if_neg (by omega)]
      simp [updV, q]
  refine kk p e s m args below meth c H1 _ Z ls hc hn hks hr hI (fun q hq => ?_) hl
  rcases List.mem_append.mp hq with q1 | q1
  · exact hlo q q1
  · rw [List.mem_singleton] at q1
    subst q1
    show G.1 ≤ adr G k
    rw [adr_lt (Nat.lt_of_lt_of_le hk (Nat.le_trans hi.1.2 (by decide)))]
    omega
theorem x_zast {n0 n k : Nat} {ρ : Nat → Int → Option Nat} {σ : Nat → Int → Int} {i v : Int} (hd : dok M.2.1 (pc, .bastore, 1, nx, tg)) (hs : shp k = (13, n)) (hk : k < n0) (hix : 0 ≤ i ∧ i < n) (hz : v = 0 ∨ v = 1) (kk : RunX l G M R nx L st (n0, ρ, upq σ k i v) ca sl Q) : RunX l G M R pc L (vi v :: vi i :: vr k :: st) (n0, ρ, σ) ca sl Q := by
  intro p e s m args below meth c H locs Z ls hc hn hks hr hi hlo hl
  obtain ⟨hd1, hd2, hd3⟩ := hd
  dsimp only at hd1 hd2 hd3
  subst hd2
  have hcl := hi.2.2 k hk
  have hle := shp_le k (Nat.lt_of_lt_of_le hk hi.1.2)
  unfold cellq at hcl
  rw [hs] at hcl hle
  obtain ⟨cA, h1, h2⟩ := hcl
  have hle : n ≤ 256 := hle
  have hnn := o32_in hix (by omega)
  have hcn := o32_ix (i := i) hix.1 (by omega)
  have hin : ((i.toNat : Nat) : Int) = i := Int.toNat_of_nonneg hix.1
  refine W.zast hc.1 hc.2.1 h1 (h2 _ _) (fun q => by cases q) (by rw [arrV_size]; exact hnn) rfl rfl hd1 (fun H1 e1 e2 e3 => ?_)
  have hI : Invq G (n0, ρ, upq σ k i v) s H1 := by
    refine hi.put hk e2 e3 ?_ (fun _ _ => rfl) (fun a ha => upq_ne ha)
    unfold cellq
    rw [hs]
    refine ⟨cA, ?_, h2⟩
    rw [show narrow .boolean (.int (Int32.ofInt v)) = .int (Int32.ofInt v) by rcases hz with rfl | rfl <;> rfl] at e1
    rw [e1, hcn, arrV_store]
    refine congrArg some (congrArg (arrV cA n) (funext fun j => ?_))
    show updV _ _ _ j = Value.int (Int32.ofInt (upq σ k i v k j))
    rw [upq_eq]
    by_cases q : j = i.toNat
    · subst q
      rw [if_pos hin]
      simp [updV]
    · rw [if_neg (by omega)]
      simp [updV, q]
  refine kk p e s m args below meth c H1 _ Z ls hc hn hks hr hI (fun q hq => ?_) hl
  rcases List.mem_append.mp hq with q1 | q1
  · exact hlo q q1
  · rw [List.mem_singleton] at q1
    subst q1
    show G.1 ≤ adr G k
    rw [adr_lt (Nat.lt_of_lt_of_le hk (Nat.le_trans hi.1.2 (by decide)))]
    omega
theorem x_last {n0 n k : Nat} {ρ : Nat → Int → Option Nat} {σ : Nat → Int → Int} {i v : Int} (hd : dok M.2.1 (pc, .lastore, 1, nx, tg)) (hs : shp k = (14, n)) (hk : k < n0) (hix : 0 ≤ i ∧ i < n) (kk : RunX l G M R nx L st (n0, ρ, upq σ k i v) ca sl Q) : RunX l G M R pc L (vl v :: vi i :: vr k :: st) (n0, ρ, σ) ca sl Q := by
  intro p e s m args below meth c H locs Z ls hc hn hks hr hi hlo hl
  obtain ⟨hd1, hd2, hd3⟩ := hd
  dsimp only at hd1 hd2 hd3
  subst hd2
  have hcl := hi.2.2 k hk
  have hle := shp_le k (Nat.lt_of_lt_of_le hk hi.1.2)
  unfold cellq at hcl
  rw [hs] at hcl hle
  obtain ⟨cA, h1, h2⟩ := hcl
  have hle : n ≤ 256 := hle
  have hnn := o32_in hix (by omega)
  have hcn := o32_ix (i := i) hix.1 (by omega)
  have hin : ((i.toNat : Nat) : Int) = i := Int.toNat_of_nonneg hix.1
  refine W.last hc.1 hc.2.1 h1 (h2 _ _) (fun q => by cases q) (by rw [arrV_size]; exact hnn) rfl rfl hd1 (fun H1 e1 e2 e3 => ?_)
  have hI : Invq G (n0, ρ, upq σ k i v) s H1 := by
    refine hi.put hk e2 e3 ?_ (fun _ _ => rfl) (fun a ha => upq_ne ha)
    unfold cellq
    rw [hs]
    refine ⟨cA, ?_, h2⟩
    rw [e1, hcn, arrV_store]
    refine congrArg some (congrArg (arrV cA n) (funext fun j => ?_))
    show updV _ _ _ j = Value.long (Int64.ofInt (upq σ k i v k j))
    rw [upq_eq]
    by_cases q : j = i.toNat
    · subst q
      rw [if_pos hin]
      simp [updV]
    · rw [if_neg (by omega)]
      simp [updV, q]
  refine kk p e s m args below meth c H1 _ Z ls hc hn hks hr hI (fun q hq => ?_) hl
  rcases List.mem_append.mp hq with q1 | q1
  · exact hlo q q1
  · rw [List.mem_singleton] at q1
    subst q1
    show G.1 ≤ adr G k
    rw [adr_lt (Nat.lt_of_lt_of_le hk (Nat.le_trans hi.1.2 (by decide)))]
    omega
end XR
end
section
/-! fields, returns, calls, contracts -/
theorem cellq_obj {G : GC} {ρ : Nat → Int → Option Nat} {σ : Nat → Int → Int} {U : State} {H : Heap} {k ci N : Nat} (hci : ci < 12) (hs : shp k = (ci, N)) : cellq G ρ σ U H k = t_OB (adr G k) (G.2.2.1.1 ci) N (G.2.2.1.2 ci) H (fun j => fvl G ci ρ σ k j) := by
  unfold cellq
  rw [hs]
  split
  · rename_i h; cases h; omega
  · rename_i h; cases h; omega
  · rename_i h; cases h; omega
  · rename_i h; cases h; omega
  · rename_i h; cases h; rfl
def clkq (ci : Nat) (C : String) (T : u_T) (N : Nat) (ty : Nat → FieldType) : Prop := vwCl[ci]? = some (C, T, N) ∧ (∀ w ∈ u_ws C T N, w ∈ tbG) ∧ (∀ k, k < N → parseFieldDescriptor (T k).2.2.1 = some (ty k)) ∧ (∀ a, a < N → ∀ b, b < N → a ≠ b → (T a).2.1 ≠ (T b).2.1) ∧ ci < 12
/-- field j of class ci, by entry idx of class own; z is j as an Int; int or not; final or not -/
def flq (own : String) (idx ci N j : Nat) (z : Int) (isI fin : Bool) : Prop := ∃ (C : String) (T : u_T) (ty : Nat → FieldType), clkq ci C T N ty ∧ j < N ∧ (j : Int) = z ∧ Cond.fieldLink own idx (T j).1 (T j).2.1 (T j).2.2.1 ∈ tbG ∧ fI ci j = isI ∧ (T j).2.2.2 = fin ∧ (T j).1 = C ∧ (if isI = true then ty j = .int else (∃ n, ty j = .object n) ∨ ∃ t, ty j = .array t)
section XF
variable {l : Launch} {G : GC} {M : MI} {R : Room} {pc nx tg : Nat} {L : List (Option AV)} {st : List AV} {S : WS} {ca sl : Nat} {Q : Option AV → WS → Prop}
variable {n0 k idx ci N j : Nat} {ρ : Nat → Int → Option Nat} {σ : Nat → Int → Int} {z : Int} {fin : Bool}
theorem x_getI (hd : dok M.2.1 (pc, .getfield idx, 3, nx, tg)) (hf : flq M.1.cls idx ci N j z true fin) (hs : shp k = (ci, N)) (hk : k < n0) (kk : RunX l G M R nx L (vi (σ k z) :: st) (n0, ρ, σ) ca sl Q) : RunX l G M R pc L (vr k :: st) (n0, ρ, σ) ca sl Q := by
  intro p e s m args below meth c H locs Z ls hc hn hks hr hi hlo hl
  obtain ⟨hd1, hd2, hd3⟩ := hd
  dsimp only at hd1 hd2 hd3
  subst hd2
  have k1 := kk p e s m args below meth c H locs Z ls hc hn hks hr hi hlo hl
  obtain ⟨C, T, ty, ⟨hcl, hin, hty, hnm, hci⟩, hj, hz, hlk, hI, -, -, -⟩ := hf
  subst hz
  have hce := hi.2.2 k hk
  rw [cellq_obj hci hs] at hce
  obtain ⟨cell, q1, q2, q3, q4⟩ := hce
  obtain ⟨hS, hfc, kC, hkC, hkind⟩ := hks.1.1 ci _ hcl
  obtain ⟨cf, kf, fi, f, hff, hsl⟩ := hS j hj
  refine W.getf hc.1 hc.2.1 hc.2.2.2.1 (hc.2.2.2.2 _ hlk) hff (u_facts hfc hkC (u_lays hc.2.2.2.2 hin hj) hff).1 q1 (by rw [q3]; exact fun h => by cases h) (v := .int (Int32.ofInt (σ k j))) ?_ rfl rfl hd1 k1
  rw [hsl, q4 j hj]
  show some (fvl G ci ρ σ k j) = _
  rw [fvl, if_pos hI]
theorem x_getR {r : Nat} (hd : dok M.2.1 (pc, .getfield idx, 3, nx, tg)) (hf : flq M.1.cls idx ci N j z false fin) (hs : shp k = (ci, N)) (hk : k < n0) (hρ : ρ k z = some r) (kk : RunX l G M R nx L (vr r :: st) (n0, ρ, σ) ca sl Q) : RunX l G M R pc L (vr k :: st) (n0, ρ, σ) ca sl Q := by
  intro p e s m args below meth c H locs Z ls hc hn hks hr hi hlo hl
  obtain ⟨hd1, hd2, hd3⟩ := hd
  dsimp only at hd1 hd2 hd3
  subst hd2
  have k1 := kk p e s m args below meth c H locs Z ls hc hn hks hr hi hlo hl
  obtain ⟨C, T, ty, ⟨hcl, hin, hty, hnm, hci⟩, hj, hz, hlk, hI, -, -, -⟩ := hf
  subst hz
  have hce := hi.2.2 k hk
  rw [cellq_obj hci hs] at hce
  obtain ⟨cell, q1, q2, q3, q4⟩ := hce
  obtain ⟨hS, hfc, kC, hkC, hkind⟩ := hks.1.1 ci _ hcl
  obtain ⟨cf, kf, fi, f, hff, hsl⟩ := hS j hj
  refine W.getf hc.1 hc.2.1 hc.2.2.2.1 (hc.2.2.2.2 _ hlk) hff (u_facts hfc hkC (u_lays hc.2.2.2.2 hin hj) hff).1 q1 (by rw [q3]; exact fun h => by cases h) (v := crf G (some r)) ?_ rfl rfl hd1 k1
  rw [hsl, q4 j hj]
  show some (fvl G ci ρ σ k j) = _
  rw [fvl, if_neg (by rw [hI]; decide), hρ]
theorem locs_add {locs : List Loc} {G : GC} {i : Nat} (hlo : ∀ q ∈ locs, G.1 ≤ q.base) (hk : k < 1000) : ∀ q ∈ locs ++ [⟨adr G k, i⟩], G.1 ≤ q.base := by
  intro q hq
  rcases List.mem_append.mp hq with q1 | q1
  · exact hlo q q1
  · rw [List.mem_singleton] at q1
    subst q1
    show G.1 ≤ adr G k
    rw [adr_lt hk]
    omega
theorem x_putI {v : Int} (hd : dok M.2.1 (pc, .putfield idx, 3, nx, tg)) (hf : flq M.1.cls idx ci N j z true false) (hs : shp k = (ci, N)) (hk : k < n0) (kk : RunX l G M R nx L st (n0, ρ, upq σ k z v) ca sl Q) : RunX l G M R pc L (vi v :: vr k :: st) (n0, ρ, σ) ca sl Q := by
  intro p e s m args below meth c H locs Z ls hc hn hks hr hi hlo hl
  obtain ⟨hd1, hd2, hd3⟩ := hd
  dsimp only at hd1 hd2 hd3
  subst hd2
  obtain ⟨C, T, ty, ⟨hcl, hin, hty, hnm, hci⟩, hj, hz, hlk, hI, hfin, -, ht⟩ := hf
  subst hz
  have ht : ty j = .int := ht
  have hap := va_apart (own := M.1.cls) hc.2.2.2.2 hin ty hty hnm hks.1 hcl
  have hce := hi.2.2 k hk
  rw [cellq_obj hci hs] at hce
  obtain ⟨cell, q1, q2, q3, q4⟩ := hce
  obtain ⟨hS, hfc, kC, hkC, hkind⟩ := hks.1.1 ci _ hcl
  obtain ⟨cf, kf, fi, f, hff, hsl⟩ := hS j hj
  have hlay := hc.2.2.2.2 _ (hin _ (u_in_lay hj))
  unfold u_lay at hlay
  rw [if_neg (by rw [hfin]; decide)] at hlay
  have hst := (u_facts hfc hkC (u_lays hc.2.2.2.2 hin hj) hff).1
  have h6 := u_store hfc hkC hkind hlay hff (hty j hj) (v := .int (Int32.ofInt v)) (by rw [ht]; rfl) (by rw [ht]; rfl)
  have hk9 : k < 1000 := Nat.lt_of_lt_of_le hk (Nat.le_trans hi.1.2 (by decide))
  refine W.putK hc.1 hc.2.1 (f := f) ⟨hc.2.2.2.1, hc.2.2.2.2 _ hlk, ⟨_, _, _, hff⟩, hst⟩ (by rw [q2]; exact h6) q1 q3 (by rw [hsl]; exact k2_hasslot (q4 j hj)) rfl rfl hd1 (fun H1 e1 e2 e3 => ?_)
  rw [hsl] at e1 ⊢
  have hI1 : Invq G (n0, ρ, upq σ k j v) s H1 := by
    refine hi.put hk e2 e3 ?_ (fun _ _ => rfl) (fun a ha => upq_ne ha)
    rw [cellq_obj hci hs]
    refine t_OB.to (V := updV (fun j => fvl G ci ρ σ k j) j (.int (Int32.ofInt v))) ⟨_, e1, q2, q3, t_set q4 hap hj _⟩ (fun i _ => ?_)
    unfold fvl
    rw [upq_eq]
    by_cases q : i = j
    · subst q
      rw [if_pos hI, if_pos rfl]
      simp [updV]
    · rw [if_neg (show ¬ (i : Int) = (j : Int) by omega)]
      simp [updV, q]
  exact kk p e s m args below meth c H1 _ Z ls hc hn hks hr hI1 (locs_add hlo hk9) hl
theorem x_putR {r : Nat} (hd : dok M.2.1 (pc, .putfield idx, 3, nx, tg)) (hf : flq M.1.cls idx ci N j z false true) (hs : shp k = (ci, N)) (hk : k < n0) (hin2 : M.1.name = "<init>") (hown : vwCl[ci]?.map (·.1) = some M.1.cls) (kk : RunX l G M R nx L st (n0, upq ρ k z (some r), σ) ca sl Q) : RunX l G M R pc L (vr r :: vr k :: st) (n0, ρ, σ) ca sl Q := by
  intro p e s m args below meth c H locs Z ls hc hn hks hr hi hlo hl
  obtain ⟨hd1, hd2, hd3⟩ := hd
  dsimp only at hd1 hd2 hd3
  subst hd2
  obtain ⟨C, T, ty, ⟨hcl, hin, hty, hnm, hci⟩, hj, hz, hlk, hI, hfin, hTC, ht⟩ := hf
  subst hz
  rw [hcl] at hown
  have hown : C = M.1.cls := Option.some.inj hown
  have ht : (∃ n, ty j = .object n) ∨ ∃ t, ty j = .array t := ht
  have hap := va_apart (own := M.1.cls) hc.2.2.2.2 hin ty hty hnm hks.1 hcl
  have hce := hi.2.2 k hk
  rw [cellq_obj hci hs] at hce
  obtain ⟨cell, q1, q2, q3, q4⟩ := hce
  obtain ⟨hS, hfc, kC, hkC, hkind⟩ := hks.1.1 ci _ hcl
  obtain ⟨cf, kf, fi, f, hff, hsl⟩ := hS j hj
  have hlay := hc.2.2.2.2 _ (hin _ (u_in_lay hj))
  unfold u_lay at hlay
  rw [if_pos hfin] at hlay
  have hst := (u_facts hfc hkC (u_lays hc.2.2.2.2 hin hj) hff).1
  have hcf : m.cls = cf := by
    obtain ⟨_, _, c', _, _, _, -, -, hf', -, -, -, hown2, -⟩ := Cond.laysFinal_spec hlay
    have e1 : c' = cf := by have := hff.symm.trans hf'; simp at this; exact this.1.symm
    rw [hTC, hown] at hown2
    rw [← e1]; exact Option.some.inj (hc.2.2.2.1.symm.trans hown2)
  have h6 := u_fits hfc hkC hkind (Or.inr hlay) hff (hty j hj) (v := .ref (adr G r)) (by rcases ht with ⟨n, h⟩ | ⟨n, h⟩ <;> rw [h] <;> rfl) (by rcases ht with ⟨n, h⟩ | ⟨n, h⟩ <;> rw [h] <;> rfl)
  have hk9 : k < 1000 := Nat.lt_of_lt_of_le hk (Nat.le_trans hi.1.2 (by decide))
  refine W.putFinK hc.1 hc.2.1 hc.2.2.2.1 (hc.2.2.2.2 _ hlk) hff hst hcf (hn.trans hin2) (by rw [q2]; exact h6) q1 q3 (by rw [hsl]; exact k2_hasslot (q4 j hj)) rfl rfl hd1 (fun H1 e1 e2 e3 => ?_)
  rw [hsl] at e1 ⊢
  have hI1 : Invq G (n0, upq ρ k j (some r), σ) s H1 := by
    refine hi.put hk e2 e3 ?_ (fun a ha => upq_ne ha) (fun _ _ => rfl)
    rw [cellq_obj hci hs]
    refine t_OB.to (V := updV (fun j => fvl G ci ρ σ k j) j (.ref (adr G r))) ⟨_, e1, q2, q3, t_set q4 hap hj _⟩ (fun i _ => ?_)
    unfold fvl
    rw [upq_eq]
    by_cases q : i = j
    · subst q
      rw [if_neg (by rw [hI]; decide), if_pos rfl]
      simp [updV, crf]
    · rw [if_neg (show ¬ (i : Int) = (j : Int) by omega)]
      simp [updV, q]
  exact kk p e s m args below meth c H1 _ Z ls hc hn hks hr hI1 (locs_add hlo hk9) hl
theorem x_ret {r : Option AV} (hd : dok M.2.1 (pc, rinq r, 1, nx, tg)) (hok : rokq M.2.2.2 r) (h1 : ca ≤ R.cells) (h2 : sl ≤ R.slots) (hq : Q r S) : RunX l G M R pc L r.toList S ca sl Q := by
  intro p e s m args below meth c H locs Z ls hc hn hks hr hi hlo hl
  exact hr r S pc ls H locs ca sl hq hok hd.1 hi hlo h1 h2
theorem x_iret {z : Int} (hd : dok M.2.1 (pc, .ireturn, 1, nx, tg)) (hok : rokq M.2.2.2 (some (vi z))) (hq : Q (some (vi z)) S) : RunX l G M R pc L [vi z] S 0 0 Q := x_ret (r := some (vi z)) hd hok (Nat.zero_le _) (Nat.zero_le _) hq
theorem x_aret {z : Nat} (hd : dok M.2.1 (pc, .areturn, 1, nx, tg)) (hok : rokq M.2.2.2 (some (vr z))) (hq : Q (some (vr z)) S) : RunX l G M R pc L [vr z] S 0 0 Q := x_ret (r := some (vr z)) hd hok (Nat.zero_le _) (Nat.zero_le _) hq
theorem x_vret (hd : dok M.2.1 (pc, .return_, 1, nx, tg)) (hok : rokq M.2.2.2 none) (h1 : ca ≤ R.cells) (h2 : sl ≤ R.slots) (hq : Q none S) : RunX l G M R pc L [] S ca sl Q := x_ret (r := none) hd hok h1 h2 hq
/-- what follows may be asked of less -/
theorem RunX.mono {Q' : Option AV → WS → Prop} (h : RunX l G M R pc L st S ca sl Q) (hQ : ∀ r S', Q r S' → Q' r S') : RunX l G M R pc L st S ca sl Q' := by
  intro p e s m args below meth c H locs Z ls hc hn hks hr hi hlo hl
  exact h p e s m args below meth c H locs Z ls hc hn hks (fun r S' pc' ls' H' locs' ca' sl' hq => hr r S' pc' ls' H' locs' ca' sl' (hQ r S' hq)) hi hlo hl
end XF
/-! contracts -/
def rmq (d mc ms : Nat) : Room := { frames := d, cells := mc, slots := ms, locals := 40 * d }
def Cwq (M : MI) : List Cond := Cond.code M.1 M.2.1 M.2.2.1 M.2.2.2 :: tbG
def Qcq (G : GC) (Q : Option AV → WS → Prop) : Array Value → State → Outcome → State → Prop := fun _ _ o t => ∃ (r : Option AV) (S' : WS), o = .returned (r.map (cvl G)) ∧ Q r S' ∧ Invq G S' t t.heap
def Ct (l : Launch) (G : GC) (M : MI) (d mc ms : Nat) (As : List AV) (S : WS) (Q : Option AV → WS → Prop) : Prop := Met l M.1 (Cwq M) (rmq d mc ms) (va_Pc (As.map (cvl G)) (fun U => Invq G S U U.heap ∧ Kst G U)) (Qcq G Q) mc ms (fun q => G.1 ≤ q)
def eLq : List AV → List (Option AV)
  | [] => []
  | .inr (.inl z) :: vs => some (vl z) :: none :: eLq vs
  | v :: vs => some v :: eLq vs
theorem eLq_pr {G : GC} : ∀ (vs : List AV) (n : Nat), prL G n (eLq vs) = lv_args n (vs.map (cvl G))
  | [], n => rfl
  | .inr (.inl z) :: vs, n => by
    show (n, cvl G (vl z)) :: prL G (n + 2) (eLq vs) = _
    rw [eLq_pr vs]; rfl
  | .inl z :: vs, n => by
    show (n, cvl G (vi z)) :: prL G (n + 1) (eLq vs) = _
    rw [eLq_pr vs]; rfl
  | .inr (.inr none) :: vs, n => by
    show (n, _) :: prL G (n + 1) (eLq vs) = _
    rw [eLq_pr vs]; rfl
  | .inr (.inr (some k)) :: vs, n => by
    show (n, _) :: prL G (n + 1) (eLq vs) = _
    rw [eLq_pr vs]; rfl
theorem eLq_len {G : GC} : ∀ (vs : List AV), (lg_sl (vs.map (cvl G))).length = (eLq vs).length
  | [] => rfl
  | .inr (.inl z) :: vs => by
    have := eLq_len (G := G) vs
    show (Slot.val _ :: Slot.second :: lg_sl (vs.map (cvl G))).length = _
    simp [eLq, this]
  | .inl z :: vs => by
    have := eLq_len (G := G) vs
    show (Slot.val _ :: lg_sl (vs.map (cvl G))).length = _
    simp [eLq, this]
  | .inr (.inr none) :: vs => by
    have := eLq_len (G := G) vs
    show (Slot.val _ :: lg_sl (vs.map (cvl G))).length = _
    simp [eLq, this]
  | .inr (.inr (some k)) :: vs => by
    have := eLq_len (G := G) vs
    show (Slot.val _ :: lg_sl (vs.map (cvl G))).length = _
    simp [eLq, this]
theorem Ct.of {l : Launch} {G : GC} {M : MI} {d mc ms : Nat} {As : List AV} {S : WS} {Q : Option AV → WS → Prop} (hy : plainName M.1.cls = true) (hlen : (eLq As).length ≤ M.2.2.1) (h : RunX l G M (rmq d mc ms) 0 (eLq As) [] S 0 0 Q) : Ct l G M d mc ms As S Q := by
  refine Met.ofW (cc := M.2.1) (maxL := M.2.2.1) (ret := M.2.2.2) hy rfl ?_
  intro p e s m args below meth c s₁ B hml hv
  obtain ⟨rfl, hI, hK⟩ := hv
  have hts := atoms_spec (ws := Cwq M) B.pre
  have hown : s.vm.findClass M.1.cls = some m.cls := findClass_of_methodNamed B.named
  have hlocks := B.notSynchronized
  have hin : meth.name = M.1.name := (name_of_methodNamed B.named B.method).1
  have hr := B.returns
  have hl0 := lv_entry (As.map (cvl G)) (n := M.2.2.1) (by rw [eLq_len]; exact hlen)
  rw [lg_entry_eq]
  generalize (lg_sl (As.map (cvl G)) ++ List.replicate (M.2.2.1 - (lg_sl (As.map (cvl G))).length) Slot.unset).toArray = ls at hl0 ⊢
  have hl : lh G ls M.2.2.1 (eLq As) := by
    unfold lh
    rw [eLq_pr]
    exact hl0
  refine h p e s m _ below meth c s.heap [] _ ls ⟨B.exec, B.bytes, hml, hown, fun w hw => hts w (List.mem_cons_of_mem _ hw)⟩ hin hK ?_ hI (fun q hq => by cases hq) hl
  intro r S' pc' ls' H' locs' ca' sl' hq hok hdec hI' hlo h1 h2
  have h1 : ca' ≤ mc := h1
  have h2 : sl' ≤ ms := h2
  refine W.widen h1 h2 ?_
  have hpost : ∀ t : State, t.heap = H' → s.WarmedH t.vm → Qcq G Q (As.map (cvl G)).toArray s (.returned (r.map (cvl G))) t := fun t ht hW => ⟨r, S', rfl, hq, by rw [ht]; exact hI'.moved hW.alike⟩
  match hM : M.2.2.2, r, hok, hdec, hpost with
  | none, none, _, hdec, hpost => exact W.vret B.exec B.bytes (hr.trans hM) hpost hlo hdec
  | some .int, some (.inl z), _, hdec, hpost => exact W.iret (v := Int32.ofInt z) B.exec B.bytes (hr.trans hM) hpost hlo hdec
  | some .boolean, some (.inl z), hok, hdec, hpost =>
    have hok : z = 0 ∨ z = 1 := hok
    exact W.zret (v := Int32.ofInt z) B.exec B.bytes (hr.trans hM) (by rcases hok with rfl | rfl <;> rfl) hpost hlo hdec
  | some .byte, some (.inl z), hok, hdec, hpost =>
    have hok : z = 0 := hok
    exact W.zret (v := Int32.ofInt z) B.exec B.bytes (hr.trans hM) (by rw [hok]; rfl) hpost hlo hdec
  | some .char, some (.inl z), hok, hdec, hpost =>
    have hok : 0 ≤ z ∧ z < 65536 := hok
    refine W.zret (v := Int32.ofInt z) B.exec B.bytes (hr.trans hM) ?_ hpost hlo hdec
    have := (pk_charN (q := z.toNat) (by omega)).1
    rw [show nI z.toNat = Int32.ofInt z by unfold nI; rw [← Int32.ofInt_eq_ofNat, Int.toNat_of_nonneg hok.1]] at this
    exact this
  | some .long, some (.inr (.inl z)), _, hdec, hpost => exact W.lret (v := Int64.ofInt z) B.exec B.bytes (hr.trans hM) hpost hlo hdec
  | some (.object n), some (.inr (.inr (some k))), _, hdec, hpost => exact W.aret (v := .ref (adr G k)) B.exec B.bytes (hr.trans hM) (Or.inl ⟨n, rfl⟩) (Or.inr ⟨_, rfl⟩) hpost hlo hdec
theorem tbl_good : tbG.all goodWord = true := List.all_eq_true.mpr fun w hw => (List.mem_filter.mp hw).2
theorem Cwq_good {M : MI} (h : Cond.code M.1 M.2.1 M.2.2.1 M.2.2.2 ∈ tbG) : GoodIn tbG (Cwq M) := by
  intro w hw
  have hm : w ∈ tbG := by
    rcases List.mem_cons.mp hw with rfl | h1
    · exact h
    · exact h1
  exact ⟨hm, good_of_word (List.all_eq_true.mp tbl_good w hm)⟩
theorem good_in {w : Cond} (h : w ∈ tbG) : w ∈ tbG ∧ ((w.onTables && w.keeps) = true ∨ ∃ ty, w = .arrayClass ty) := ⟨h, good_of_word (List.all_eq_true.mp tbl_good w h)⟩
/-- what a call needs of the one that is called -/
def mokq (M : MI) (n : Nat) : Prop := Cond.code M.1 M.2.1 M.2.2.1 M.2.2.2 ∈ tbG ∧ Cond.initialized M.1.cls ∈ tbG ∧ (M.1.cls ≠ "java/lang/invoke/MethodHandle" ∧ M.1.cls ≠ "java/lang/invoke/VarHandle" ∧ (parseMethodDescriptor M.1.desc).map (fun d => d.parameters.length) = some n)
def mvq (M : MI) (n : Nat) : Prop := mokq M n ∧ Cond.instanceMethod M.1 ∈ tbG ∧ Cond.selects M.1.cls M.1 M.1 ∈ tbG
def msq (M : MI) (n : Nat) : Prop := mokq M n ∧ Cond.static M.1 ∈ tbG
def miq (M : MI) (n : Nat) : Prop := mokq M n ∧ Cond.instanceMethod M.1 ∈ tbG ∧ M.1.name = "<init>" ∧ M.2.2.2 = none
theorem Invq.blind {G : GC} {S : WS} {av : List Value} : FrameBlind (va_Pc av (fun U => Invq G S U U.heap ∧ Kst G U)) := by
  intro a U g mk q
  obtain ⟨q0, q1, q2⟩ := q
  exact ⟨q0, Invq.moved (u := U) (U := U.calling g mk a) (Vm.Alike.refl U.vm) q1, Kst.same rfl q2⟩
section XC
variable {l : Launch} {G : GC} {M : MI} {R : Room} {pc nx tg : Nat} {L : List (Option AV)} {st rest : List AV} {S : WS} {ca sl : Nat} {Q : Option AV → WS → Prop}
variable {K : MI} {d mc ms n idx : Nat} {As : List AV} {Q1 : Option AV → WS → Prop}
def catq (st : List AV) : Nat := match st with
  | [] => 0
  | .inr (.inl _) :: r => 2 + catq r
  | _ :: r => 1 + catq r
theorem catq_sum {G : GC} : ∀ st : List AV, ((st.map (cvl G)).map fun v => v.category).sum = catq st
  | [] => rfl
  | .inr (.inl z) :: r => by
    rw [List.map_cons, List.map_cons, List.sum_cons, catq_sum r]; rfl
  | .inl z :: r => by
    rw [List.map_cons, List.map_cons, List.sum_cons, catq_sum r]; rfl
  | .inr (.inr none) :: r => by
    rw [List.map_cons, List.map_cons, List.sum_cons, catq_sum r]; rfl
  | .inr (.inr (some k)) :: r => by
    rw [List.map_cons, List.map_cons, List.sum_cons, catq_sum r]; rfl
/-- a call that has run: the caller goes on -/
theorem x_back {p : Program} {e : Env} {s : State} {m : MethodId} {args a : Array Value} {below : List Frame} {meth : Method} {c : Code} {H : Heap} {locs : List Loc} {Z : State → Prop} {ls : Array Slot} {st0 : List Value}
    (hrun : va_Run p l e R s m args below meth c H locs ca sl mc ms (F0 m pc ls st0) (rest.map (cvl G)) (Qcq G Q1 a) (fun q => G.1 ≤ q)) (hlo : ∀ q ∈ locs, G.1 ≤ q.base)
    (kk : ∀ (r : Option AV) (S' : WS) (H1 : Heap) (locs1 : List Loc), Q1 r S' → Invq G S' s H1 → (∀ q ∈ locs1, G.1 ≤ q.base) → W p l e R s m args below meth c H1 locs1 (ca + mc) (sl + ms) Z (F0 m (pc + 3) ls ((r.toList ++ rest).map (cvl G)))) : W p l e R s m args below meth c H locs ca sl Z (F0 m pc ls st0) := by
  intro T hT X
  obtain ⟨v, st₀, t, T', L, h0, X', hL, e1, e2, ⟨r, S', hv, hq, hI⟩, st⟩ := hrun T hT X
  cases hv
  have hI2 : Invq G S' s T'.heap := by
    rw [e1]
    exact hI.moved (by rw [← e2]; exact X'.warmed.alike.symm)
  obtain ⟨t2, a1, b1⟩ := kk r S' T'.heap (locs ++ L) hq hI2 (fun q hq => by
    rcases List.mem_append.mp hq with h | h
    · exact hlo q h
    · exact hL q h) T' rfl X'
  refine ⟨t2, st t2 ?_, b1⟩
  have hst : (r.map (cvl G)).toList ++ rest.map (cvl G) = (r.toList ++ rest).map (cvl G) := by cases r <;> simp
  show Steps p.tables e below (T'.setTop { (F0 m pc ls st0) with pc := pc + 3, stack := (r.map (cvl G)).toList ++ rest.map (cvl G) }) t2
  rw [hst]
  exact a1
theorem x_callV {k ci N : Nat} (hd : dok M.2.1 (pc, .invokevirtual idx, 3, nx, tg)) (hlk : Cond.methodLink M.1.cls idx K.1 ∈ tbG) (hm : mvq K n) (hs : shp k = (ci, N)) (hk : k < S.1) (hcc : ci < 12 ∧ vwCl[ci]?.map (·.1) = some K.1.cls) (hct : Ct l G K d mc ms (vr k :: As) S Q1) (hR : d + 1 ≤ R.frames ∧ 8 + (K.2.2.1 + 11) + 40 * d ≤ R.locals) (hca : ca + mc ≤ R.cells ∧ sl + ms ≤ R.slots) (hst : st = As.reverse ++ vr k :: rest) (hn : As.length = n) (hcat : catq rest ≤ 8)
    (kk : ∀ (r : Option AV) (S' : WS), Q1 r S' → RunX l G M R nx L (r.toList ++ rest) S' (ca + mc) (sl + ms) Q) : RunX l G M R pc L st S ca sl Q := by
  intro p e s m args below meth c H locs Z ls hc hnm hks hr hi hlo hl
  obtain ⟨hd1, hd2, hd3⟩ := hd
  dsimp only at hd1 hd2 hd3
  subst hd2
  subst hst
  obtain ⟨⟨m1, m2, m3⟩, m4, m5⟩ := hm
  obtain ⟨hci, hcls⟩ := hcc
  have hT : GoodIn tbG (wsV M.1.cls idx K.1.cls K.1 (Cwq K)) := by
    intro w hw
    rcases List.mem_append.mp hw with h | h
    · simp only [List.mem_cons, List.not_mem_nil, or_false] at h
      rcases h with rfl | rfl | rfl | rfl
      · exact good_in hlk
      · exact good_in m4
      · exact good_in m5
      · exact good_in m2
    · exact Cwq_good m1 w h
  have hce := hi.2.2 k hk
  rw [cellq_obj hci hs] at hce
  obtain ⟨cell, q1, q2, q3, q4⟩ := hce
  refine x_back (rest := rest) (hrun := va_runV (As := As.map (cvl G)) hc hct (cwV (bytes := K.2.1) (maxL := K.2.2.1) (ret := K.2.2.2) n hc.2.2.2.2 hT rfl rfl rfl ⟨rfl, m3⟩ hR) (b := adr G k) ⟨Invq.blind, ?_, fun U hU hW => ⟨rfl, by rw [hU]; exact hi.moved hW.alike, hks.warm hW⟩⟩ rfl (by rw [List.length_map]; exact hn) hl.1 (by show List.map (cvl G) (As.reverse ++ vr k :: rest) = _; rw [List.map_append, List.map_reverse]; rfl) (lv_room (by rw [catq_sum]; exact hcat)) hd1 hca) hlo ?_
  · cases hv : vwCl[ci]? with
    | none => rw [hv] at hcls; cases hcls
    | some q =>
      rw [hv] at hcls
      obtain ⟨-, hfc, -⟩ := hks.1.1 ci q hv
      refine ⟨cell, q1, by rw [q3]; rfl, ?_⟩
      rw [q2, ← hfc, show K.1.cls = q.1 from (Option.some.inj hcls).symm]
  · intro r S' H1 locs1 hq hI hlo1
    exact kk r S' hq p e s m args below meth c H1 locs1 Z ls hc hnm hks hr hI hlo1 hl
theorem x_callS (hd : dok M.2.1 (pc, .invokestatic idx, 3, nx, tg)) (hlk : Cond.methodLink M.1.cls idx K.1 ∈ tbG) (hm : msq K n) (hct : Ct l G K d mc ms As S Q1) (hR : d + 1 ≤ R.frames ∧ 8 + (K.2.2.1 + 11) + 40 * d ≤ R.locals) (hca : ca + mc ≤ R.cells ∧ sl + ms ≤ R.slots) (hst : st = As.reverse ++ rest) (hn : As.length = n) (hcat : catq rest ≤ 8)
    (kk : ∀ (r : Option AV) (S' : WS), Q1 r S' → RunX l G M R nx L (r.toList ++ rest) S' (ca + mc) (sl + ms) Q) : RunX l G M R pc L st S ca sl Q := by
  intro p e s m args below meth c H locs Z ls hc hnm hks hr hi hlo hl
  obtain ⟨hd1, hd2, hd3⟩ := hd
  dsimp only at hd1 hd2 hd3
  subst hd2
  subst hst
  obtain ⟨⟨m1, m2, m3⟩, m4⟩ := hm
  have hT : GoodIn tbG (va_wsS M.1.cls idx K.1 (Cwq K)) := by
    intro w hw
    rcases List.mem_append.mp hw with h | h
    · simp only [List.mem_cons, List.not_mem_nil, or_false] at h
      rcases h with rfl | rfl | rfl
      · exact good_in hlk
      · exact good_in m4
      · exact good_in m2
    · exact Cwq_good m1 w h
  refine x_back (rest := rest) (hrun := va_runS (As := As.map (cvl G)) hc hct (va_cwS (bytes := K.2.1) (maxL := K.2.2.1) (ret := K.2.2.2) n hc.2.2.2.2 hT rfl rfl rfl m3 hR) ⟨Invq.blind, fun U hU hW => ⟨rfl, by rw [hU]; exact hi.moved hW.alike, hks.warm hW⟩⟩ rfl (by rw [List.length_map]; exact hn) hl.1 (by show List.map (cvl G) (As.reverse ++ rest) = _; rw [List.map_append, List.map_reverse]) (lv_room (by rw [catq_sum]; exact hcat)) hd1 hca) hlo ?_
  intro r S' H1 locs1 hq hI hlo1
  exact kk r S' hq p e s m args below meth c H1 locs1 Z ls hc hnm hks hr hI hlo1 hl
theorem x_callSN {host : String} (hd : dok M.2.1 (pc, .invokestatic idx, 3, nx, tg)) (hlk : (M.1.cls, idx, K.1, host) ∈ nstq) (hm : msq K n) (hct : Ct l G K d mc ms As S Q1) (hR : d + 1 ≤ R.frames ∧ 8 + (K.2.2.1 + 11) + 40 * d ≤ R.locals) (hca : ca + mc ≤ R.cells ∧ sl + ms ≤ R.slots) (hst : st = As.reverse ++ rest) (hn : As.length = n) (hcat : catq rest ≤ 8)
    (kk : ∀ (r : Option AV) (S' : WS), Q1 r S' → RunX l G M R nx L (r.toList ++ rest) S' (ca + mc) (sl + ms) Q) : RunX l G M R pc L st S ca sl Q := by
  intro p e s m args below meth c H locs Z ls hc hnm hks hr hi hlo hl
  obtain ⟨hd1, hd2, hd3⟩ := hd
  dsimp only at hd1 hd2 hd3
  subst hd2
  subst hst
  obtain ⟨⟨m1, m2, m3⟩, m4⟩ := hm
  have hnw : va_Nw (.methodLinkNest M.1.cls idx K.1 host) s := hks.2.2.2.2.2.2.2.1 _ hlk
  refine x_back (rest := rest) (hrun := va_runSN (As := As.map (cvl G)) (host := host) hc hct ⟨va_cnB (bytes := K.2.1) (maxL := K.2.2.1) (ret := K.2.2.2) n hc.2.2.2.2 (Cwq_good m1) rfl rfl rfl hnw (hc.2.2.2.2 _ m2) m3 hR, hc.2.2.2.2 _ m4, trivial⟩ ⟨Invq.blind, fun U hU hW => ⟨rfl, by rw [hU]; exact hi.moved hW.alike, hks.warm hW⟩⟩ rfl (by rw [List.length_map]; exact hn) hl.1 (by show List.map (cvl G) (As.reverse ++ rest) = _; rw [List.map_append, List.map_reverse]) (lv_room (by rw [catq_sum]; exact hcat)) hd1 hca) hlo ?_
  intro r S' H1 locs1 hq hI hlo1
  exact kk r S' hq p e s m args below meth c H1 locs1 Z ls hc hnm hks hr hI hlo1 hl
theorem x_callI {k : Nat} (hd : dok M.2.1 (pc, .invokespecial idx, 3, nx, tg)) (hlk : Cond.methodLink M.1.cls idx K.1 ∈ tbG) (hm : miq K n) (hct : Ct l G K d mc ms (vr k :: As) S Q1) (hR : d + 1 ≤ R.frames ∧ 8 + (K.2.2.1 + 11) + 40 * d ≤ R.locals) (hca : ca + mc ≤ R.cells ∧ sl + ms ≤ R.slots) (hst : st = As.reverse ++ vr k :: rest) (hn : As.length = n) (hcat : catq rest ≤ 8)
    (kk : ∀ (r : Option AV) (S' : WS), Q1 r S' → RunX l G M R nx L (r.toList ++ rest) S' (ca + mc) (sl + ms) Q) : RunX l G M R pc L st S ca sl Q := by
  intro p e s m args below meth c H locs Z ls hc hnm hks hr hi hlo hl
  obtain ⟨hd1, hd2, hd3⟩ := hd
  dsimp only at hd1 hd2 hd3
  subst hd2
  subst hst
  obtain ⟨⟨m1, m2, m3⟩, m4, m5, m6⟩ := hm
  have m1' := m1
  rw [m6] at m1'
  refine x_back (rest := rest) (hrun := va_runI (As := As.map (cvl G)) (b := adr G k) hc hct (cwI (bytes := K.2.1) (maxL := K.2.2.1) n hc.2.2.2.2 (Cwq_good m1) (by unfold Cwq; rw [m6]) rfl rfl (hc.2.2.2.2 _ m2) (hc.2.2.2.2 _ hlk) (hc.2.2.2.2 _ m4) m5 m3 hR) ⟨Invq.blind, fun U hU hW => ⟨rfl, by rw [hU]; exact hi.moved hW.alike, hks.warm hW⟩⟩ rfl (by rw [List.length_map]; exact hn) hl.1 (by show List.map (cvl G) (As.reverse ++ vr k :: rest) = _; rw [List.map_append, List.map_reverse]; rfl) (lv_room (by rw [catq_sum]; exact hcat)) hd1 hca) hlo ?_
  intro r S' H1 locs1 hq hI hlo1
  exact kk r S' hq p e s m args below meth c H1 locs1 Z ls hc hnm hks hr hI hlo1 hl
theorem x_callIN {k : Nat} {host : String} (hd : dok M.2.1 (pc, .invokespecial idx, 3, nx, tg)) (hlk : (M.1.cls, idx, K.1, host) ∈ nstq) (hm : miq K n) (hct : Ct l G K d mc ms (vr k :: As) S Q1) (hR : d + 1 ≤ R.frames ∧ 8 + (K.2.2.1 + 11) + 40 * d ≤ R.locals) (hca : ca + mc ≤ R.cells ∧ sl + ms ≤ R.slots) (hst : st = As.reverse ++ vr k :: rest) (hn : As.length = n) (hcat : catq rest ≤ 8)
    (kk : ∀ (r : Option AV) (S' : WS), Q1 r S' → RunX l G M R nx L (r.toList ++ rest) S' (ca + mc) (sl + ms) Q) : RunX l G M R pc L st S ca sl Q := by
  intro p e s m args below meth c H locs Z ls hc hnm hks hr hi hlo hl
  obtain ⟨hd1, hd2, hd3⟩ := hd
  dsimp only at hd1 hd2 hd3
  subst hd2
  subst hst
  obtain ⟨⟨m1, m2, m3⟩, m4, m5, m6⟩ := hm
  have hnw : va_Nw (.methodLinkNest M.1.cls idx K.1 host) s := hks.2.2.2.2.2.2.2.1 _ hlk
  refine x_back (rest := rest) (hrun := va_runIN (As := As.map (cvl G)) (host := host) (b := adr G k) hc hct ⟨va_cnB (bytes := K.2.1) (maxL := K.2.2.1) n hc.2.2.2.2 (Cwq_good m1) (by unfold Cwq; rw [m6]) rfl rfl hnw (hc.2.2.2.2 _ m2) m3 hR, m5, hc.2.2.2.2 _ m4⟩ ⟨Invq.blind, fun U hU hW => ⟨rfl, by rw [hU]; exact hi.moved hW.alike, hks.warm hW⟩⟩ rfl (by rw [List.length_map]; exact hn) hl.1 (by show List.map (cvl G) (As.reverse ++ vr k :: rest) = _; rw [List.map_append, List.map_reverse]; rfl) (lv_room (by rw [catq_sum]; exact hcat)) hd1 hca) hlo ?_
  intro r S' H1 locs1 hq hI hlo1
  exact kk r S' hq p e s m args below meth c H1 locs1 Z ls hc hnm hks hr hI hlo1 hl
end XC
end
section
/-! constants, texts, the script; what is made -/
section XS
variable {l : Launch} {G : GC} {M : MI} {R : Room} {pc nx tg : Nat} {L : List (Option AV)} {st : List AV} {S : WS} {ca sl : Nat} {Q : Option AV → WS → Prop}
theorem o_nat (n : Nat) : Int32.ofNat n = Int32.ofInt (n : Int) := Int32.ofInt_eq_ofNat.symm
/-- a constant's cell lies below the base -/
theorem x_below {U : State} {H : Heap} (hi : Invq G S U H) {a : Nat} {cell : Cell} (h : G.2.1[a]? = some cell) (ha : ¬ G.1 ≤ a) : H[a]? = some cell := by rw [hi.2.1 a (Nat.not_le.mp ha)]; exact h
theorem x_gets {i idx : Nat} {q : String × String × List Int} (hd : dok M.2.1 (pc, .getstatic idx, 3, nx, tg)) (hq : stq[i]? = some q) (hlk : Cond.fieldLink M.1.cls idx q.1 q.2.1 "[I" ∈ tbG) (kk : RunX l G M R nx L (vr (1000 + i) :: st) S ca sl Q) : RunX l G M R pc L st S ca sl Q := by
  intro p e s m args below meth c H locs Z ls hc hn hks hr hi hlo hl
  obtain ⟨hd1, hd2, hd3⟩ := hd
  dsimp only at hd1 hd2 hd3
  subst hd2
  obtain ⟨⟨cf, kf, fi, f, a, cell, h1, h2, h3, h4, h5, h6, h7, h8⟩, -⟩ := hks.2.1 i q hq
  exact W.gets hc.1 hc.2.1 hc.2.2.2.1 (hc.2.2.2.2 _ hlk) h1 h2 h3 h4 (x_below hi h5 h8) (fun e => by rw [e] at h6; cases h6) h7 rfl hd1 (kk p e s m args below meth c H locs Z ls hc hn hks hr hi hlo hl)
theorem x_getsZ {idx : Nat} (hd : dok M.2.1 (pc, .getstatic idx, 3, nx, tg)) (hlk : Cond.fieldLink M.1.cls idx "java/lang/String" "COMPACT_STRINGS" "Z" ∈ tbG) (kk : RunX l G M R nx L (vi 1 :: st) S ca sl Q) : RunX l G M R pc L st S ca sl Q := by
  intro p e s m args below meth c H locs Z ls hc hn hks hr hi hlo hl
  obtain ⟨hd1, hd2, hd3⟩ := hd
  dsimp only at hd1 hd2 hd3
  subst hd2
  obtain ⟨cf, kf, fi, f, a, cell, h1, h2, h3, h4, h5, h6, h7, h8⟩ := hks.2.2.2.2.1
  exact W.gets hc.1 hc.2.1 hc.2.2.2.1 (hc.2.2.2.2 _ hlk) h1 h2 h3 h4 (x_below hi h5 h8) (fun e => by rw [e] at h6; cases h6) h7 rfl hd1 (kk p e s m args below meth c H locs Z ls hc hn hks hr hi hlo hl)
theorem x_getsF {idx : Nat} (hd : dok M.2.1 (pc, .getstatic idx, 3, nx, tg)) (hlk : Cond.fieldLink M.1.cls idx "jdk/internal/util/Preconditions" "SIOOBE_FORMATTER" sfmt ∈ tbG) (kk : ∀ r : Option Nat, RunX l G M R nx L (.inr (.inr r) :: st) S ca sl Q) : RunX l G M R pc L st S ca sl Q := by
  intro p e s m args below meth c H locs Z ls hc hn hks hr hi hlo hl
  obtain ⟨hd1, hd2, hd3⟩ := hd
  dsimp only at hd1 hd2 hd3
  subst hd2
  obtain ⟨r, cf, kf, fi, f, a, cell, h1, h2, h3, h4, h5, h6, h7, h8⟩ := hks.2.2.2.2.2.1
  exact W.gets hc.1 hc.2.1 hc.2.2.2.1 (hc.2.2.2.2 _ hlk) h1 h2 h3 h4 (x_below hi h5 h8) (fun e => by rw [e] at h6; cases h6) h7 rfl hd1 (kk r p e s m args below meth c H locs Z ls hc hn hks hr hi hlo hl)
theorem x_Tin {i : Int} {N n : Nat} (h : 0 ≤ i ∧ i < N) (hN : N ≤ n) (hs : N < 2147483648) : ¬ (Int32.ofInt i < 0 ∨ n ≤ (Int32.ofInt i).toNatClampNeg) := by
  rw [o32_0, o32_lt (by omega) (by decide), o32_ix h.1 (by omega)]
  omega
/-- a static array is read -/
theorem x_ialdS {i : Nat} {z : Int} {q : String × String × List Int} (hd : dok M.2.1 (pc, .iaload, 1, nx, tg)) (hq : stq[i]? = some q) (hz : 0 ≤ z ∧ z < q.2.2.length) (hln : q.2.2.length < 100) (kk : RunX l G M R nx L (vi (q.2.2.getD z.toNat 0) :: st) S ca sl Q) : RunX l G M R pc L (vi z :: vr (1000 + i) :: st) S ca sl Q := by
  intro p e s m args below meth c H locs Z ls hc hn hks hr hi hlo hl
  obtain ⟨hd1, hd2, hd3⟩ := hd
  dsimp only at hd1 hd2 hd3
  subst hd2
  obtain ⟨-, cell, h1, h2, h3, h4, h5, h6, h7⟩ := hks.2.1 i q hq
  refine W.iald (v := .int (Int32.ofInt (q.2.2.getD z.toNat 0))) hc.1 hc.2.1 (x_below hi h1 h7) h2 h3 (x_Tin hz h4 (by omega)) ?_ rfl rfl hd1 (kk p e s m args below meth c H locs Z ls hc hn hks hr hi hlo hl)
  rw [o32_ix hz.1 (by omega)]
  exact h6 _ (by omega)
/-- the script is read -/
theorem x_sld {z : Int} (hd : dok M.2.1 (pc, .iaload, 1, nx, tg)) (hz : 0 ≤ z ∧ z < G.2.2.2.2.1) (hln : G.2.2.2.2.1 < 100000) (kk : RunX l G M R nx L (vi (G.2.2.2.2.2 z.toNat) :: st) S ca sl Q) : RunX l G M R pc L (vi z :: vr 1060 :: st) S ca sl Q := by
  intro p e s m args below meth c H locs Z ls hc hn hks hr hi hlo hl
  obtain ⟨hd1, hd2, hd3⟩ := hd
  dsimp only at hd1 hd2 hd3
  subst hd2
  obtain ⟨cell, h1, h2, h3, h4, h5, h6, h7⟩ := hks.2.2.2.2.2.2.1
  refine W.iald (v := .int (Int32.ofInt (G.2.2.2.2.2 z.toNat))) hc.1 hc.2.1 (x_below hi h1 h7) h2 h3 (x_Tin hz h4 (by omega)) ?_ rfl rfl hd1 (kk p e s m args below meth c H locs Z ls hc hn hks hr hi hlo hl)
  rw [o32_ix hz.1 (by omega)]
  exact h6 _ (by omega)
theorem x_slen (hd : dok M.2.1 (pc, .arraylength, 1, nx, tg)) (kk : RunX l G M R nx L (vi G.2.2.2.2.1 :: st) S ca sl Q) : RunX l G M R pc L (vr 1060 :: st) S ca sl Q := by
  intro p e s m args below meth c H locs Z ls hc hn hks hr hi hlo hl
  obtain ⟨hd1, hd2, hd3⟩ := hd
  dsimp only at hd1 hd2 hd3
  subst hd2
  obtain ⟨cell, h1, h2, h3, h4, h5, h6, h7⟩ := hks.2.2.2.2.2.2.1
  exact W.alen (n := Int32.ofInt G.2.2.2.2.1) hc.1 hc.2.1 (x_below hi h1 h7) h2 (by rw [h5, o_nat]) rfl rfl hd1 (kk p e s m args below meth c H locs Z ls hc hn hks hr hi hlo hl)
/-- a text constant -/
theorem x_ldcS {i : Nat} {q : Nat × String × List Int32} (hd : dok M.2.1 (pc, .ldc q.1, 2, nx, tg)) (hM : M.1.cls = "WharfPapers$Reader") (hq : txq[i]? = some q) (kk : RunX l G M R nx L (vr (1010 + i) :: st) S ca sl Q) : RunX l G M R pc L st S ca sl Q := by
  intro p e s m args below meth c H locs Z ls hc hn hks hr hi hlo hl
  obtain ⟨hd1, hd2, hd3⟩ := hd
  dsimp only at hd1 hd2 hd3
  subst hd2
  have ho := hc.2.2.2.1
  rw [hM] at ho
  exact va_ldcS hc.1 hc.2.1 ho (hks.2.2.1 i q hq) hd1 (kk p e s m args below meth c H locs Z ls hc hn hks hr hi hlo hl)
theorem x_strV {i idx : Nat} (hd : dok M.2.1 (pc, .getfield idx, 3, nx, tg)) (hi9 : i < 13) (hlk : Cond.fieldLink M.1.cls idx "java/lang/String" "value" "[B" ∈ tbG) (kk : RunX l G M R nx L (vr (1030 + i) :: st) S ca sl Q) : RunX l G M R pc L (vr (1010 + i) :: st) S ca sl Q := by
  intro p e s m args below meth c H locs Z ls hc hn hks hr hi hlo hl
  obtain ⟨hd1, hd2, hd3⟩ := hd
  dsimp only at hd1 hd2 hd3
  subst hd2
  obtain ⟨cf, k, fi, f, cell, h1, h2, h3, h4, h5, h6⟩ := (hks.2.2.2.1.1 i hi9).2.2.1
  exact W.getf hc.1 hc.2.1 hc.2.2.2.1 (hc.2.2.2.2 _ hlk) h1 h2 (x_below hi h3 h6) h4 h5 rfl rfl hd1 (kk p e s m args below meth c H locs Z ls hc hn hks hr hi hlo hl)
theorem x_strC {i idx : Nat} (hd : dok M.2.1 (pc, .getfield idx, 3, nx, tg)) (hi9 : i < 13) (hlk : Cond.fieldLink M.1.cls idx "java/lang/String" "coder" "B" ∈ tbG) (kk : RunX l G M R nx L (vi 0 :: st) S ca sl Q) : RunX l G M R pc L (vr (1010 + i) :: st) S ca sl Q := by
  intro p e s m args below meth c H locs Z ls hc hn hks hr hi hlo hl
  obtain ⟨hd1, hd2, hd3⟩ := hd
  dsimp only at hd1 hd2 hd3
  subst hd2
  obtain ⟨cf, k, fi, f, cell, h1, h2, h3, h4, h5, h6⟩ := (hks.2.2.2.1.1 i hi9).2.1
  exact W.getf hc.1 hc.2.1 hc.2.2.2.1 (hc.2.2.2.2 _ hlk) h1 h2 (x_below hi h3 h6) h4 h5 rfl rfl hd1 (kk p e s m args below meth c H locs Z ls hc hn hks hr hi hlo hl)
theorem x_strL {i n : Nat} (hd : dok M.2.1 (pc, .arraylength, 1, nx, tg)) (hi9 : i < 13) (hn9 : lenq.getD i 0 = n) (kk : RunX l G M R nx L (vi n :: st) S ca sl Q) : RunX l G M R pc L (vr (1030 + i) :: st) S ca sl Q := by
  intro p e s m args below meth c H locs Z ls hc hn hks hr hi hlo hl
  obtain ⟨hd1, hd2, hd3⟩ := hd
  dsimp only at hd1 hd2 hd3
  subst hd2
  subst hn9
  obtain ⟨cell, h1, h2, h3, h4, h5, h6, h7⟩ := (hks.2.2.2.1.1 i hi9).2.2.2
  exact W.alen (n := Int32.ofInt (lenq.getD i 0)) hc.1 hc.2.1 (x_below hi h1 h7) h2 (by rw [h5, o_nat]) rfl rfl hd1 (kk p e s m args below meth c H locs Z ls hc hn hks hr hi hlo hl)
theorem x_strB {i : Nat} {z v : Int} (hd : dok M.2.1 (pc, .baload, 1, nx, tg)) (hi9 : i < 13) (hz : 0 ≤ z ∧ z < lenq.getD i 0) (hln : lenq.getD i 0 < 100) (hv : (bytq.getD i []).getD z.toNat 0 = Int32.ofInt v) (kk : RunX l G M R nx L (vi v :: st) S ca sl Q) : RunX l G M R pc L (vi z :: vr (1030 + i) :: st) S ca sl Q := by
  intro p e s m args below meth c H locs Z ls hc hn hks hr hi hlo hl
  obtain ⟨hd1, hd2, hd3⟩ := hd
  dsimp only at hd1 hd2 hd3
  subst hd2
  obtain ⟨cell, h1, h2, h3, h4, h5, h6, h7⟩ := (hks.2.2.2.1.1 i hi9).2.2.2
  refine W.bald (v := .int (Int32.ofInt v)) hc.1 hc.2.1 (x_below hi h1 h7) h2 h3 (x_Tin hz h4 (by omega)) ?_ rfl rfl hd1 (kk p e s m args below meth c H locs Z ls hc hn hks hr hi hlo hl)
  rw [o32_ix hz.1 (by omega), ← hv]
  exact h6 _ (by omega)
theorem x_i2c {z : Int} (hd : dok M.2.1 (pc, .i2c, 1, nx, tg)) (hz : 0 ≤ z ∧ z < 65536) (kk : RunX l G M R nx L (vi z :: st) S ca sl Q) : RunX l G M R pc L (vi z :: st) S ca sl Q := by
  intro p e s m args below meth c H locs Z ls hc hn hks hr hi hlo hl
  obtain ⟨hd1, hd2, hd3⟩ := hd
  dsimp only at hd1 hd2 hd3
  subst hd2
  refine lv_i2c hc.1 hc.2.1 hd1 (v := Int32.ofInt z) ?_ (kk p e s m args below meth c H locs Z ls hc hn hks hr hi hlo hl)
  rw [pk_char, show (Int32.ofInt z).toBitVec.toNat = z.toNat by
    rw [show Int32.ofInt z = nI z.toNat by unfold nI; rw [← Int32.ofInt_eq_ofNat, Int.toNat_of_nonneg hz.1]]
    exact pk_tn (by omega), Nat.mod_eq_of_lt (by omega)]
  unfold nI
  rw [← Int32.ofInt_eq_ofNat, Int.toNat_of_nonneg hz.1]
theorem x_ldcw {z : Int} {v : Int32} {idx : Nat} (hd : dok M.2.1 (pc, .ldc_w idx, 3, nx, tg)) (hw : Jvm.Cond.constant M.1.cls idx v ∈ tbG) (hz : v = Int32.ofInt z) (kk : RunX l G M R nx L (vi z :: st) S ca sl Q) : RunX l G M R pc L st S ca sl Q := by
  intro p e s m args below meth c H locs Z ls hc hn hks hr hi hlo hl
  obtain ⟨hd1, hd2, hd3⟩ := hd
  dsimp only at hd1 hd2 hd3
  subst hd2
  refine lv_ldcw hc.1 hc.2.1 hc.2.2.2.1 (hc.2.2.2.2 _ hw) hd1 ?_
  rw [hz]
  exact kk p e s m args below meth c H locs Z ls hc hn hks hr hi hlo hl
theorem x_lret {z : Int} (hd : dok M.2.1 (pc, .lreturn, 1, nx, tg)) (hok : rokq M.2.2.2 (some (vl z))) (hq : Q (some (vl z)) S) : RunX l G M R pc L [vl z] S 0 0 Q := x_ret (r := some (vl z)) hd hok (Nat.zero_le _) (Nat.zero_le _) hq
theorem x_popr {r : Option Nat} (hd : dok M.2.1 (pc, .pop, 1, nx, tg)) (kk : RunX l G M R nx L st S ca sl Q) : RunX l G M R pc L (.inr (.inr r) :: st) S ca sl Q := by
  intro p e s m args below meth c H locs Z ls hc hn hks hr hi hlo hl
  obtain ⟨hd1, hd2, hd3⟩ := hd
  dsimp only at hd1 hd2 hd3
  subst hd2
  exact lv_pop hc.1 hc.2.1 hd1 (by cases r <;> rfl) (kk p e s m args below meth c H locs Z ls hc hn hks hr hi hlo hl)
/-- a method of a text constant is called -/
theorem x_callVS {K : MI} {d n idx i : Nat} {As rest : List AV} {Q1 : Option AV → WS → Prop} (hd : dok M.2.1 (pc, .invokevirtual idx, 3, nx, tg)) (hlk : Cond.methodLink M.1.cls idx K.1 ∈ tbG) (hm : mvq K n) (hi9 : i < 13) (hK : K.1.cls = "java/lang/String") (hct : Ct l G K d 0 0 (vr (1010 + i) :: As) S Q1) (hR : d + 1 ≤ R.frames ∧ 8 + (K.2.2.1 + 11) + 40 * d ≤ R.locals) (hca : ca + 0 ≤ R.cells ∧ sl + 0 ≤ R.slots) (hst : st = As.reverse ++ vr (1010 + i) :: rest) (hn : As.length = n) (hcat : catq rest ≤ 8)
    (kk : ∀ (r : Option AV) (S' : WS), Q1 r S' → RunX l G M R nx L (r.toList ++ rest) S' ca sl Q) : RunX l G M R pc L st S ca sl Q := by
  intro p e s m args below meth c H locs Z ls hc hnm hks hr hi hlo hl
  obtain ⟨hd1, hd2, hd3⟩ := hd
  dsimp only at hd1 hd2 hd3
  subst hd2
  subst hst
  obtain ⟨⟨m1, m2, m3⟩, m4, m5⟩ := hm
  have hT : GoodIn tbG (wsV M.1.cls idx K.1.cls K.1 (Cwq K)) := by
    intro w hw
    rcases List.mem_append.mp hw with h | h
    · simp only [List.mem_cons, List.not_mem_nil, or_false] at h
      rcases h with rfl | rfl | rfl | rfl
      · exact good_in hlk
      · exact good_in m4
      · exact good_in m5
      · exact good_in m2
    · exact Cwq_good m1 w h
  obtain ⟨cell, q1, q2, q3, q4⟩ := (hks.2.2.2.1.1 i hi9).1
  refine x_back (rest := rest) (hrun := va_runV (As := As.map (cvl G)) hc hct (cwV (bytes := K.2.1) (maxL := K.2.2.1) (ret := K.2.2.2) n hc.2.2.2.2 hT rfl rfl rfl ⟨rfl, m3⟩ hR) (b := adr G (1010 + i)) ⟨Invq.blind, ⟨cell, x_below hi q1 q4, q2, by rw [hK]; exact q3⟩, fun U hU hW => ⟨rfl, by rw [hU]; exact hi.moved hW.alike, hks.warm hW⟩⟩ rfl (by rw [List.length_map]; exact hn) hl.1 (by show List.map (cvl G) (As.reverse ++ vr (1010 + i) :: rest) = _; rw [List.map_append, List.map_reverse]; rfl) (lv_room (by rw [catq_sum]; exact hcat)) hd1 hca) hlo ?_
  intro r S' H1 locs1 hq hI hlo1
  exact kk r S' hq p e s m args below meth c H1 locs1 Z ls hc hnm hks hr hI hlo1 hl
end XS
end
section
/-! what is made: objects and arrays, the next cell -/
section XN
variable {l : Launch} {G : GC} {M : MI} {R : Room} {pc nx tg : Nat} {L : List (Option AV)} {st : List AV} {ca sl : Nat} {Q : Option AV → WS → Prop} {n0 : Nat} {ρ : Nat → Int → Option Nat} {σ : Nat → Int → Int}
theorem x_objinit {idx k : Nat} {S : WS} (hd : dok M.2.1 (pc, .invokespecial idx, 3, nx, tg)) (hlk : Cond.methodLink M.1.cls idx Lib.objectInit ∈ tbG) (h2 : Cond.instanceMethod Lib.objectInit ∈ tbG) (h3 : Cond.code Lib.objectInit ⟨#[0xb1]⟩ 1 none ∈ tbG) (hR : 1 ≤ R.frames ∧ catq st + 12 ≤ R.locals) (kk : RunX l G M R nx L st S ca sl Q) : RunX l G M R pc L (vr k :: st) S ca sl Q := by
  intro p e s m args below meth c H locs Z ls hc hn hks hr hi hlo hl
  obtain ⟨hd1, hd2, hd3⟩ := hd
  dsimp only at hd1 hd2 hd3
  subst hd2
  exact W.objInit hc.1 hc.2.1 hc.2.2.2.1 (hc.2.2.2.2 _ hlk) (hc.2.2.2.2 _ h2) (hc.2.2.2.2 _ h3) (g := F0 m pc ls (List.map (cvl G) (vr k :: st))) (rest := st.map (cvl G)) rfl (by rw [hc.2.2.1]; exact hl.1) rfl hd1 hR.1 (by rw [catq_sum]; show 2 * 0 + _ + 12 ≤ _; omega) (kk p e s m args below meth c H locs Z ls hc hn hks hr hi hlo hl)
/-- a new cell behind the others -/
theorem Invq.push {U : State} {H H' : Heap} {ρ' : Nat → Int → Option Nat} {σ' : Nat → Int → Int} (h : Invq G (n0, ρ, σ) U H) (h9 : n0 + 1 ≤ 175) (hs : H'.size = H.size + 1) (ho : ∀ q, q < H.size → H'[q]? = H[q]?) (hρ : ∀ a, a < n0 → ρ' a = ρ a) (hσ : ∀ a, a < n0 → σ' a = σ a) (hc : cellq G ρ' σ' U H' n0) : Invq G (n0 + 1, ρ', σ') U H' := by
  obtain ⟨⟨h1, h0⟩, h2, h3⟩ := h
  have h1 : H.size = G.1 + n0 := h1
  refine ⟨⟨by rw [hs, h1]; omega, h9⟩, fun q hq => ?_, fun a ha => ?_⟩
  · rw [ho q (by omega)]; exact h2 q hq
  · by_cases e : a = n0
    · subst e; exact hc
    · have ha : a < n0 + 1 := ha
      have ha2 : a < n0 := by omega
      refine (h3 a ha2).kept (ho _ ?_) (hρ a ha2) (hσ a ha2)
      rw [adr_lt (by omega)]; omega
theorem x_new {idx ci N : Nat} {C : String} {T : u_T} {ty : Nat → FieldType} (hd : dok M.2.1 (pc, .new idx, 3, nx, tg)) (hcl : clkq ci C T N ty) (hty : ∀ j, j < N → (fI ci j = true → ty j = .int) ∧ (fI ci j = false → (∃ n, ty j = .object n) ∨ ∃ t, ty j = .array t)) (hlk : Cond.classLink M.1.cls idx C ∈ tbG) (h2 : Cond.instantiable C N ∈ tbG) (h3 : Cond.initialized C ∈ tbG) (hs : shp n0 = (ci, N)) (h9 : n0 + 1 ≤ 175) (hca : ca + 1 ≤ R.cells ∧ sl + N ≤ R.slots) (hz : σ n0 = fun _ => 0) (hρ : ρ n0 = fun _ => none) (kk : RunX l G M R nx L (vr n0 :: st) (n0 + 1, ρ, σ) (ca + 1) (sl + N) Q) : RunX l G M R pc L st (n0, ρ, σ) ca sl Q := by
  intro p e s m args below meth c H locs Z ls hc hn hks hr hi hlo hl
  obtain ⟨hd1, hd2, hd3⟩ := hd
  dsimp only at hd1 hd2 hd3
  subst hd2
  obtain ⟨hcl, hin, hpt, hnm, hci⟩ := hcl
  have hKn := hks.1.1 ci _ hcl
  have hsz : H.size = adr G n0 := by rw [adr_lt (by omega)]; exact hi.1.1
  refine W.newcK hc.1 hc.2.1 hc.2.2.2.1 (hc.2.2.2.2 _ hlk) (hc.2.2.2.2 _ h2) (hc.2.2.2.2 _ h3) rfl hd1 hca.1 hca.2 hKn.2.1 hsz (fun H1 kC hkC e1 z1 o1 => ?_)
  have hI : Invq G (n0 + 1, ρ, σ) s H1 := by
    refine hi.push h9 (by rw [z1, ← hsz]) (fun q hq => o1 q (by rw [← hsz]; exact hq)) (fun _ _ => rfl) (fun _ _ => rfl) ?_
    rw [cellq_obj hci hs]
    refine (u_born ty hc.2.2.2.2 hin hKn hkC e1 hpt).to (fun j hj => ?_)
    unfold fvl
    rw [hz, hρ]
    cases hf : fI ci j with
    | true => rw [(hty j hj).1 hf, if_pos rfl]; rfl
    | false =>
      rw [if_neg (by decide)]
      rcases (hty j hj).2 hf with ⟨n, h⟩ | ⟨n, h⟩ <;> rw [h] <;> rfl
  exact kk p e s m args below meth c H1 locs Z ls hc hn hks hr hI hlo hl
theorem o32_cl {z : Int} {N : Nat} (h : z = (N : Int)) (hN : N ≤ 256) : ¬ Int32.ofInt z < 0 ∧ (Int32.ofInt z).toNatClampNeg = N := by
  subst h
  rw [o32_0, o32_lt (by omega) (by decide), o32_ix (by omega) (by omega)]
  omega
theorem x_newa {at9 : ArrayType} {ty : FieldType} {kd N : Nat} {z : Int} (hd : dok M.2.1 (pc, .newarray at9, 2, nx, tg)) (ht : newarray.typeOf at9 = ty) (hkd : (kd = 12 ∧ ty = .int) ∨ (kd = 13 ∧ ty = .boolean) ∨ (kd = 14 ∧ ty = .long)) (hw : Cond.arrayClass ty ∈ tbG) (hzN : z = (N : Int)) (hN : N ≤ 256) (hs : shp n0 = (kd, N)) (h9 : n0 + 1 ≤ 175) (hca : ca + 1 ≤ R.cells ∧ sl + N ≤ R.slots) (hz : σ n0 = fun _ => 0) (kk : RunX l G M R nx L (vr n0 :: st) (n0 + 1, ρ, σ) (ca + 1) (sl + N) Q) : RunX l G M R pc L (vi z :: st) (n0, ρ, σ) ca sl Q := by
  intro p e s m args below meth c H locs Z ls hc hn hks hr hi hlo hl
  obtain ⟨hd1, hd2, hd3⟩ := hd
  dsimp only at hd1 hd2 hd3
  subst hd2
  subst ht
  have hsz : H.size = adr G n0 := by rw [adr_lt (by omega)]; exact hi.1.1
  obtain ⟨hz1, hz2⟩ := o32_cl hzN hN
  refine va_newaK hc.1 hc.2.1 (hc.2.2.2.2 _ hw) rfl hd1 (rest := st.map (cvl G)) rfl hz1 hz2 ?_ hca.1 hca.2 hsz (fun H1 cA e1 z1 o1 hAr hNm => ?_)
  · rcases hkd with ⟨-, h⟩ | ⟨-, h⟩ | ⟨-, h⟩ <;> rw [h] <;> simp [componentBytes] <;> omega
  have hI : Invq G (n0 + 1, ρ, σ) s H1 := by
    refine hi.push h9 (by rw [z1, ← hsz]) (fun q hq => o1 q (by rw [← hsz]; exact hq)) (fun _ _ => rfl) (fun _ _ => rfl) ?_
    unfold cellq
    rw [hs]
    rcases hkd with ⟨rfl, h⟩ | ⟨rfl, h⟩ | ⟨rfl, h⟩
    · rw [h] at e1 hAr
      refine ⟨cA, ?_, hAr⟩
      rw [e1, hz]; rfl
    · rw [h] at e1 hAr
      refine ⟨cA, ?_, hAr⟩
      rw [e1, hz]; rfl
    · rw [h] at e1 hAr
      refine ⟨cA, ?_, hAr⟩
      rw [e1, hz]; rfl
  exact kk p e s m args below meth c H1 locs Z ls hc hn hks hr hI hlo hl
theorem vr_outer2 (c : ClassId) (N h0 : Nat) : ∀ i : Nat, Jvm.Free.Multi.outerC c N h0 i = arrV c N (fun j => va_rf (if j < i then some (h0 + 1 + j) else none))
  | 0 => by
    show ({ cls := c, slots := Array.replicate N .null, vm := .none } : Cell) = _
    rw [arrV_new]
    refine congrArg (arrV c N) (funext fun j => ?_)
    simp [va_rf]
  | i + 1 => by
    show (Jvm.Free.Multi.outerC c N h0 i).setSlot i (.ref (h0 + 1 + i)) = _
    rw [vr_outer2 c N h0 i, arrV_store]
    refine congrArg (arrV c N) (funext fun j => ?_)
    by_cases e : j = i
    · subst e
      simp [updV, va_rf]
    · by_cases h : j < i
      · simp [updV, e, h, Nat.lt_succ_of_lt h]
      · simp [updV, e, h, show ¬ j < i + 1 by omega]
/-- new int[8][K]: the outer array, then its rows -/
theorem x_mna {idx K : Nat} {z w : Int} (hd : dok M.2.1 (pc, .multianewarray idx 2, 4, nx, tg)) (hlk : Cond.classLink M.1.cls idx "[[I" ∈ tbG) (har : Cond.arrayClass .int ∈ tbG) (hz8 : z = 8) (hwK : w = (K : Int)) (hK : K ≤ 256) (hs : shp n0 = (15, 8)) (hsr : ∀ i, i < 8 → shp (n0 + 1 + i) = (12, K)) (h9 : n0 + 9 ≤ 175) (hca : ca + 9 ≤ R.cells ∧ sl + (8 + 8 * K) ≤ R.slots) (hz : ∀ i, i < 9 → σ (n0 + i) = fun _ => 0) {ρ' : Nat → Int → Option Nat} (hρ : ∀ a, a < n0 → ρ' a = ρ a) (hρn : ∀ j : Nat, j < 8 → ρ' n0 j = some (n0 + 1 + j)) (kk : RunX l G M R nx L (vr n0 :: st) (n0 + 9, ρ', σ) (ca + 9) (sl + (8 + 8 * K)) Q) : RunX l G M R pc L (vi w :: vi z :: st) (n0, ρ, σ) ca sl Q := by
  intro p e s m args below meth c H locs Z ls hc hn hks hr hi hlo hl
  obtain ⟨hd1, hd2, hd3⟩ := hd
  dsimp only at hd1 hd2 hd3
  subst hd2
  have hsz : H.size = G.1 + n0 := hi.1.1
  obtain ⟨hz1, hz2⟩ := o32_cl (N := 8) (z := z) hz8 (by decide)
  obtain ⟨hw1, hw2⟩ := o32_cl hwK hK
  intro T hT Xs
  obtain ⟨vm₁, cA, comp, -, fA, fC, hO, hIn, X', step⟩ := Xs.multianewarray2F (ty := .int) hc.1 hc.2.2.2.1 (hc.2.2.2.2 _ hlk) hks.2.2.2.2.2.2.2.2.use (hc.2.2.2.2 _ har) (g := F0 m pc ls (List.map (cvl G) (vi w :: vi z :: st))) rfl (by rw [hc.2.1]; exact hd1) (rest := st.map (cvl G)) rfl hz1 hw1 (by rw [hz2]; decide) (by rw [hw2]; simp [componentBytes]; omega) (by rw [hw2]; omega) rfl rfl (by rw [hz2]; exact hca.1) (by rw [hz2, hw2]; exact hca.2)
  rw [hz2, hw2] at X' step
  generalize hF : Jvm.Free.Multi.fill (T.setVm vm₁) cA comp 8 K (defaultValue .int) 8 = F at X' step
  have hTh : (T.setVm vm₁).heap = H := hT
  obtain ⟨f1, f2, -, -⟩ := Jvm.Free.Multi.fill_facts (T.setVm vm₁) cA comp 8 K (defaultValue .int) 8
  rw [hF, hTh] at f1 f2
  have hold : ∀ x : Nat, x < H.size → F.heap[x]? = H[x]? := fun x hx => by
    have := Jvm.Free.Multi.fill_old (T.setVm vm₁) cA comp 8 K (defaultValue .int) (a := x) (by rw [hTh]; exact hx) 8
    rw [hF, hTh] at this
    exact this
  have hrow : ∀ j : Nat, j < 8 → F.heap[H.size + 1 + j]? = some (arrV comp K (fun _ => .int 0)) := fun j hj => by
    have := Jvm.Free.Multi.fill_inner (T.setVm vm₁) cA comp 8 K (defaultValue .int) 8 j hj
    rw [hF, hTh] at this
    rw [this]
    show some ({ cls := comp, slots := Array.replicate K _, vm := .none } : Cell) = _
    rw [arrV_new]; rfl
  rw [vr_outer2] at f2
  have hAr : ArrOfT s cA (.array .int) := fun N9 z9 => by
    obtain ⟨-, k9, hk9, cm9, hkk9⟩ := (hO 0 0 0).1
    exact ⟨(fun q hq => by cases hq), k9, hk9, cm9, hkk9⟩
  have hArI : ArrOfT s comp .int := fun N9 z9 => by
    obtain ⟨-, k9, hk9, cm9, hkk9⟩ := (hIn 0 .null).1
    exact ⟨(fun q hq => by cases hq), k9, hk9, cm9, hkk9⟩
  have hI : Invq G (n0 + 9, ρ', σ) s F.heap := by
    refine ⟨⟨by rw [f1, hsz]; omega, h9⟩, fun q hq => by rw [hold q (by omega)]; exact hi.2.1 q hq, fun a ha => ?_⟩
    have ha : a < n0 + 9 := ha
    by_cases e1 : a < n0
    · refine (hi.2.2 a e1).kept (hold _ ?_) (hρ a e1) rfl
      rw [adr_lt (by omega)]; omega
    · by_cases e2 : a = n0
      · subst e2
        unfold cellq
        rw [hs]
        refine ⟨cA, ?_, hAr⟩
        rw [adr_lt (by omega), ← hsz, f2]
        refine congrArg some ?_
        unfold arrV
        congr 1
        refine congrArg (Array.ofFn (n := 8)) (funext fun j => ?_)
        show va_rf _ = crf G (ρ' a _)
        rw [hρn j.val j.isLt, if_pos j.isLt]
        show Value.ref (H.size + 1 + j.val) = .ref (adr G (a + 1 + j.val))
        rw [adr_lt (by omega), hsz]
        exact congrArg Value.ref (show (G.1 + a + 1 + j.val : Nat) = G.1 + (a + 1 + j.val) by omega)
      · obtain ⟨i, hi8, rfl⟩ : ∃ i, i < 8 ∧ a = n0 + 1 + i := ⟨a - n0 - 1, by omega, by omega⟩
        unfold cellq
        rw [hsr i hi8]
        refine ⟨comp, ?_, hArI⟩
        have hzi := hz (i + 1) (by omega)
        rw [show n0 + (i + 1) = n0 + 1 + i by omega] at hzi
        rw [adr_lt (by omega), show G.1 + (n0 + 1 + i) = H.size + 1 + i by omega, hrow i hi8]
        show _ = some (arrV comp K fun j => Value.int (Int32.ofInt (σ (n0 + 1 + i) j)))
        rw [hzi]
        rfl
  rw [show sl + 8 + 8 * K = sl + (8 + 8 * K) by omega] at X'
  obtain ⟨t, a1, b1⟩ := kk p e s m args below meth c F.heap locs Z ls hc hn hks hr hI hlo hl F rfl X'
  refine ⟨t, step t ?_, b1⟩
  have e : T.heap.size = adr G n0 := by rw [hT, adr_lt (by omega)]; exact hsz
  rw [e]
  exact a1
end XN
end
section
theorem nthq_mem {α : Type} : ∀ {l : List α} {i : Nat} {a : α}, nthq l i = some a → a ∈ l
  | [], i, a, h => by cases h
  | b :: l, 0, a, h => by cases h; exact List.mem_cons_self
  | b :: l, i + 1, a, h => List.mem_cons_of_mem _ (nthq_mem (l := l) (i := i) h)
theorem tbT {w : Cond} (h : w ∈ tables_1) (hg : goodWord w = true) : w ∈ tbG := List.mem_filter.mpr ⟨List.mem_append_right _ h, hg⟩
theorem tb1 (i : Nat) {w : Cond} (hi : nthq tables_1_1 i = some w) (hg : goodWord w = true) : w ∈ tbG := by
  have h := nthq_mem hi
  exact tbT (List.mem_append_left _ (h)) hg
theorem tb2 (i : Nat) {w : Cond} (hi : nthq tables_1_2 i = some w) (hg : goodWord w = true) : w ∈ tbG := by
  have h := nthq_mem hi
  exact tbT (List.mem_append_right _ (List.mem_append_left _ (h))) hg
theorem tb3 (i : Nat) {w : Cond} (hi : nthq tables_1_3 i = some w) (hg : goodWord w = true) : w ∈ tbG := by
  have h := nthq_mem hi
  exact tbT (List.mem_append_right _ (List.mem_append_right _ (List.mem_append_left _ (h)))) hg
theorem tb4 (i : Nat) {w : Cond} (hi : nthq tables_1_4 i = some w) (hg : goodWord w = true) : w ∈ tbG := by
  have h := nthq_mem hi
  exact tbT (List.mem_append_right _ (List.mem_append_right _ (List.mem_append_right _ (List.mem_append_left _ (h))))) hg
theorem tb5 (i : Nat) {w : Cond} (hi : nthq tables_1_5 i = some w) (hg : goodWord w = true) : w ∈ tbG := by
  have h := nthq_mem hi
  exact tbT (List.mem_append_right _ (List.mem_append_right _ (List.mem_append_right _ (List.mem_append_right _ (List.mem_append_left _ (h)))))) hg
theorem tb6 (i : Nat) {w : Cond} (hi : nthq tables_1_6 i = some w) (hg : goodWord w = true) : w ∈ tbG := by
  have h := nthq_mem hi
  exact tbT (List.mem_append_right _ (List.mem_append_right _ (List.mem_append_right _ (List.mem_append_right _ (List.mem_append_right _ (List.mem_append_left _ (h))))))) hg
theorem tb7 (i : Nat) {w : Cond} (hi : nthq tables_1_7 i = some w) (hg : goodWord w = true) : w ∈ tbG := by
  have h := nthq_mem hi
  exact tbT (List.mem_append_right _ (List.mem_append_right _ (List.mem_append_right _ (List.mem_append_right _ (List.mem_append_right _ (List.mem_append_right _ (h))))))) hg
theorem tbP {q : MethodName × Nat} (h : q ∈ lw_privs) : Cond.selects q.1.cls q.1 q.1 ∈ tbG := List.mem_filter.mpr ⟨List.mem_append_left _ (List.mem_map.mpr ⟨q, h, rfl⟩), rfl⟩
abbrev M_X0_init : MI := (⟨RX0, "<init>", "()V"⟩, prog_2_method_1_code, 1, none)
abbrev M_X0_find : MI := (⟨RX0, "find", "(LWharfPapers$Story;II)V"⟩, prog_2_method_2_code, 7, none)
abbrev M_X0_isOf : MI := (⟨RX0, "isOf", "(LWharfPapers$Story;II)Z"⟩, prog_2_method_3_code, 4, some .boolean)
abbrev M_X0_fewest : MI := (⟨RX0, "fewest", "(I)I"⟩, prog_2_method_4_code, 6, some .int)
abbrev M_X0_at : MI := (⟨RX0, "at", "(I)I"⟩, prog_2_method_5_code, 2, some .int)
abbrev M_X1_init : MI := (⟨RX1, "<init>", "()V"⟩, prog_3_method_1_code, 1, none)
abbrev M_X1_add : MI := (⟨RX1, "add", "(III)I"⟩, prog_3_method_2_code, 4, some .int)
abbrev M_X1_settle : MI := (⟨RX1, "settle", "()V"⟩, prog_3_method_3_code, 3, none)
abbrev M_X1_begin : MI := (⟨RX1, "begin", "()V"⟩, prog_3_method_4_code, 2, none)
abbrev M_X1_isRoundChanging : MI := (⟨RX1, "isRoundChanging", "()Z"⟩, prog_3_method_5_code, 4, some .boolean)
abbrev M_X1_partOf : MI := (⟨RX1, "partOf", "(II)I"⟩, prog_3_method_6_code, 3, some .int)
abbrev M_X1_receive : MI := (⟨RX1, "receive", "()V"⟩, prog_3_method_7_code, 2, none)
abbrev M_X1_givenBy : MI := (⟨RX1, "givenBy", "(I)I"⟩, prog_3_method_8_code, 4, some .int)
abbrev M_X1_failedCount : MI := (⟨RX1, "failedCount", "()I"⟩, prog_3_method_9_code, 3, some .int)
abbrev M_X2_init : MI := (⟨RX2, "<init>", "()V"⟩, prog_4_method_1_code, 1, none)
abbrev M_X2_has : MI := (⟨RX2, "has", "(I)Z"⟩, prog_4_method_2_code, 2, some .boolean)
abbrev M_X2_isPaper : MI := (⟨RX2, "isPaper", "(I)Z"⟩, prog_4_method_3_code, 2, some .boolean)
abbrev M_X2_add : MI := (⟨RX2, "add", "(IIIIIII)I"⟩, prog_4_method_4_code, 10, some .int)
abbrev M_X2_know : MI := (⟨RX2, "know", "(I)V"⟩, prog_4_method_5_code, 3, none)
abbrev M_X2_isInBook : MI := (⟨RX2, "isInBook", "(I)Z"⟩, prog_4_method_6_code, 2, some .boolean)
abbrev M_X2_inBookAt : MI := (⟨RX2, "inBookAt", "(I)I"⟩, prog_4_method_7_code, 4, some .int)
abbrev M_X2_voidCount : MI := (⟨RX2, "voidCount", "()I"⟩, prog_4_method_8_code, 3, some .int)
abbrev M_X3_init : MI := (⟨RX3, "<init>", "()V"⟩, prog_5_method_1_code, 1, none)
abbrev M_X3_has : MI := (⟨RX3, "has", "(I)Z"⟩, prog_5_method_2_code, 2, some .boolean)
abbrev M_X3_add : MI := (⟨RX3, "add", "(IIIII)I"⟩, prog_5_method_3_code, 7, some .int)
abbrev M_X4_init : MI := (⟨RX4, "<init>", "()V"⟩, prog_6_method_1_code, 1, none)
abbrev M_X4_lay : MI := (⟨RX4, "lay", "(ILWharfPapers$Lots;LWharfPapers$Story;[I[I)V"⟩, prog_6_method_2_code, 11, none)
abbrev M_X4_choose : MI := (⟨RX4, "choose", "(II)V"⟩, prog_6_method_3_code, 4, none)
abbrev M_X4_gather : MI := (⟨RX4, "gather", "(LWharfPapers$Lots;LWharfPapers$Story;)V"⟩, prog_6_method_4_code, 6, none)
abbrev M_X4_priceOn : MI := (⟨RX4, "priceOn", "(ILWharfPapers$Lots;LWharfPapers$Story;)V"⟩, prog_6_method_5_code, 9, none)
abbrev M_X4_shut : MI := (⟨RX4, "shut", "(II[I)V"⟩, prog_6_method_6_code, 5, none)
abbrev M_X4_isParted : MI := (⟨RX4, "isParted", "(II[I)Z"⟩, prog_6_method_7_code, 5, some .boolean)
abbrev M_X4_openFloor : MI := (⟨RX4, "openFloor", "()V"⟩, prog_6_method_8_code, 4, none)
abbrev M_X4_isFound : MI := (⟨RX4, "isFound", "()Z"⟩, prog_6_method_9_code, 1, some .boolean)
abbrev M_X4_moved : MI := (⟨RX4, "moved", "()I"⟩, prog_6_method_10_code, 1, some .int)
abbrev M_X4_floorOf : MI := (⟨RX4, "floorOf", "(I)I"⟩, prog_6_method_11_code, 2, some .int)
abbrev M_X5_init : MI := (⟨RX5, "<init>", "()V"⟩, prog_7_method_1_code, 1, none)
abbrev M_X5_add : MI := (⟨RX5, "add", "(I)V"⟩, prog_7_method_2_code, 2, none)
abbrev M_X5_read : MI := (⟨RX5, "read", "(I)V"⟩, prog_7_method_3_code, 3, none)
abbrev M_X5_readClause : MI := (⟨RX5, "readClause", "(I)V"⟩, prog_7_method_4_code, 3, none)
abbrev M_X5_readLet : MI := (⟨RX5, "readLet", "()V"⟩, prog_7_method_5_code, 2, none)
abbrev M_X5_readDry : MI := (⟨RX5, "readDry", "()V"⟩, prog_7_method_6_code, 2, none)
abbrev M_X5_takeTerm : MI := (⟨RX5, "takeTerm", "(I)I"⟩, prog_7_method_7_code, 3, some .int)
abbrev M_X5_takeKeys : MI := (⟨RX5, "takeKeys", "()I"⟩, prog_7_method_8_code, 6, some .int)
abbrev M_X5_keep : MI := (⟨RX5, "keep", "(II)V"⟩, prog_7_method_9_code, 3, none)
abbrev M_X5_takeIf : MI := (⟨RX5, "takeIf", "(C)Z"⟩, prog_7_method_10_code, 2, some .boolean)
abbrev M_X5_takeWord : MI := (⟨RX5, "takeWord", "(II)I"⟩, prog_7_method_11_code, 5, some .int)
abbrev M_X5_isSpelled : MI := (⟨RX5, "isSpelled", "(Ljava/lang/String;I)Z"⟩, prog_7_method_12_code, 4, some .boolean)
abbrev M_X5_takeNumber : MI := (⟨RX5, "takeNumber", "(I)I"⟩, prog_7_method_13_code, 4, some .int)
abbrev M_X5_skipBlanks : MI := (⟨RX5, "skipBlanks", "()V"⟩, prog_7_method_14_code, 1, none)
abbrev M_X5_fail : MI := (⟨RX5, "fail", "(II)V"⟩, prog_7_method_15_code, 3, none)
abbrev M_X5_spelling : MI := (⟨RX5, "spelling", "(I)Ljava/lang/String;"⟩, prog_7_method_16_code, 1, some (.object "java/lang/String"))
abbrev M_X6_init : MI := (⟨RX6, "<init>", "()V"⟩, prog_8_method_1_code, 1, none)
abbrev M_X6_add : MI := (⟨RX6, "add", "(IIII)I"⟩, prog_8_method_2_code, 5, some .int)
abbrev M_X6_netOf : MI := (⟨RX6, "netOf", "(II)I"⟩, prog_8_method_3_code, 5, some .int)
abbrev M_X6_fewestHandings : MI := (⟨RX6, "fewestHandings", "(I)I"⟩, prog_8_method_4_code, 5, some .int)
abbrev M_X6_mostGroups : MI := (⟨RX6, "mostGroups", "(I)I"⟩, prog_8_method_5_code, 7, some .int)
abbrev M_X7_init : MI := (⟨RX7, "<init>", "(LWharfPapers$Lots;LWharfPapers$Lines;LWharfPapers$Terms;)V"⟩, prog_9_method_1_code, 4, none)
abbrev M_X7_tell : MI := (⟨RX7, "tell", "(II)V"⟩, prog_9_method_2_code, 5, none)
abbrev M_X7_clear : MI := (⟨RX7, "clear", "()V"⟩, prog_9_method_3_code, 2, none)
abbrev M_X7_isDone : MI := (⟨RX7, "isDone", "(I)Z"⟩, prog_9_method_4_code, 5, some .boolean)
abbrev M_X7_issue : MI := (⟨RX7, "issue", "(II)Z"⟩, prog_9_method_5_code, 3, some .boolean)
abbrev M_X7_make : MI := (⟨RX7, "make", "(IIIII)V"⟩, prog_9_method_6_code, 6, none)
abbrev M_X7_burn : MI := (⟨RX7, "burn", "(II)Z"⟩, prog_9_method_7_code, 3, some .boolean)
abbrev M_X7_pass : MI := (⟨RX7, "pass", "(II)Z"⟩, prog_9_method_8_code, 6, some .boolean)
abbrev M_X7_divide : MI := (⟨RX7, "divide", "(II)Z"⟩, prog_9_method_9_code, 3, some .boolean)
abbrev M_X7_isBound : MI := (⟨RX7, "isBound", "(I)Z"⟩, prog_9_method_10_code, 2, some .boolean)
abbrev M_X7_lend : MI := (⟨RX7, "lend", "(II)Z"⟩, prog_9_method_11_code, 3, some .boolean)
abbrev M_X7_repay : MI := (⟨RX7, "repay", "(I)Z"⟩, prog_9_method_12_code, 2, some .boolean)
abbrev M_X7_stop : MI := (⟨RX7, "stop", "(II)Z"⟩, prog_9_method_13_code, 3, some .boolean)
abbrev M_X7_free : MI := (⟨RX7, "free", "(I)Z"⟩, prog_9_method_14_code, 2, some .boolean)
abbrev M_X7_handOut : MI := (⟨RX7, "handOut", "(II)Z"⟩, prog_9_method_15_code, 5, some .boolean)
abbrev M_X7_steal : MI := (⟨RX7, "steal", "(II)Z"⟩, prog_9_method_16_code, 3, some .boolean)
abbrev M_X7_thereOf : MI := (⟨RX7, "thereOf", "(I)I"⟩, prog_9_method_17_code, 2, some .int)
abbrev M_X7_overOf : MI := (⟨RX7, "overOf", "(I)I"⟩, prog_9_method_18_code, 2, some .int)
abbrev M_X7_vainCount : MI := (⟨RX7, "vainCount", "()I"⟩, prog_9_method_19_code, 3, some .int)
abbrev M_X7_papersWithCasks : MI := (⟨RX7, "papersWithCasks", "(I)I"⟩, prog_9_method_20_code, 4, some .int)
abbrev M_X7_casksOf : MI := (⟨RX7, "casksOf", "(IIZ)I"⟩, prog_9_method_21_code, 6, some .int)
abbrev M_X7_lentOn : MI := (⟨RX7, "lentOn", "(I)I"⟩, prog_9_method_22_code, 4, some .int)
abbrev M_X7_unlike : MI := (⟨RX7, "unlike", "(LWharfPapers$Story;)I"⟩, prog_9_method_23_code, 5, some .int)
abbrev M_X7_isHadOtherwise : MI := (⟨RX7, "isHadOtherwise", "(LWharfPapers$Story;I)Z"⟩, prog_9_method_24_code, 3, some .boolean)
abbrev M_X8_init : MI := (⟨RX8, "<init>", "()V"⟩, prog_10_method_1_code, 1, none)
abbrev M_X8_add : MI := (⟨RX8, "add", "(ILWharfPapers$Reader;)I"⟩, prog_10_method_2_code, 5, some .int)
abbrev M_X8_on : MI := (⟨RX8, "on", "(II)I"⟩, prog_10_method_3_code, 3, some .int)
abbrev M_X8_keyOn : MI := (⟨RX8, "keyOn", "(II)I"⟩, prog_10_method_4_code, 3, some .int)
abbrev M_X8_keysOn : MI := (⟨RX8, "keysOn", "(I)I"⟩, prog_10_method_5_code, 4, some .int)
abbrev M_X8_hold : MI := (⟨RX8, "hold", "(I)V"⟩, prog_10_method_6_code, 4, none)
abbrev M_X8_strike : MI := (⟨RX8, "strike", "(I)V"⟩, prog_10_method_7_code, 5, none)
abbrev M_X8_rule : MI := (⟨RX8, "rule", "(I)V"⟩, prog_10_method_8_code, 3, none)
abbrev M_X9_init : MI := (⟨RX9, "<init>", "()V"⟩, prog_11_method_1_code, 1, none)
abbrev M_X9_add : MI := (⟨RX9, "add", "(IIII)I"⟩, prog_11_method_2_code, 5, some .int)
abbrev M_X10_init : MI := (⟨RX10, "<init>", "()V"⟩, prog_1_method_1_code, 2, none)
abbrev M_X10_go : MI := (⟨RX10, "go", "(I)I"⟩, prog_1_method_2_code, 2, some .int)
abbrev M_X10_lot : MI := (⟨RX10, "lot", "(IIIII)I"⟩, prog_1_method_3_code, 6, some .int)
abbrev M_X10_room : MI := (⟨RX10, "room", "(II)I"⟩, prog_1_method_4_code, 4, some .int)
abbrev M_X10_move : MI := (⟨RX10, "move", "(II)I"⟩, prog_1_method_5_code, 4, some .int)
abbrev M_X10_line : MI := (⟨RX10, "line", "(IIIIII)I"⟩, prog_1_method_6_code, 10, some .int)
abbrev M_X10_told : MI := (⟨RX10, "told", "(II)I"⟩, prog_1_method_7_code, 3, some .int)
abbrev M_X10_book : MI := (⟨RX10, "book", "(II)I"⟩, prog_1_method_8_code, 3, some .int)
abbrev M_X10_count : MI := (⟨RX10, "count", "(I)I"⟩, prog_1_method_9_code, 2, some .int)
abbrev M_X10_feed : MI := (⟨RX10, "feed", "(IJ)I"⟩, prog_1_method_10_code, 5, some .int)
abbrev M_X10_term : MI := (⟨RX10, "term", "(I)I"⟩, prog_1_method_11_code, 2, some .int)
abbrev M_X10_fault : MI := (⟨RX10, "fault", "()I"⟩, prog_1_method_12_code, 1, some .int)
abbrev M_X10_force : MI := (⟨RX10, "force", "(II)I"⟩, prog_1_method_13_code, 3, some .int)
abbrev M_X10_paper : MI := (⟨RX10, "paper", "(IIII)I"⟩, prog_1_method_14_code, 5, some .int)
abbrev M_X10_goods : MI := (⟨RX10, "goods", "(IIII)I"⟩, prog_1_method_15_code, 5, some .int)
abbrev M_X10_share : MI := (⟨RX10, "share", "(IIII)I"⟩, prog_1_method_16_code, 5, some .int)
abbrev M_X10_doubt : MI := (⟨RX10, "doubt", "(IIII)I"⟩, prog_1_method_17_code, 5, some .int)
abbrev M_X10_stock : MI := (⟨RX10, "stock", "(III)I"⟩, prog_1_method_18_code, 4, some .int)
abbrev M_X10_news : MI := (⟨RX10, "news", "(III)I"⟩, prog_1_method_19_code, 4, some .int)
abbrev M_X10_rent : MI := (⟨RX10, "rent", "(II)I"⟩, prog_1_method_20_code, 3, some .int)
abbrev M_X10_weight : MI := (⟨RX10, "weight", "(II)I"⟩, prog_1_method_21_code, 3, some .int)
abbrev M_X10_weigh : MI := (⟨RX10, "weigh", "(III)I"⟩, prog_1_method_22_code, 4, some .int)
abbrev M_X10_loss : MI := (⟨RX10, "loss", "(II)I"⟩, prog_1_method_23_code, 7, some .int)
abbrev M_X10_unpaid : MI := (⟨RX10, "unpaid", "(III)I"⟩, prog_1_method_24_code, 5, some .int)
abbrev M_X10_money : MI := (⟨RX10, "money", "(IIII)I"⟩, prog_1_method_25_code, 9, some .int)
abbrev M_X10_sale : MI := (⟨RX10, "sale", "(IIII)I"⟩, prog_1_method_26_code, 5, some .int)
abbrev M_X10_net : MI := (⟨RX10, "net", "(II)I"⟩, prog_1_method_27_code, 3, some .int)
abbrev M_X10_handings : MI := (⟨RX10, "handings", "(I)I"⟩, prog_1_method_28_code, 2, some .int)
abbrev M_X10_due : MI := (⟨RX10, "due", "(III)I"⟩, prog_1_method_29_code, 4, some .int)
abbrev M_X10_coin : MI := (⟨RX10, "coin", "(II)I"⟩, prog_1_method_30_code, 4, some .int)
abbrev M_X10_fails : MI := (⟨RX10, "fails", "(II)I"⟩, prog_1_method_31_code, 3, some .int)
abbrev M_X10_part : MI := (⟨RX10, "part", "(IIZ)I"⟩, prog_1_method_32_code, 5, some .int)
abbrev M_X10_plan : MI := (⟨RX10, "plan", "(II)I"⟩, prog_1_method_33_code, 3, some .int)
abbrev M_X10_within : MI := (⟨RX10, "within", "(III)Z"⟩, prog_1_method_34_code, 3, some .boolean)
abbrev M_X10_isHouse : MI := (⟨RX10, "isHouse", "(I)Z"⟩, prog_1_method_35_code, 1, some .boolean)
abbrev M_X10_isFloor : MI := (⟨RX10, "isFloor", "(I)Z"⟩, prog_1_method_36_code, 1, some .boolean)
abbrev M_X10_isSort : MI := (⟨RX10, "isSort", "(I)Z"⟩, prog_1_method_37_code, 1, some .boolean)
abbrev M_X10_isDay : MI := (⟨RX10, "isDay", "(I)Z"⟩, prog_1_method_38_code, 1, some .boolean)
abbrev M_X10_isTarget : MI := (⟨RX10, "isTarget", "(II)Z"⟩, prog_1_method_39_code, 3, some .boolean)
abbrev M_X10_isAsked : MI := (⟨RX10, "isAsked", "(II)Z"⟩, prog_1_method_40_code, 3, some .boolean)
abbrev M_X10_shareAsTold : MI := (⟨RX10, "shareAsTold", "(IZ)I"⟩, prog_1_method_41_code, 7, some .int)
abbrev M_X10_commonDivisor : MI := (⟨RX10, "commonDivisor", "(II)I"⟩, prog_1_method_42_code, 6, some .int)
abbrev M_X10_rentAsTold : MI := (⟨RX10, "rentAsTold", "(II)I"⟩, prog_1_method_43_code, 4, some .int)
abbrev M_X10_caskWeight : MI := (⟨RX10, "caskWeight", "(II)I"⟩, prog_1_method_44_code, 5, some .int)
abbrev M_X10_wanted : MI := (⟨RX10, "wanted", "(IIII)I"⟩, prog_1_method_45_code, 5, some .int)
abbrev M_X10_unpaidFor : MI := (⟨RX10, "unpaidFor", "(I)I"⟩, prog_1_method_46_code, 4, some .int)
abbrev M_X11_init : MI := (⟨RX11, "<init>", "()V"⟩, prog_13_method_1_code, 2, none)
abbrev M_X11_in : MI := (⟨RX11, "in", "(JJJ)Z"⟩, prog_13_method_3_code, 6, some .boolean)
abbrev M_X11_one : MI := (⟨RX11, "one", "(Z)I"⟩, prog_13_method_4_code, 1, some .int)
abbrev M_X11_isHouse : MI := (⟨RX11, "isHouse", "(I)Z"⟩, prog_13_method_5_code, 1, some .boolean)
abbrev M_X11_isFloor : MI := (⟨RX11, "isFloor", "(I)Z"⟩, prog_13_method_6_code, 1, some .boolean)
abbrev M_X11_isDay : MI := (⟨RX11, "isDay", "(I)Z"⟩, prog_13_method_7_code, 1, some .boolean)
abbrev M_X11_isKnown : MI := (⟨RX11, "isKnown", "(I)Z"⟩, prog_13_method_8_code, 2, some .boolean)
abbrev M_X11_gcd : MI := (⟨RX11, "gcd", "(II)I"⟩, prog_13_method_9_code, 5, some .int)
abbrev M_X11_noLot : MI := (⟨RX11, "noLot", "(I)Z"⟩, prog_13_method_10_code, 2, some .boolean)
abbrev M_X11_go : MI := (⟨RX11, "go", "(I)I"⟩, prog_13_method_11_code, 2, some .int)
abbrev M_X11_lot : MI := (⟨RX11, "lot", "(IIIII)I"⟩, prog_13_method_12_code, 6, some .int)
abbrev M_X11_room : MI := (⟨RX11, "room", "(II)I"⟩, prog_13_method_13_code, 4, some .int)
abbrev M_X11_move : MI := (⟨RX11, "move", "(II)I"⟩, prog_13_method_14_code, 4, some .int)
abbrev M_X11_hasP : MI := (⟨RX11, "hasP", "(I)Z"⟩, prog_13_method_15_code, 1, some .boolean)
abbrev M_X11_isOfLot : MI := (⟨RX11, "isOfLot", "(I)Z"⟩, prog_13_method_16_code, 1, some .boolean)
abbrev M_X11_hasMany : MI := (⟨RX11, "hasMany", "(I)Z"⟩, prog_13_method_17_code, 1, some .boolean)
abbrev M_X11_mostOf : MI := (⟨RX11, "mostOf", "(I)I"⟩, prog_13_method_18_code, 1, some .int)
abbrev M_X11_isPaper : MI := (⟨RX11, "isPaper", "(I)Z"⟩, prog_13_method_19_code, 2, some .boolean)
abbrev M_X11_noTarget : MI := (⟨RX11, "noTarget", "(II)Z"⟩, prog_13_method_20_code, 3, some .boolean)
abbrev M_X11_line : MI := (⟨RX11, "line", "(IIIIII)I"⟩, prog_13_method_21_code, 7, some .int)
abbrev M_X11_findBook : MI := (⟨RX11, "findBook", "(I)V"⟩, prog_13_method_22_code, 4, none)
abbrev M_X11_book : MI := (⟨RX11, "book", "(II)I"⟩, prog_13_method_23_code, 3, some .int)
abbrev M_X11_feed : MI := (⟨RX11, "feed", "(IJ)I"⟩, prog_13_method_24_code, 5, some .int)
abbrev M_X11_here : MI := (⟨RX11, "here", "()I"⟩, prog_13_method_25_code, 1, some .int)
abbrev M_X11_want : MI := (⟨RX11, "want", "(ZII)Z"⟩, prog_13_method_26_code, 4, some .boolean)
abbrev M_X11_takeWord : MI := (⟨RX11, "takeWord", "()V"⟩, prog_13_method_27_code, 2, none)
abbrev M_X11_isWord : MI := (⟨RX11, "isWord", "(IIIIIII)Z"⟩, prog_13_method_28_code, 10, some .boolean)
abbrev M_X11_takeNumber : MI := (⟨RX11, "takeNumber", "(I)I"⟩, prog_13_method_29_code, 5, some .int)
abbrev M_X11_nameOf : MI := (⟨RX11, "nameOf", "()I"⟩, prog_13_method_30_code, 1, some .int)
abbrev M_X11_mostOfName : MI := (⟨RX11, "mostOfName", "(I)I"⟩, prog_13_method_31_code, 1, some .int)
abbrev M_X11_keyOf : MI := (⟨RX11, "keyOf", "()I"⟩, prog_13_method_32_code, 1, some .int)
abbrev M_X11_readRank : MI := (⟨RX11, "readRank", "(I)V"⟩, prog_13_method_33_code, 7, none)
abbrev M_X11_readClause : MI := (⟨RX11, "readClause", "(II)V"⟩, prog_13_method_34_code, 4, none)
abbrev M_X11_term : MI := (⟨RX11, "term", "(I)I"⟩, prog_13_method_35_code, 4, some .int)
abbrev M_X11_fault : MI := (⟨RX11, "fault", "()I"⟩, prog_13_method_36_code, 1, some .int)
abbrev M_X11_findTerms : MI := (⟨RX11, "findTerms", "(I)V"⟩, prog_13_method_37_code, 5, none)
abbrev M_X11_force : MI := (⟨RX11, "force", "(II)I"⟩, prog_13_method_38_code, 3, some .int)
abbrev M_X11_there : MI := (⟨RX11, "there", "(I)I"⟩, prog_13_method_39_code, 2, some .int)
abbrev M_X11_onPapers : MI := (⟨RX11, "onPapers", "(I)I"⟩, prog_13_method_40_code, 4, some .int)
abbrev M_X11_lay : MI := (⟨RX11, "lay", "(IIIII)V"⟩, prog_13_method_41_code, 6, none)
abbrev M_X11_pass : MI := (⟨RX11, "pass", "(II)Z"⟩, prog_13_method_42_code, 5, some .boolean)
abbrev M_X11_partFrom : MI := (⟨RX11, "partFrom", "(II)Z"⟩, prog_13_method_43_code, 3, some .boolean)
abbrev M_X11_lend : MI := (⟨RX11, "lend", "(II)Z"⟩, prog_13_method_44_code, 3, some .boolean)
abbrev M_X11_handOut : MI := (⟨RX11, "handOut", "(II)Z"⟩, prog_13_method_45_code, 4, some .boolean)
abbrev M_X11_burn : MI := (⟨RX11, "burn", "(II)Z"⟩, prog_13_method_46_code, 3, some .boolean)
abbrev M_X11_issue : MI := (⟨RX11, "issue", "(I)Z"⟩, prog_13_method_47_code, 2, some .boolean)
abbrev M_X11_change : MI := (⟨RX11, "change", "(II)Z"⟩, prog_13_method_48_code, 3, some .boolean)
abbrev M_X11_befall : MI := (⟨RX11, "befall", "(I)Z"⟩, prog_13_method_49_code, 4, some .boolean)
abbrev M_X11_tell : MI := (⟨RX11, "tell", "(II)V"⟩, prog_13_method_50_code, 4, none)
abbrev M_X11_told : MI := (⟨RX11, "told", "(II)I"⟩, prog_13_method_51_code, 3, some .int)
abbrev M_X11_linesNow : MI := (⟨RX11, "linesNow", "(I)I"⟩, prog_13_method_52_code, 4, some .int)
abbrev M_X11_papersToday : MI := (⟨RX11, "papersToday", "()I"⟩, prog_13_method_53_code, 3, some .int)
abbrev M_X11_count : MI := (⟨RX11, "count", "(I)I"⟩, prog_13_method_54_code, 2, some .int)
abbrev M_X11_whyNot : MI := (⟨RX11, "whyNot", "(IIIII)I"⟩, prog_13_method_55_code, 6, some .int)
abbrev M_X11_paper : MI := (⟨RX11, "paper", "(IIII)I"⟩, prog_13_method_56_code, 6, some .int)
abbrev M_X11_over : MI := (⟨RX11, "over", "(I)I"⟩, prog_13_method_57_code, 3, some .int)
abbrev M_X11_goods : MI := (⟨RX11, "goods", "(IIII)I"⟩, prog_13_method_58_code, 7, some .int)
abbrev M_X11_share : MI := (⟨RX11, "share", "(IIII)I"⟩, prog_13_method_59_code, 12, some .int)
abbrev M_X11_fewestFrom : MI := (⟨RX11, "fewestFrom", "(II)I"⟩, prog_13_method_60_code, 11, some .int)
abbrev M_X11_doubt : MI := (⟨RX11, "doubt", "(IIII)I"⟩, prog_13_method_61_code, 10, some .int)
abbrev M_X11_stock : MI := (⟨RX11, "stock", "(III)I"⟩, prog_13_method_62_code, 7, some .int)
abbrev M_X11_news : MI := (⟨RX11, "news", "(III)I"⟩, prog_13_method_63_code, 8, some .int)
abbrev M_X11_rentOf : MI := (⟨RX11, "rentOf", "(II)I"⟩, prog_13_method_64_code, 3, some .int)
abbrev M_X11_rent : MI := (⟨RX11, "rent", "(II)I"⟩, prog_13_method_65_code, 3, some .int)
abbrev M_X11_weightOn : MI := (⟨RX11, "weightOn", "(II)I"⟩, prog_13_method_66_code, 5, some .int)
abbrev M_X11_weight : MI := (⟨RX11, "weight", "(II)I"⟩, prog_13_method_67_code, 3, some .int)
abbrev M_X11_weigh : MI := (⟨RX11, "weigh", "(III)I"⟩, prog_13_method_68_code, 4, some .int)
abbrev M_X11_loss : MI := (⟨RX11, "loss", "(II)I"⟩, prog_13_method_69_code, 6, some .int)
abbrev M_X11_unpaid : MI := (⟨RX11, "unpaid", "(III)I"⟩, prog_13_method_70_code, 5, some .int)
abbrev M_X11_wants : MI := (⟨RX11, "wants", "(III)I"⟩, prog_13_method_71_code, 6, some .int)
abbrev M_X11_money : MI := (⟨RX11, "money", "(IIII)I"⟩, prog_13_method_72_code, 13, some .int)
abbrev M_X11_sale : MI := (⟨RX11, "sale", "(IIII)I"⟩, prog_13_method_73_code, 5, some .int)
abbrev M_X11_net : MI := (⟨RX11, "net", "(II)I"⟩, prog_13_method_74_code, 3, some .int)
abbrev M_X11_handings : MI := (⟨RX11, "handings", "(I)I"⟩, prog_13_method_75_code, 8, some .int)
abbrev M_X11_due : MI := (⟨RX11, "due", "(III)I"⟩, prog_13_method_76_code, 4, some .int)
abbrev M_X11_coin : MI := (⟨RX11, "coin", "(II)I"⟩, prog_13_method_77_code, 4, some .int)
abbrev M_X11_owes : MI := (⟨RX11, "owes", "(I)I"⟩, prog_13_method_78_code, 4, some .int)
abbrev M_X11_has : MI := (⟨RX11, "has", "(I)I"⟩, prog_13_method_79_code, 4, some .int)
abbrev M_X11_gives : MI := (⟨RX11, "gives", "(I)I"⟩, prog_13_method_80_code, 4, some .int)
abbrev M_X11_goRounds : MI := (⟨RX11, "goRounds", "()V"⟩, prog_13_method_81_code, 6, none)
abbrev M_X11_fails : MI := (⟨RX11, "fails", "(II)I"⟩, prog_13_method_82_code, 5, some .int)
abbrev M_X11_part : MI := (⟨RX11, "part", "(IIZ)I"⟩, prog_13_method_83_code, 5, some .int)
abbrev M_X11_mayLie : MI := (⟨RX11, "mayLie", "(II)Z"⟩, prog_13_method_84_code, 5, some .boolean)
abbrev M_X11_put : MI := (⟨RX11, "put", "(III)V"⟩, prog_13_method_85_code, 4, none)
abbrev M_X11_layAll : MI := (⟨RX11, "layAll", "()I"⟩, prog_13_method_86_code, 5, some .int)
abbrev M_X11_plan : MI := (⟨RX11, "plan", "(II)I"⟩, prog_13_method_87_code, 7, some .int)
abbrev M_J6_bitCount_0f7a4 : MI := (⟨"java/lang/Integer", "bitCount", "(I)I"⟩, prog_14_method_49_code, 1, some .int)
abbrev M_J9_max_7cf53 : MI := (⟨"java/lang/Math", "max", "(II)I"⟩, prog_15_method_65_code, 2, some .int)
abbrev M_J9_min_7cf53 : MI := (⟨"java/lang/Math", "min", "(II)I"⟩, prog_15_method_69_code, 2, some .int)
abbrev M_J9_min_f86c9 : MI := (⟨"java/lang/Math", "min", "(JJ)J"⟩, prog_15_method_70_code, 4, some .long)
abbrev M_J0_length_8abf5 : MI := (⟨"java/lang/String", "length", "()I"⟩, prog_16_method_54_code, 1, some .int)
abbrev M_J0_charAt_5068e : MI := (⟨"java/lang/String", "charAt", "(I)C"⟩, prog_16_method_56_code, 2, some .char)
abbrev M_J0_coder_7d493 : MI := (⟨"java/lang/String", "coder", "()B"⟩, prog_16_method_152_code, 1, some .byte)
abbrev M_J0_isLatin1_aae02 : MI := (⟨"java/lang/String", "isLatin1", "()Z"⟩, prog_16_method_154_code, 1, some .boolean)
abbrev M_J0_checkIndex_df160 : MI := (⟨"java/lang/String", "checkIndex", "(II)V"⟩, prog_16_method_155_code, 2, none)
abbrev M_J1_charAt_3b067 : MI := (⟨"java/lang/StringLatin1", "charAt", "([BI)C"⟩, prog_17_method_2_code, 2, some .char)
abbrev M_J2_getChar_3b067 : MI := (⟨"java/lang/StringUTF16", "getChar", "([BI)C"⟩, prog_18_method_5_code, 2, some .char)
abbrev M_J2_length_9d52b : MI := (⟨"java/lang/StringUTF16", "length", "([B)I"⟩, prog_18_method_6_code, 1, some .int)
abbrev M_J2_charAt_3b067 : MI := (⟨"java/lang/StringUTF16", "charAt", "([BI)C"⟩, prog_18_method_83_code, 2, some .char)
abbrev M_J2_checkIndex_2214a : MI := (⟨"java/lang/StringUTF16", "checkIndex", "(I[B)V"⟩, prog_18_method_91_code, 2, none)
abbrev M_J3_checkIndex_8e157 : MI := (⟨"jdk/internal/util/Preconditions", "checkIndex", "(IILjava/util/function/BiFunction;)I"⟩, prog_19_method_11_code, 3, some .int)
abbrev M_L_law : MI := (⟨"WharfPapersLaw", "law", "([I)Z"⟩, code, 4, some .boolean)
theorem u_X0 : ∀ w ∈ u_ws RX0 TX0 3, w ∈ tbG := by
  intro w hw
  obtain ⟨j, hj, rfl⟩ := List.mem_map.mp hw
  have hj := List.mem_range.mp hj
  match j with
  | 0 => exact tb2 40 rfl rfl
  | 1 => exact tb2 42 rfl rfl
  | 2 => exact tb2 44 rfl rfl
  | j + 3 => exact absurd hj (by omega)
theorem clk_0 : clkq 0 RX0 TX0 3 tyX0 := ⟨rfl, u_X0, by decide +kernel, by decide +kernel, by decide⟩
theorem u_X1 : ∀ w ∈ u_ws RX1 TX1 10, w ∈ tbG := by
  intro w hw
  obtain ⟨j, hj, rfl⟩ := List.mem_map.mp hw
  have hj := List.mem_range.mp hj
  match j with
  | 0 => exact tb2 129 rfl rfl
  | 1 => exact tb2 131 rfl rfl
  | 2 => exact tb2 133 rfl rfl
  | 3 => exact tb2 135 rfl rfl
  | 4 => exact tb2 137 rfl rfl
  | 5 => exact tb2 139 rfl rfl
  | 6 => exact tb2 141 rfl rfl
  | 7 => exact tb2 143 rfl rfl
  | 8 => exact tb2 145 rfl rfl
  | 9 => exact tb2 147 rfl rfl
  | j + 10 => exact absurd hj (by omega)
theorem clk_1 : clkq 1 RX1 TX1 10 tyX1 := ⟨rfl, u_X1, by decide +kernel, by decide +kernel, by decide⟩
theorem u_X2 : ∀ w ∈ u_ws RX2 TX2 11, w ∈ tbG := by
  intro w hw
  obtain ⟨j, hj, rfl⟩ := List.mem_map.mp hw
  have hj := List.mem_range.mp hj
  match j with
  | 0 => exact tb1 98 rfl rfl
  | 1 => exact tb1 100 rfl rfl
  | 2 => exact tb1 102 rfl rfl
  | 3 => exact tb1 104 rfl rfl
  | 4 => exact tb1 106 rfl rfl
  | 5 => exact tb1 108 rfl rfl
  | 6 => exact tb1 110 rfl rfl
  | 7 => exact tb1 112 rfl rfl
  | 8 => exact tb1 114 rfl rfl
  | 9 => exact tb1 116 rfl rfl
  | 10 => exact tb1 118 rfl rfl
  | j + 11 => exact absurd hj (by omega)
theorem clk_2 : clkq 2 RX2 TX2 11 tyX2 := ⟨rfl, u_X2, by decide +kernel, by decide +kernel, by decide⟩
theorem u_X3 : ∀ w ∈ u_ws RX3 TX3 6, w ∈ tbG := by
  intro w hw
  obtain ⟨j, hj, rfl⟩ := List.mem_map.mp hw
  have hj := List.mem_range.mp hj
  match j with
  | 0 => exact tb1 50 rfl rfl
  | 1 => exact tb1 52 rfl rfl
  | 2 => exact tb1 54 rfl rfl
  | 3 => exact tb1 56 rfl rfl
  | 4 => exact tb1 58 rfl rfl
  | 5 => exact tb1 60 rfl rfl
  | j + 6 => exact absurd hj (by omega)
theorem clk_3 : clkq 3 RX3 TX3 6 tyX3 := ⟨rfl, u_X3, by decide +kernel, by decide +kernel, by decide⟩
theorem u_X4 : ∀ w ∈ u_ws RX4 TX4 7, w ∈ tbG := by
  intro w hw
  obtain ⟨j, hj, rfl⟩ := List.mem_map.mp hw
  have hj := List.mem_range.mp hj
  match j with
  | 0 => exact tb2 163 rfl rfl
  | 1 => exact tb2 165 rfl rfl
  | 2 => exact tb2 167 rfl rfl
  | 3 => exact tb2 169 rfl rfl
  | 4 => exact tb2 171 rfl rfl
  | 5 => exact tb2 173 rfl rfl
  | 6 => exact tb2 175 rfl rfl
  | j + 7 => exact absurd hj (by omega)
theorem clk_4 : clkq 4 RX4 TX4 7 tyX4 := ⟨rfl, u_X4, by decide +kernel, by decide +kernel, by decide⟩
theorem u_X5 : ∀ w ∈ u_ws RX5 TX5 9, w ∈ tbG := by
  intro w hw
  obtain ⟨j, hj, rfl⟩ := List.mem_map.mp hw
  have hj := List.mem_range.mp hj
  match j with
  | 0 => exact tb1 180 rfl rfl
  | 1 => exact tb1 182 rfl rfl
  | 2 => exact tb1 184 rfl rfl
  | 3 => exact tb1 186 rfl rfl
  | 4 => exact tb1 188 rfl rfl
  | 5 => exact tb1 190 rfl rfl
  | 6 => exact tb1 192 rfl rfl
  | 7 => exact tb1 194 rfl rfl
  | 8 => exact tb1 196 rfl rfl
  | j + 9 => exact absurd hj (by omega)
theorem clk_5 : clkq 5 RX5 TX5 9 tyX5 := ⟨rfl, u_X5, by decide +kernel, by decide +kernel, by decide⟩
theorem u_X6 : ∀ w ∈ u_ws RX6 TX6 8, w ∈ tbG := by
  intro w hw
  obtain ⟨j, hj, rfl⟩ := List.mem_map.mp hw
  have hj := List.mem_range.mp hj
  match j with
  | 0 => exact tb2 90 rfl rfl
  | 1 => exact tb2 92 rfl rfl
  | 2 => exact tb2 94 rfl rfl
  | 3 => exact tb2 96 rfl rfl
  | 4 => exact tb2 98 rfl rfl
  | 5 => exact tb2 100 rfl rfl
  | 6 => exact tb2 102 rfl rfl
  | 7 => exact tb2 104 rfl rfl
  | j + 8 => exact absurd hj (by omega)
theorem clk_6 : clkq 6 RX6 TX6 8 tyX6 := ⟨rfl, u_X6, by decide +kernel, by decide +kernel, by decide⟩
theorem u_X7 : ∀ w ∈ u_ws RX7 TX7 16, w ∈ tbG := by
  intro w hw
  obtain ⟨j, hj, rfl⟩ := List.mem_map.mp hw
  have hj := List.mem_range.mp hj
  match j with
  | 0 => exact tb1 237 rfl rfl
  | 1 => exact tb1 239 rfl rfl
  | 2 => exact tb2 1 rfl rfl
  | 3 => exact tb2 3 rfl rfl
  | 4 => exact tb2 5 rfl rfl
  | 5 => exact tb2 7 rfl rfl
  | 6 => exact tb2 9 rfl rfl
  | 7 => exact tb2 11 rfl rfl
  | 8 => exact tb2 13 rfl rfl
  | 9 => exact tb2 15 rfl rfl
  | 10 => exact tb2 17 rfl rfl
  | 11 => exact tb2 19 rfl rfl
  | 12 => exact tb2 21 rfl rfl
  | 13 => exact tb2 23 rfl rfl
  | 14 => exact tb2 25 rfl rfl
  | 15 => exact tb2 27 rfl rfl
  | j + 16 => exact absurd hj (by omega)
theorem clk_7 : clkq 7 RX7 TX7 16 tyX7 := ⟨rfl, u_X7, by decide +kernel, by decide +kernel, by decide⟩
theorem u_X8 : ∀ w ∈ u_ws RX8 TX8 9, w ∈ tbG := by
  intro w hw
  obtain ⟨j, hj, rfl⟩ := List.mem_map.mp hw
  have hj := List.mem_range.mp hj
  match j with
  | 0 => exact tb1 140 rfl rfl
  | 1 => exact tb1 142 rfl rfl
  | 2 => exact tb1 144 rfl rfl
  | 3 => exact tb1 146 rfl rfl
  | 4 => exact tb1 148 rfl rfl
  | 5 => exact tb1 150 rfl rfl
  | 6 => exact tb1 152 rfl rfl
  | 7 => exact tb1 154 rfl rfl
  | 8 => exact tb1 156 rfl rfl
  | j + 9 => exact absurd hj (by omega)
theorem clk_8 : clkq 8 RX8 TX8 9 tyX8 := ⟨rfl, u_X8, by decide +kernel, by decide +kernel, by decide⟩
theorem u_X9 : ∀ w ∈ u_ws RX9 TX9 5, w ∈ tbG := by
  intro w hw
  obtain ⟨j, hj, rfl⟩ := List.mem_map.mp hw
  have hj := List.mem_range.mp hj
  match j with
  | 0 => exact tb2 63 rfl rfl
  | 1 => exact tb2 65 rfl rfl
  | 2 => exact tb2 67 rfl rfl
  | 3 => exact tb2 69 rfl rfl
  | 4 => exact tb2 71 rfl rfl
  | j + 5 => exact absurd hj (by omega)
theorem clk_9 : clkq 9 RX9 TX9 5 tyX9 := ⟨rfl, u_X9, by decide +kernel, by decide +kernel, by decide⟩
theorem u_X10 : ∀ w ∈ u_ws RX10 TX10 15, w ∈ tbG := by
  intro w hw
  obtain ⟨j, hj, rfl⟩ := List.mem_map.mp hw
  have hj := List.mem_range.mp hj
  match j with
  | 0 => exact tb2 194 rfl rfl
  | 1 => exact tb2 196 rfl rfl
  | 2 => exact tb2 198 rfl rfl
  | 3 => exact tb2 200 rfl rfl
  | 4 => exact tb2 202 rfl rfl
  | 5 => exact tb2 204 rfl rfl
  | 6 => exact tb2 206 rfl rfl
  | 7 => exact tb2 208 rfl rfl
  | 8 => exact tb2 210 rfl rfl
  | 9 => exact tb2 212 rfl rfl
  | 10 => exact tb2 214 rfl rfl
  | 11 => exact tb2 216 rfl rfl
  | 12 => exact tb2 218 rfl rfl
  | 13 => exact tb2 220 rfl rfl
  | 14 => exact tb2 222 rfl rfl
  | j + 15 => exact absurd hj (by omega)
theorem clk_10 : clkq 10 RX10 TX10 15 tyX10 := ⟨rfl, u_X10, by decide +kernel, by decide +kernel, by decide⟩
theorem u_X11 : ∀ w ∈ u_ws RX11 TX11 79, w ∈ tbG := by
  intro w hw
  obtain ⟨j, hj, rfl⟩ := List.mem_map.mp hw
  have hj := List.mem_range.mp hj
  match j with
  | 0 => exact tb5 198 rfl rfl
  | 1 => exact tb5 200 rfl rfl
  | 2 => exact tb5 202 rfl rfl
  | 3 => exact tb5 204 rfl rfl
  | 4 => exact tb5 206 rfl rfl
  | 5 => exact tb5 208 rfl rfl
  | 6 => exact tb5 210 rfl rfl
  | 7 => exact tb5 212 rfl rfl
  | 8 => exact tb5 214 rfl rfl
  | 9 => exact tb5 216 rfl rfl
  | 10 => exact tb5 218 rfl rfl
  | 11 => exact tb5 220 rfl rfl
  | 12 => exact tb5 222 rfl rfl
  | 13 => exact tb5 224 rfl rfl
  | 14 => exact tb5 226 rfl rfl
  | 15 => exact tb5 228 rfl rfl
  | 16 => exact tb5 230 rfl rfl
  | 17 => exact tb5 232 rfl rfl
  | 18 => exact tb5 234 rfl rfl
  | 19 => exact tb5 236 rfl rfl
  | 20 => exact tb5 238 rfl rfl
  | 21 => exact tb6 0 rfl rfl
  | 22 => exact tb6 2 rfl rfl
  | 23 => exact tb6 4 rfl rfl
  | 24 => exact tb6 6 rfl rfl
  | 25 => exact tb6 8 rfl rfl
  | 26 => exact tb6 10 rfl rfl
  | 27 => exact tb6 12 rfl rfl
  | 28 => exact tb6 14 rfl rfl
  | 29 => exact tb6 16 rfl rfl
  | 30 => exact tb6 18 rfl rfl
  | 31 => exact tb6 20 rfl rfl
  | 32 => exact tb6 22 rfl rfl
  | 33 => exact tb6 24 rfl rfl
  | 34 => exact tb6 26 rfl rfl
  | 35 => exact tb6 28 rfl rfl
  | 36 => exact tb6 30 rfl rfl
  | 37 => exact tb6 32 rfl rfl
  | 38 => exact tb6 34 rfl rfl
  | 39 => exact tb6 36 rfl rfl
  | 40 => exact tb6 38 rfl rfl
  | 41 => exact tb6 40 rfl rfl
  | 42 => exact tb6 42 rfl rfl
  | 43 => exact tb6 44 rfl rfl
  | 44 => exact tb6 46 rfl rfl
  | 45 => exact tb6 48 rfl rfl
  | 46 => exact tb6 50 rfl rfl
  | 47 => exact tb6 52 rfl rfl
  | 48 => exact tb6 54 rfl rfl
  | 49 => exact tb6 56 rfl rfl
  | 50 => exact tb6 58 rfl rfl
  | 51 => exact tb6 60 rfl rfl
  | 52 => exact tb6 62 rfl rfl
  | 53 => exact tb6 64 rfl rfl
  | 54 => exact tb6 66 rfl rfl
  | 55 => exact tb6 68 rfl rfl
  | 56 => exact tb6 70 rfl rfl
  | 57 => exact tb6 72 rfl rfl
  | 58 => exact tb6 74 rfl rfl
  | 59 => exact tb6 76 rfl rfl
  | 60 => exact tb6 78 rfl rfl
  | 61 => exact tb6 80 rfl rfl
  | 62 => exact tb6 82 rfl rfl
  | 63 => exact tb6 84 rfl rfl
  | 64 => exact tb6 86 rfl rfl
  | 65 => exact tb6 88 rfl rfl
  | 66 => exact tb6 90 rfl rfl
  | 67 => exact tb6 92 rfl rfl
  | 68 => exact tb6 94 rfl rfl
  | 69 => exact tb6 96 rfl rfl
  | 70 => exact tb6 98 rfl rfl
  | 71 => exact tb6 100 rfl rfl
  | 72 => exact tb6 102 rfl rfl
  | 73 => exact tb6 104 rfl rfl
  | 74 => exact tb6 106 rfl rfl
  | 75 => exact tb6 108 rfl rfl
  | 76 => exact tb6 110 rfl rfl
  | 77 => exact tb6 112 rfl rfl
  | 78 => exact tb6 114 rfl rfl
  | j + 79 => exact absurd hj (by omega)
theorem clk_11 : clkq 11 RX11 TX11 79 tyX11 := ⟨rfl, u_X11, by decide +kernel, by decide +kernel, by decide⟩
theorem fl_X3_9 : flq RX3 9 3 6 0 0 false true := ⟨RX3, TX3, tyX3, clk_3, by decide, rfl, tb1 33 rfl rfl, rfl, rfl, rfl, Or.inr ⟨_, rfl⟩⟩
theorem fl_X4_57 : flq RX4 57 3 6 0 0 false true := ⟨RX3, TX3, tyX3, clk_3, by decide, rfl, tb1 34 rfl rfl, rfl, rfl, rfl, Or.inr ⟨_, rfl⟩⟩
theorem fl_X7_165 : flq RX7 165 3 6 0 0 false true := ⟨RX3, TX3, tyX3, clk_3, by decide, rfl, tb1 35 rfl rfl, rfl, rfl, rfl, Or.inr ⟨_, rfl⟩⟩
theorem fl_X10_385 : flq RX10 385 3 6 0 0 false true := ⟨RX3, TX3, tyX3, clk_3, by decide, rfl, tb1 36 rfl rfl, rfl, rfl, rfl, Or.inr ⟨_, rfl⟩⟩
theorem fl_X3_15 : flq RX3 15 3 6 1 1 false true := ⟨RX3, TX3, tyX3, clk_3, by decide, rfl, tb1 37 rfl rfl, rfl, rfl, rfl, Or.inr ⟨_, rfl⟩⟩
theorem fl_X7_159 : flq RX7 159 3 6 1 1 false true := ⟨RX3, TX3, tyX3, clk_3, by decide, rfl, tb1 38 rfl rfl, rfl, rfl, rfl, Or.inr ⟨_, rfl⟩⟩
theorem fl_X3_18 : flq RX3 18 3 6 2 2 false true := ⟨RX3, TX3, tyX3, clk_3, by decide, rfl, tb1 39 rfl rfl, rfl, rfl, rfl, Or.inr ⟨_, rfl⟩⟩
theorem fl_X10_388 : flq RX10 388 3 6 2 2 false true := ⟨RX3, TX3, tyX3, clk_3, by decide, rfl, tb1 40 rfl rfl, rfl, rfl, rfl, Or.inr ⟨_, rfl⟩⟩
theorem fl_X3_21 : flq RX3 21 3 6 3 3 false true := ⟨RX3, TX3, tyX3, clk_3, by decide, rfl, tb1 41 rfl rfl, rfl, rfl, rfl, Or.inr ⟨_, rfl⟩⟩
theorem fl_X4_48 : flq RX4 48 3 6 3 3 false true := ⟨RX3, TX3, tyX3, clk_3, by decide, rfl, tb1 42 rfl rfl, rfl, rfl, rfl, Or.inr ⟨_, rfl⟩⟩
theorem fl_X10_124 : flq RX10 124 3 6 3 3 false true := ⟨RX3, TX3, tyX3, clk_3, by decide, rfl, tb1 43 rfl rfl, rfl, rfl, rfl, Or.inr ⟨_, rfl⟩⟩
theorem fl_X3_24 : flq RX3 24 3 6 4 4 false true := ⟨RX3, TX3, tyX3, clk_3, by decide, rfl, tb1 44 rfl rfl, rfl, rfl, rfl, Or.inr ⟨_, rfl⟩⟩
theorem fl_X10_382 : flq RX10 382 3 6 4 4 false true := ⟨RX3, TX3, tyX3, clk_3, by decide, rfl, tb1 45 rfl rfl, rfl, rfl, rfl, Or.inr ⟨_, rfl⟩⟩
theorem fl_X4_31 : flq RX4 31 3 6 5 5 true false := ⟨RX3, TX3, tyX3, clk_3, by decide, rfl, tb1 46 rfl rfl, rfl, rfl, rfl, rfl⟩
theorem fl_X3_27 : flq RX3 27 3 6 5 5 true false := ⟨RX3, TX3, tyX3, clk_3, by decide, rfl, tb1 47 rfl rfl, rfl, rfl, rfl, rfl⟩
theorem fl_X7_87 : flq RX7 87 3 6 5 5 true false := ⟨RX3, TX3, tyX3, clk_3, by decide, rfl, tb1 48 rfl rfl, rfl, rfl, rfl, rfl⟩
theorem fl_X10_114 : flq RX10 114 3 6 5 5 true false := ⟨RX3, TX3, tyX3, clk_3, by decide, rfl, tb1 49 rfl rfl, rfl, rfl, rfl, rfl⟩
theorem fl_X2_9 : flq RX2 9 2 11 0 0 false true := ⟨RX2, TX2, tyX2, clk_2, by decide, rfl, tb1 70 rfl rfl, rfl, rfl, rfl, Or.inr ⟨_, rfl⟩⟩
theorem fl_X7_93 : flq RX7 93 2 11 0 0 false true := ⟨RX2, TX2, tyX2, clk_2, by decide, rfl, tb1 71 rfl rfl, rfl, rfl, rfl, Or.inr ⟨_, rfl⟩⟩
theorem fl_X10_145 : flq RX10 145 2 11 0 0 false true := ⟨RX2, TX2, tyX2, clk_2, by decide, rfl, tb1 72 rfl rfl, rfl, rfl, rfl, Or.inr ⟨_, rfl⟩⟩
theorem fl_X2_15 : flq RX2 15 2 11 1 1 false true := ⟨RX2, TX2, tyX2, clk_2, by decide, rfl, tb1 73 rfl rfl, rfl, rfl, rfl, Or.inr ⟨_, rfl⟩⟩
theorem fl_X7_81 : flq RX7 81 2 11 1 1 false true := ⟨RX2, TX2, tyX2, clk_2, by decide, rfl, tb1 74 rfl rfl, rfl, rfl, rfl, Or.inr ⟨_, rfl⟩⟩
theorem fl_X10_148 : flq RX10 148 2 11 1 1 false true := ⟨RX2, TX2, tyX2, clk_2, by decide, rfl, tb1 75 rfl rfl, rfl, rfl, rfl, Or.inr ⟨_, rfl⟩⟩
theorem fl_X2_18 : flq RX2 18 2 11 2 2 false true := ⟨RX2, TX2, tyX2, clk_2, by decide, rfl, tb1 76 rfl rfl, rfl, rfl, rfl, Or.inr ⟨_, rfl⟩⟩
theorem fl_X10_151 : flq RX10 151 2 11 2 2 false true := ⟨RX2, TX2, tyX2, clk_2, by decide, rfl, tb1 77 rfl rfl, rfl, rfl, rfl, Or.inr ⟨_, rfl⟩⟩
theorem fl_X2_21 : flq RX2 21 2 11 3 3 false true := ⟨RX2, TX2, tyX2, clk_2, by decide, rfl, tb1 78 rfl rfl, rfl, rfl, rfl, Or.inr ⟨_, rfl⟩⟩
theorem fl_X7_96 : flq RX7 96 2 11 3 3 false true := ⟨RX2, TX2, tyX2, clk_2, by decide, rfl, tb1 79 rfl rfl, rfl, rfl, rfl, Or.inr ⟨_, rfl⟩⟩
theorem fl_X10_154 : flq RX10 154 2 11 3 3 false true := ⟨RX2, TX2, tyX2, clk_2, by decide, rfl, tb1 80 rfl rfl, rfl, rfl, rfl, Or.inr ⟨_, rfl⟩⟩
theorem fl_X2_24 : flq RX2 24 2 11 4 4 false true := ⟨RX2, TX2, tyX2, clk_2, by decide, rfl, tb1 81 rfl rfl, rfl, rfl, rfl, Or.inr ⟨_, rfl⟩⟩
theorem fl_X7_133 : flq RX7 133 2 11 4 4 false true := ⟨RX2, TX2, tyX2, clk_2, by decide, rfl, tb1 82 rfl rfl, rfl, rfl, rfl, Or.inr ⟨_, rfl⟩⟩
theorem fl_X10_157 : flq RX10 157 2 11 4 4 false true := ⟨RX2, TX2, tyX2, clk_2, by decide, rfl, tb1 83 rfl rfl, rfl, rfl, rfl, Or.inr ⟨_, rfl⟩⟩
theorem fl_X2_27 : flq RX2 27 2 11 5 5 false true := ⟨RX2, TX2, tyX2, clk_2, by decide, rfl, tb1 84 rfl rfl, rfl, rfl, rfl, Or.inr ⟨_, rfl⟩⟩
theorem fl_X10_160 : flq RX10 160 2 11 5 5 false true := ⟨RX2, TX2, tyX2, clk_2, by decide, rfl, tb1 85 rfl rfl, rfl, rfl, rfl, Or.inr ⟨_, rfl⟩⟩
theorem fl_X7_147 : flq RX7 147 2 11 5 5 false true := ⟨RX2, TX2, tyX2, clk_2, by decide, rfl, tb1 86 rfl rfl, rfl, rfl, rfl, Or.inr ⟨_, rfl⟩⟩
theorem fl_X2_30 : flq RX2 30 2 11 6 6 false true := ⟨RX2, TX2, tyX2, clk_2, by decide, rfl, tb1 87 rfl rfl, rfl, rfl, rfl, Or.inr ⟨_, rfl⟩⟩
theorem fl_X7_130 : flq RX7 130 2 11 6 6 false true := ⟨RX2, TX2, tyX2, clk_2, by decide, rfl, tb1 88 rfl rfl, rfl, rfl, rfl, Or.inr ⟨_, rfl⟩⟩
theorem fl_X10_163 : flq RX10 163 2 11 6 6 false true := ⟨RX2, TX2, tyX2, clk_2, by decide, rfl, tb1 89 rfl rfl, rfl, rfl, rfl, Or.inr ⟨_, rfl⟩⟩
theorem fl_X2_33 : flq RX2 33 2 11 7 7 false true := ⟨RX2, TX2, tyX2, clk_2, by decide, rfl, tb1 90 rfl rfl, rfl, rfl, rfl, Or.inr ⟨_, rfl⟩⟩
theorem fl_X7_74 : flq RX7 74 2 11 7 7 false true := ⟨RX2, TX2, tyX2, clk_2, by decide, rfl, tb1 91 rfl rfl, rfl, rfl, rfl, Or.inr ⟨_, rfl⟩⟩
theorem fl_X2_36 : flq RX2 36 2 11 8 8 false true := ⟨RX2, TX2, tyX2, clk_2, by decide, rfl, tb1 92 rfl rfl, rfl, rfl, rfl, Or.inr ⟨_, rfl⟩⟩
theorem fl_X10_170 : flq RX10 170 2 11 8 8 false true := ⟨RX2, TX2, tyX2, clk_2, by decide, rfl, tb1 93 rfl rfl, rfl, rfl, rfl, Or.inr ⟨_, rfl⟩⟩
theorem fl_X2_40 : flq RX2 40 2 11 9 9 true false := ⟨RX2, TX2, tyX2, clk_2, by decide, rfl, tb1 94 rfl rfl, rfl, rfl, rfl, rfl⟩
theorem fl_X7_70 : flq RX7 70 2 11 9 9 true false := ⟨RX2, TX2, tyX2, clk_2, by decide, rfl, tb1 95 rfl rfl, rfl, rfl, rfl, rfl⟩
theorem fl_X10_140 : flq RX10 140 2 11 9 9 true false := ⟨RX2, TX2, tyX2, clk_2, by decide, rfl, tb1 96 rfl rfl, rfl, rfl, rfl, rfl⟩
theorem fl_X2_48 : flq RX2 48 2 11 10 10 true false := ⟨RX2, TX2, tyX2, clk_2, by decide, rfl, tb1 97 rfl rfl, rfl, rfl, rfl, rfl⟩
theorem fl_X8_11 : flq RX8 11 8 9 0 0 false true := ⟨RX8, TX8, tyX8, clk_8, by decide, rfl, tb1 130 rfl rfl, rfl, rfl, rfl, Or.inr ⟨_, rfl⟩⟩
theorem fl_X8_15 : flq RX8 15 8 9 1 1 false true := ⟨RX8, TX8, tyX8, clk_8, by decide, rfl, tb1 131 rfl rfl, rfl, rfl, rfl, Or.inr ⟨_, rfl⟩⟩
theorem fl_X8_22 : flq RX8 22 8 9 2 2 false true := ⟨RX8, TX8, tyX8, clk_8, by decide, rfl, tb1 132 rfl rfl, rfl, rfl, rfl, Or.inr ⟨_, rfl⟩⟩
theorem fl_X8_25 : flq RX8 25 8 9 3 3 false true := ⟨RX8, TX8, tyX8, clk_8, by decide, rfl, tb1 133 rfl rfl, rfl, rfl, rfl, Or.inr ⟨_, rfl⟩⟩
theorem fl_X8_28 : flq RX8 28 8 9 4 4 false true := ⟨RX8, TX8, tyX8, clk_8, by decide, rfl, tb1 134 rfl rfl, rfl, rfl, rfl, Or.inr ⟨_, rfl⟩⟩
theorem fl_X8_31 : flq RX8 31 8 9 5 5 false true := ⟨RX8, TX8, tyX8, clk_8, by decide, rfl, tb1 135 rfl rfl, rfl, rfl, rfl, Or.inr ⟨_, rfl⟩⟩
theorem fl_X8_35 : flq RX8 35 8 9 6 6 false true := ⟨RX8, TX8, tyX8, clk_8, by decide, rfl, tb1 136 rfl rfl, rfl, rfl, rfl, Or.inr ⟨_, rfl⟩⟩
theorem fl_X8_38 : flq RX8 38 8 9 7 7 true false := ⟨RX8, TX8, tyX8, clk_8, by decide, rfl, tb1 137 rfl rfl, rfl, rfl, rfl, rfl⟩
theorem fl_X8_42 : flq RX8 42 8 9 8 8 true false := ⟨RX8, TX8, tyX8, clk_8, by decide, rfl, tb1 138 rfl rfl, rfl, rfl, rfl, rfl⟩
theorem fl_X10_198 : flq RX10 198 8 9 8 8 true false := ⟨RX8, TX8, tyX8, clk_8, by decide, rfl, tb1 139 rfl rfl, rfl, rfl, rfl, rfl⟩
theorem fl_X5_11 : flq RX5 11 5 9 0 0 false true := ⟨RX5, TX5, tyX5, clk_5, by decide, rfl, tb1 165 rfl rfl, rfl, rfl, rfl, Or.inr ⟨_, rfl⟩⟩
theorem fl_X5_25 : flq RX5 25 5 9 1 1 true false := ⟨RX5, TX5, tyX5, clk_5, by decide, rfl, tb1 166 rfl rfl, rfl, rfl, rfl, rfl⟩
theorem fl_X10_201 : flq RX10 201 5 9 1 1 true false := ⟨RX5, TX5, tyX5, clk_5, by decide, rfl, tb1 167 rfl rfl, rfl, rfl, rfl, rfl⟩
theorem fl_X5_15 : flq RX5 15 5 9 2 2 false true := ⟨RX5, TX5, tyX5, clk_5, by decide, rfl, tb1 168 rfl rfl, rfl, rfl, rfl, Or.inr ⟨_, rfl⟩⟩
theorem fl_X8_47 : flq RX8 47 5 9 2 2 false true := ⟨RX5, TX5, tyX5, clk_5, by decide, rfl, tb1 169 rfl rfl, rfl, rfl, rfl, Or.inr ⟨_, rfl⟩⟩
theorem fl_X5_18 : flq RX5 18 5 9 3 3 false true := ⟨RX5, TX5, tyX5, clk_5, by decide, rfl, tb1 170 rfl rfl, rfl, rfl, rfl, Or.inr ⟨_, rfl⟩⟩
theorem fl_X8_49 : flq RX8 49 5 9 3 3 false true := ⟨RX5, TX5, tyX5, clk_5, by decide, rfl, tb1 171 rfl rfl, rfl, rfl, rfl, Or.inr ⟨_, rfl⟩⟩
theorem fl_X8_45 : flq RX8 45 5 9 4 4 true false := ⟨RX5, TX5, tyX5, clk_5, by decide, rfl, tb1 172 rfl rfl, rfl, rfl, rfl, rfl⟩
theorem fl_X5_31 : flq RX5 31 5 9 4 4 true false := ⟨RX5, TX5, tyX5, clk_5, by decide, rfl, tb1 173 rfl rfl, rfl, rfl, rfl, rfl⟩
theorem fl_X5_34 : flq RX5 34 5 9 5 5 true false := ⟨RX5, TX5, tyX5, clk_5, by decide, rfl, tb1 174 rfl rfl, rfl, rfl, rfl, rfl⟩
theorem fl_X10_213 : flq RX10 213 5 9 5 5 true false := ⟨RX5, TX5, tyX5, clk_5, by decide, rfl, tb1 175 rfl rfl, rfl, rfl, rfl, rfl⟩
theorem fl_X5_21 : flq RX5 21 5 9 6 6 true false := ⟨RX5, TX5, tyX5, clk_5, by decide, rfl, tb1 176 rfl rfl, rfl, rfl, rfl, rfl⟩
theorem fl_X10_219 : flq RX10 219 5 9 6 6 true false := ⟨RX5, TX5, tyX5, clk_5, by decide, rfl, tb1 177 rfl rfl, rfl, rfl, rfl, rfl⟩
theorem fl_X5_28 : flq RX5 28 5 9 7 7 true false := ⟨RX5, TX5, tyX5, clk_5, by decide, rfl, tb1 178 rfl rfl, rfl, rfl, rfl, rfl⟩
theorem fl_X5_48 : flq RX5 48 5 9 8 8 true false := ⟨RX5, TX5, tyX5, clk_5, by decide, rfl, tb1 179 rfl rfl, rfl, rfl, rfl, rfl⟩
theorem fl_X7_49 : flq RX7 49 7 16 0 0 false true := ⟨RX7, TX7, tyX7, clk_7, by decide, rfl, tb1 205 rfl rfl, rfl, rfl, rfl, Or.inl ⟨_, rfl⟩⟩
theorem fl_X7_53 : flq RX7 53 7 16 1 1 false true := ⟨RX7, TX7, tyX7, clk_7, by decide, rfl, tb1 206 rfl rfl, rfl, rfl, rfl, Or.inl ⟨_, rfl⟩⟩
theorem fl_X7_57 : flq RX7 57 7 16 2 2 false true := ⟨RX7, TX7, tyX7, clk_7, by decide, rfl, tb1 207 rfl rfl, rfl, rfl, rfl, Or.inl ⟨_, rfl⟩⟩
theorem fl_X7_9 : flq RX7 9 7 16 3 3 false true := ⟨RX7, TX7, tyX7, clk_7, by decide, rfl, tb1 208 rfl rfl, rfl, rfl, rfl, Or.inr ⟨_, rfl⟩⟩
theorem fl_X0_38 : flq RX0 38 7 16 3 3 false true := ⟨RX7, TX7, tyX7, clk_7, by decide, rfl, tb1 209 rfl rfl, rfl, rfl, rfl, Or.inr ⟨_, rfl⟩⟩
theorem fl_X10_238 : flq RX10 238 7 16 3 3 false true := ⟨RX7, TX7, tyX7, clk_7, by decide, rfl, tb1 210 rfl rfl, rfl, rfl, rfl, Or.inr ⟨_, rfl⟩⟩
theorem fl_X7_15 : flq RX7 15 7 16 4 4 false true := ⟨RX7, TX7, tyX7, clk_7, by decide, rfl, tb1 211 rfl rfl, rfl, rfl, rfl, Or.inr ⟨_, rfl⟩⟩
theorem fl_X10_178 : flq RX10 178 7 16 4 4 false true := ⟨RX7, TX7, tyX7, clk_7, by decide, rfl, tb1 212 rfl rfl, rfl, rfl, rfl, Or.inr ⟨_, rfl⟩⟩
theorem fl_X7_18 : flq RX7 18 7 16 5 5 false true := ⟨RX7, TX7, tyX7, clk_7, by decide, rfl, tb1 213 rfl rfl, rfl, rfl, rfl, Or.inr ⟨_, rfl⟩⟩
theorem fl_X0_42 : flq RX0 42 7 16 5 5 false true := ⟨RX7, TX7, tyX7, clk_7, by decide, rfl, tb1 214 rfl rfl, rfl, rfl, rfl, Or.inr ⟨_, rfl⟩⟩
theorem fl_X10_259 : flq RX10 259 7 16 5 5 false true := ⟨RX7, TX7, tyX7, clk_7, by decide, rfl, tb1 215 rfl rfl, rfl, rfl, rfl, Or.inr ⟨_, rfl⟩⟩
theorem fl_X7_22 : flq RX7 22 7 16 6 6 false true := ⟨RX7, TX7, tyX7, clk_7, by decide, rfl, tb1 216 rfl rfl, rfl, rfl, rfl, Or.inr ⟨_, rfl⟩⟩
theorem fl_X0_32 : flq RX0 32 7 16 6 6 false true := ⟨RX7, TX7, tyX7, clk_7, by decide, rfl, tb1 217 rfl rfl, rfl, rfl, rfl, Or.inr ⟨_, rfl⟩⟩
theorem fl_X10_241 : flq RX10 241 7 16 6 6 false true := ⟨RX7, TX7, tyX7, clk_7, by decide, rfl, tb1 218 rfl rfl, rfl, rfl, rfl, Or.inr ⟨_, rfl⟩⟩
theorem fl_X7_25 : flq RX7 25 7 16 7 7 false true := ⟨RX7, TX7, tyX7, clk_7, by decide, rfl, tb1 219 rfl rfl, rfl, rfl, rfl, Or.inr ⟨_, rfl⟩⟩
theorem fl_X10_244 : flq RX10 244 7 16 7 7 false true := ⟨RX7, TX7, tyX7, clk_7, by decide, rfl, tb1 220 rfl rfl, rfl, rfl, rfl, Or.inr ⟨_, rfl⟩⟩
theorem fl_X7_28 : flq RX7 28 7 16 8 8 false true := ⟨RX7, TX7, tyX7, clk_7, by decide, rfl, tb1 221 rfl rfl, rfl, rfl, rfl, Or.inr ⟨_, rfl⟩⟩
theorem fl_X10_247 : flq RX10 247 7 16 8 8 false true := ⟨RX7, TX7, tyX7, clk_7, by decide, rfl, tb1 222 rfl rfl, rfl, rfl, rfl, Or.inr ⟨_, rfl⟩⟩
theorem fl_X7_31 : flq RX7 31 7 16 9 9 false true := ⟨RX7, TX7, tyX7, clk_7, by decide, rfl, tb1 223 rfl rfl, rfl, rfl, rfl, Or.inr ⟨_, rfl⟩⟩
theorem fl_X10_250 : flq RX10 250 7 16 9 9 false true := ⟨RX7, TX7, tyX7, clk_7, by decide, rfl, tb1 224 rfl rfl, rfl, rfl, rfl, Or.inr ⟨_, rfl⟩⟩
theorem fl_X7_34 : flq RX7 34 7 16 10 10 false true := ⟨RX7, TX7, tyX7, clk_7, by decide, rfl, tb1 225 rfl rfl, rfl, rfl, rfl, Or.inr ⟨_, rfl⟩⟩
theorem fl_X10_253 : flq RX10 253 7 16 10 10 false true := ⟨RX7, TX7, tyX7, clk_7, by decide, rfl, tb1 226 rfl rfl, rfl, rfl, rfl, Or.inr ⟨_, rfl⟩⟩
theorem fl_X7_37 : flq RX7 37 7 16 11 11 false true := ⟨RX7, TX7, tyX7, clk_7, by decide, rfl, tb1 227 rfl rfl, rfl, rfl, rfl, Or.inr ⟨_, rfl⟩⟩
theorem fl_X10_256 : flq RX10 256 7 16 11 11 false true := ⟨RX7, TX7, tyX7, clk_7, by decide, rfl, tb1 228 rfl rfl, rfl, rfl, rfl, Or.inr ⟨_, rfl⟩⟩
theorem fl_X7_40 : flq RX7 40 7 16 12 12 false true := ⟨RX7, TX7, tyX7, clk_7, by decide, rfl, tb1 229 rfl rfl, rfl, rfl, rfl, Or.inr ⟨_, rfl⟩⟩
theorem fl_X10_265 : flq RX10 265 7 16 12 12 false true := ⟨RX7, TX7, tyX7, clk_7, by decide, rfl, tb1 230 rfl rfl, rfl, rfl, rfl, Or.inr ⟨_, rfl⟩⟩
theorem fl_X7_43 : flq RX7 43 7 16 13 13 false true := ⟨RX7, TX7, tyX7, clk_7, by decide, rfl, tb1 231 rfl rfl, rfl, rfl, rfl, Or.inr ⟨_, rfl⟩⟩
theorem fl_X10_268 : flq RX10 268 7 16 13 13 false true := ⟨RX7, TX7, tyX7, clk_7, by decide, rfl, tb1 232 rfl rfl, rfl, rfl, rfl, Or.inr ⟨_, rfl⟩⟩
theorem fl_X7_46 : flq RX7 46 7 16 14 14 false true := ⟨RX7, TX7, tyX7, clk_7, by decide, rfl, tb1 233 rfl rfl, rfl, rfl, rfl, Or.inr ⟨_, rfl⟩⟩
theorem fl_X10_271 : flq RX10 271 7 16 14 14 false true := ⟨RX7, TX7, tyX7, clk_7, by decide, rfl, tb1 234 rfl rfl, rfl, rfl, rfl, Or.inr ⟨_, rfl⟩⟩
theorem fl_X7_90 : flq RX7 90 7 16 15 15 true false := ⟨RX7, TX7, tyX7, clk_7, by decide, rfl, tb1 235 rfl rfl, rfl, rfl, rfl, rfl⟩
theorem fl_X10_195 : flq RX10 195 7 16 15 15 true false := ⟨RX7, TX7, tyX7, clk_7, by decide, rfl, tb1 236 rfl rfl, rfl, rfl, rfl, rfl⟩
theorem fl_X0_9 : flq RX0 9 0 3 0 0 false true := ⟨RX0, TX0, tyX0, clk_0, by decide, rfl, tb2 36 rfl rfl, rfl, rfl, rfl, Or.inr ⟨_, rfl⟩⟩
theorem fl_X0_15 : flq RX0 15 0 3 1 1 false true := ⟨RX0, TX0, tyX0, clk_0, by decide, rfl, tb2 37 rfl rfl, rfl, rfl, rfl, Or.inr ⟨_, rfl⟩⟩
theorem fl_X0_18 : flq RX0 18 0 3 2 2 true false := ⟨RX0, TX0, tyX0, clk_0, by decide, rfl, tb2 38 rfl rfl, rfl, rfl, rfl, rfl⟩
theorem fl_X10_285 : flq RX10 285 0 3 2 2 true false := ⟨RX0, TX0, tyX0, clk_0, by decide, rfl, tb2 39 rfl rfl, rfl, rfl, rfl, rfl⟩
theorem fl_X9_9 : flq RX9 9 9 5 0 0 false true := ⟨RX9, TX9, tyX9, clk_9, by decide, rfl, tb2 53 rfl rfl, rfl, rfl, rfl, Or.inr ⟨_, rfl⟩⟩
theorem fl_X10_309 : flq RX10 309 9 5 0 0 false true := ⟨RX9, TX9, tyX9, clk_9, by decide, rfl, tb2 54 rfl rfl, rfl, rfl, rfl, Or.inr ⟨_, rfl⟩⟩
theorem fl_X9_13 : flq RX9 13 9 5 1 1 false true := ⟨RX9, TX9, tyX9, clk_9, by decide, rfl, tb2 55 rfl rfl, rfl, rfl, rfl, Or.inr ⟨_, rfl⟩⟩
theorem fl_X10_308 : flq RX10 308 9 5 1 1 false true := ⟨RX9, TX9, tyX9, clk_9, by decide, rfl, tb2 56 rfl rfl, rfl, rfl, rfl, Or.inr ⟨_, rfl⟩⟩
theorem fl_X9_16 : flq RX9 16 9 5 2 2 false true := ⟨RX9, TX9, tyX9, clk_9, by decide, rfl, tb2 57 rfl rfl, rfl, rfl, rfl, Or.inr ⟨_, rfl⟩⟩
theorem fl_X10_310 : flq RX10 310 9 5 2 2 false true := ⟨RX9, TX9, tyX9, clk_9, by decide, rfl, tb2 58 rfl rfl, rfl, rfl, rfl, Or.inr ⟨_, rfl⟩⟩
theorem fl_X9_19 : flq RX9 19 9 5 3 3 false true := ⟨RX9, TX9, tyX9, clk_9, by decide, rfl, tb2 59 rfl rfl, rfl, rfl, rfl, Or.inr ⟨_, rfl⟩⟩
theorem fl_X10_307 : flq RX10 307 9 5 3 3 false true := ⟨RX9, TX9, tyX9, clk_9, by decide, rfl, tb2 60 rfl rfl, rfl, rfl, rfl, Or.inr ⟨_, rfl⟩⟩
theorem fl_X9_22 : flq RX9 22 9 5 4 4 true false := ⟨RX9, TX9, tyX9, clk_9, by decide, rfl, tb2 61 rfl rfl, rfl, rfl, rfl, rfl⟩
theorem fl_X10_204 : flq RX10 204 9 5 4 4 true false := ⟨RX9, TX9, tyX9, clk_9, by decide, rfl, tb2 62 rfl rfl, rfl, rfl, rfl, rfl⟩
theorem fl_X6_11 : flq RX6 11 6 8 0 0 false true := ⟨RX6, TX6, tyX6, clk_6, by decide, rfl, tb2 81 rfl rfl, rfl, rfl, rfl, Or.inr ⟨_, rfl⟩⟩
theorem fl_X6_15 : flq RX6 15 6 8 1 1 false true := ⟨RX6, TX6, tyX6, clk_6, by decide, rfl, tb2 82 rfl rfl, rfl, rfl, rfl, Or.inr ⟨_, rfl⟩⟩
theorem fl_X6_18 : flq RX6 18 6 8 2 2 false true := ⟨RX6, TX6, tyX6, clk_6, by decide, rfl, tb2 83 rfl rfl, rfl, rfl, rfl, Or.inr ⟨_, rfl⟩⟩
theorem fl_X6_21 : flq RX6 21 6 8 3 3 false true := ⟨RX6, TX6, tyX6, clk_6, by decide, rfl, tb2 84 rfl rfl, rfl, rfl, rfl, Or.inr ⟨_, rfl⟩⟩
theorem fl_X6_24 : flq RX6 24 6 8 4 4 false true := ⟨RX6, TX6, tyX6, clk_6, by decide, rfl, tb2 85 rfl rfl, rfl, rfl, rfl, Or.inr ⟨_, rfl⟩⟩
theorem fl_X6_27 : flq RX6 27 6 8 5 5 false true := ⟨RX6, TX6, tyX6, clk_6, by decide, rfl, tb2 86 rfl rfl, rfl, rfl, rfl, Or.inr ⟨_, rfl⟩⟩
theorem fl_X6_30 : flq RX6 30 6 8 6 6 false true := ⟨RX6, TX6, tyX6, clk_6, by decide, rfl, tb2 87 rfl rfl, rfl, rfl, rfl, Or.inr ⟨_, rfl⟩⟩
theorem fl_X6_33 : flq RX6 33 6 8 7 7 true false := ⟨RX6, TX6, tyX6, clk_6, by decide, rfl, tb2 88 rfl rfl, rfl, rfl, rfl, rfl⟩
theorem fl_X10_199 : flq RX10 199 6 8 7 7 true false := ⟨RX6, TX6, tyX6, clk_6, by decide, rfl, tb2 89 rfl rfl, rfl, rfl, rfl, rfl⟩
theorem fl_X1_11 : flq RX1 11 1 10 0 0 false true := ⟨RX1, TX1, tyX1, clk_1, by decide, rfl, tb2 113 rfl rfl, rfl, rfl, rfl, Or.inr ⟨_, rfl⟩⟩
theorem fl_X1_15 : flq RX1 15 1 10 1 1 false true := ⟨RX1, TX1, tyX1, clk_1, by decide, rfl, tb2 114 rfl rfl, rfl, rfl, rfl, Or.inr ⟨_, rfl⟩⟩
theorem fl_X1_18 : flq RX1 18 1 10 2 2 false true := ⟨RX1, TX1, tyX1, clk_1, by decide, rfl, tb2 115 rfl rfl, rfl, rfl, rfl, Or.inr ⟨_, rfl⟩⟩
theorem fl_X1_21 : flq RX1 21 1 10 3 3 false true := ⟨RX1, TX1, tyX1, clk_1, by decide, rfl, tb2 116 rfl rfl, rfl, rfl, rfl, Or.inr ⟨_, rfl⟩⟩
theorem fl_X1_37 : flq RX1 37 1 10 4 4 true false := ⟨RX1, TX1, tyX1, clk_1, by decide, rfl, tb2 117 rfl rfl, rfl, rfl, rfl, rfl⟩
theorem fl_X10_200 : flq RX10 200 1 10 4 4 true false := ⟨RX1, TX1, tyX1, clk_1, by decide, rfl, tb2 118 rfl rfl, rfl, rfl, rfl, rfl⟩
theorem fl_X1_24 : flq RX1 24 1 10 5 5 false true := ⟨RX1, TX1, tyX1, clk_1, by decide, rfl, tb2 119 rfl rfl, rfl, rfl, rfl, Or.inr ⟨_, rfl⟩⟩
theorem fl_X10_337 : flq RX10 337 1 10 5 5 false true := ⟨RX1, TX1, tyX1, clk_1, by decide, rfl, tb2 120 rfl rfl, rfl, rfl, rfl, Or.inr ⟨_, rfl⟩⟩
theorem fl_X1_27 : flq RX1 27 1 10 6 6 false true := ⟨RX1, TX1, tyX1, clk_1, by decide, rfl, tb2 121 rfl rfl, rfl, rfl, rfl, Or.inr ⟨_, rfl⟩⟩
theorem fl_X10_351 : flq RX10 351 1 10 6 6 false true := ⟨RX1, TX1, tyX1, clk_1, by decide, rfl, tb2 122 rfl rfl, rfl, rfl, rfl, Or.inr ⟨_, rfl⟩⟩
theorem fl_X1_30 : flq RX1 30 1 10 7 7 false true := ⟨RX1, TX1, tyX1, clk_1, by decide, rfl, tb2 123 rfl rfl, rfl, rfl, rfl, Or.inr ⟨_, rfl⟩⟩
theorem fl_X10_346 : flq RX10 346 1 10 7 7 false true := ⟨RX1, TX1, tyX1, clk_1, by decide, rfl, tb2 124 rfl rfl, rfl, rfl, rfl, Or.inr ⟨_, rfl⟩⟩
theorem fl_X1_33 : flq RX1 33 1 10 8 8 false true := ⟨RX1, TX1, tyX1, clk_1, by decide, rfl, tb2 125 rfl rfl, rfl, rfl, rfl, Or.inr ⟨_, rfl⟩⟩
theorem fl_X10_343 : flq RX10 343 1 10 8 8 false true := ⟨RX1, TX1, tyX1, clk_1, by decide, rfl, tb2 126 rfl rfl, rfl, rfl, rfl, Or.inr ⟨_, rfl⟩⟩
theorem fl_X1_44 : flq RX1 44 1 10 9 9 true false := ⟨RX1, TX1, tyX1, clk_1, by decide, rfl, tb2 127 rfl rfl, rfl, rfl, rfl, rfl⟩
theorem fl_X10_354 : flq RX10 354 1 10 9 9 true false := ⟨RX1, TX1, tyX1, clk_1, by decide, rfl, tb2 128 rfl rfl, rfl, rfl, rfl, rfl⟩
theorem fl_X4_9 : flq RX4 9 4 7 0 0 false true := ⟨RX4, TX4, tyX4, clk_4, by decide, rfl, tb2 156 rfl rfl, rfl, rfl, rfl, Or.inr ⟨_, rfl⟩⟩
theorem fl_X4_15 : flq RX4 15 4 7 1 1 false true := ⟨RX4, TX4, tyX4, clk_4, by decide, rfl, tb2 157 rfl rfl, rfl, rfl, rfl, Or.inr ⟨_, rfl⟩⟩
theorem fl_X4_45 : flq RX4 45 4 7 2 2 true false := ⟨RX4, TX4, tyX4, clk_4, by decide, rfl, tb2 158 rfl rfl, rfl, rfl, rfl, rfl⟩
theorem fl_X4_18 : flq RX4 18 4 7 3 3 false true := ⟨RX4, TX4, tyX4, clk_4, by decide, rfl, tb2 159 rfl rfl, rfl, rfl, rfl, Or.inr ⟨_, rfl⟩⟩
theorem fl_X4_21 : flq RX4 21 4 7 4 4 false true := ⟨RX4, TX4, tyX4, clk_4, by decide, rfl, tb2 160 rfl rfl, rfl, rfl, rfl, Or.inr ⟨_, rfl⟩⟩
theorem fl_X4_24 : flq RX4 24 4 7 5 5 false true := ⟨RX4, TX4, tyX4, clk_4, by decide, rfl, tb2 161 rfl rfl, rfl, rfl, rfl, Or.inr ⟨_, rfl⟩⟩
theorem fl_X4_28 : flq RX4 28 4 7 6 6 false true := ⟨RX4, TX4, tyX4, clk_4, by decide, rfl, tb2 162 rfl rfl, rfl, rfl, rfl, Or.inr ⟨_, rfl⟩⟩
theorem fl_X10_7 : flq RX10 7 10 15 0 0 true false := ⟨RX10, TX10, tyX10, clk_10, by decide, rfl, tb2 179 rfl rfl, rfl, rfl, rfl, rfl⟩
theorem fl_X10_16 : flq RX10 16 10 15 1 1 false true := ⟨RX10, TX10, tyX10, clk_10, by decide, rfl, tb2 180 rfl rfl, rfl, rfl, rfl, Or.inl ⟨_, rfl⟩⟩
theorem fl_X10_23 : flq RX10 23 10 15 2 2 false true := ⟨RX10, TX10, tyX10, clk_10, by decide, rfl, tb2 181 rfl rfl, rfl, rfl, rfl, Or.inl ⟨_, rfl⟩⟩
theorem fl_X10_30 : flq RX10 30 10 15 3 3 false true := ⟨RX10, TX10, tyX10, clk_10, by decide, rfl, tb2 182 rfl rfl, rfl, rfl, rfl, Or.inl ⟨_, rfl⟩⟩
theorem fl_X10_37 : flq RX10 37 10 15 4 4 false true := ⟨RX10, TX10, tyX10, clk_10, by decide, rfl, tb2 183 rfl rfl, rfl, rfl, rfl, Or.inl ⟨_, rfl⟩⟩
theorem fl_X10_46 : flq RX10 46 10 15 5 5 false true := ⟨RX10, TX10, tyX10, clk_10, by decide, rfl, tb2 184 rfl rfl, rfl, rfl, rfl, Or.inl ⟨_, rfl⟩⟩
theorem fl_X10_50 : flq RX10 50 10 15 6 6 false true := ⟨RX10, TX10, tyX10, clk_10, by decide, rfl, tb2 185 rfl rfl, rfl, rfl, rfl, Or.inl ⟨_, rfl⟩⟩
theorem fl_X10_56 : flq RX10 56 10 15 7 7 false true := ⟨RX10, TX10, tyX10, clk_10, by decide, rfl, tb2 186 rfl rfl, rfl, rfl, rfl, Or.inl ⟨_, rfl⟩⟩
theorem fl_X10_63 : flq RX10 63 10 15 8 8 false true := ⟨RX10, TX10, tyX10, clk_10, by decide, rfl, tb2 187 rfl rfl, rfl, rfl, rfl, Or.inl ⟨_, rfl⟩⟩
theorem fl_X10_69 : flq RX10 69 10 15 9 9 false true := ⟨RX10, TX10, tyX10, clk_10, by decide, rfl, tb2 188 rfl rfl, rfl, rfl, rfl, Or.inr ⟨_, rfl⟩⟩
theorem fl_X10_75 : flq RX10 75 10 15 10 10 false true := ⟨RX10, TX10, tyX10, clk_10, by decide, rfl, tb2 189 rfl rfl, rfl, rfl, rfl, Or.inl ⟨_, rfl⟩⟩
theorem fl_X10_82 : flq RX10 82 10 15 11 11 false true := ⟨RX10, TX10, tyX10, clk_10, by decide, rfl, tb2 190 rfl rfl, rfl, rfl, rfl, Or.inl ⟨_, rfl⟩⟩
theorem fl_X10_86 : flq RX10 86 10 15 12 12 false true := ⟨RX10, TX10, tyX10, clk_10, by decide, rfl, tb2 191 rfl rfl, rfl, rfl, rfl, Or.inr ⟨_, rfl⟩⟩
theorem fl_X10_90 : flq RX10 90 10 15 13 13 false true := ⟨RX10, TX10, tyX10, clk_10, by decide, rfl, tb2 192 rfl rfl, rfl, rfl, rfl, Or.inr ⟨_, rfl⟩⟩
theorem fl_X10_96 : flq RX10 96 10 15 14 14 false true := ⟨RX10, TX10, tyX10, clk_10, by decide, rfl, tb2 193 rfl rfl, rfl, rfl, rfl, Or.inl ⟨_, rfl⟩⟩
theorem fl_X11_205 : flq RX11 205 11 79 0 0 true false := ⟨RX11, TX11, tyX11, clk_11, by decide, rfl, tb5 119 rfl rfl, rfl, rfl, rfl, rfl⟩
theorem fl_X11_208 : flq RX11 208 11 79 1 1 true false := ⟨RX11, TX11, tyX11, clk_11, by decide, rfl, tb5 120 rfl rfl, rfl, rfl, rfl, rfl⟩
theorem fl_X11_7 : flq RX11 7 11 79 2 2 false true := ⟨RX11, TX11, tyX11, clk_11, by decide, rfl, tb5 121 rfl rfl, rfl, rfl, rfl, Or.inr ⟨_, rfl⟩⟩
theorem fl_X11_13 : flq RX11 13 11 79 3 3 false true := ⟨RX11, TX11, tyX11, clk_11, by decide, rfl, tb5 122 rfl rfl, rfl, rfl, rfl, Or.inr ⟨_, rfl⟩⟩
theorem fl_X11_16 : flq RX11 16 11 79 4 4 false true := ⟨RX11, TX11, tyX11, clk_11, by decide, rfl, tb5 123 rfl rfl, rfl, rfl, rfl, Or.inr ⟨_, rfl⟩⟩
theorem fl_X11_19 : flq RX11 19 11 79 5 5 false true := ⟨RX11, TX11, tyX11, clk_11, by decide, rfl, tb5 124 rfl rfl, rfl, rfl, rfl, Or.inr ⟨_, rfl⟩⟩
theorem fl_X11_22 : flq RX11 22 11 79 6 6 false true := ⟨RX11, TX11, tyX11, clk_11, by decide, rfl, tb5 125 rfl rfl, rfl, rfl, rfl, Or.inr ⟨_, rfl⟩⟩
theorem fl_X11_25 : flq RX11 25 11 79 7 7 false true := ⟨RX11, TX11, tyX11, clk_11, by decide, rfl, tb5 126 rfl rfl, rfl, rfl, rfl, Or.inr ⟨_, rfl⟩⟩
theorem fl_X11_28 : flq RX11 28 11 79 8 8 false true := ⟨RX11, TX11, tyX11, clk_11, by decide, rfl, tb5 127 rfl rfl, rfl, rfl, rfl, Or.inr ⟨_, rfl⟩⟩
theorem fl_X11_227 : flq RX11 227 11 79 9 9 true false := ⟨RX11, TX11, tyX11, clk_11, by decide, rfl, tb5 128 rfl rfl, rfl, rfl, rfl, rfl⟩
theorem fl_X11_31 : flq RX11 31 11 79 10 10 false true := ⟨RX11, TX11, tyX11, clk_11, by decide, rfl, tb5 129 rfl rfl, rfl, rfl, rfl, Or.inr ⟨_, rfl⟩⟩
theorem fl_X11_34 : flq RX11 34 11 79 11 11 false true := ⟨RX11, TX11, tyX11, clk_11, by decide, rfl, tb5 130 rfl rfl, rfl, rfl, rfl, Or.inr ⟨_, rfl⟩⟩
theorem fl_X11_37 : flq RX11 37 11 79 12 12 false true := ⟨RX11, TX11, tyX11, clk_11, by decide, rfl, tb5 131 rfl rfl, rfl, rfl, rfl, Or.inr ⟨_, rfl⟩⟩
theorem fl_X11_40 : flq RX11 40 11 79 13 13 false true := ⟨RX11, TX11, tyX11, clk_11, by decide, rfl, tb5 132 rfl rfl, rfl, rfl, rfl, Or.inr ⟨_, rfl⟩⟩
theorem fl_X11_43 : flq RX11 43 11 79 14 14 false true := ⟨RX11, TX11, tyX11, clk_11, by decide, rfl, tb5 133 rfl rfl, rfl, rfl, rfl, Or.inr ⟨_, rfl⟩⟩
theorem fl_X11_46 : flq RX11 46 11 79 15 15 false true := ⟨RX11, TX11, tyX11, clk_11, by decide, rfl, tb5 134 rfl rfl, rfl, rfl, rfl, Or.inr ⟨_, rfl⟩⟩
theorem fl_X11_49 : flq RX11 49 11 79 16 16 false true := ⟨RX11, TX11, tyX11, clk_11, by decide, rfl, tb5 135 rfl rfl, rfl, rfl, rfl, Or.inr ⟨_, rfl⟩⟩
theorem fl_X11_52 : flq RX11 52 11 79 17 17 false true := ⟨RX11, TX11, tyX11, clk_11, by decide, rfl, tb5 136 rfl rfl, rfl, rfl, rfl, Or.inr ⟨_, rfl⟩⟩
theorem fl_X11_56 : flq RX11 56 11 79 18 18 false true := ⟨RX11, TX11, tyX11, clk_11, by decide, rfl, tb5 137 rfl rfl, rfl, rfl, rfl, Or.inr ⟨_, rfl⟩⟩
theorem fl_X11_59 : flq RX11 59 11 79 19 19 false true := ⟨RX11, TX11, tyX11, clk_11, by decide, rfl, tb5 138 rfl rfl, rfl, rfl, rfl, Or.inr ⟨_, rfl⟩⟩
theorem fl_X11_62 : flq RX11 62 11 79 20 20 false true := ⟨RX11, TX11, tyX11, clk_11, by decide, rfl, tb5 139 rfl rfl, rfl, rfl, rfl, Or.inr ⟨_, rfl⟩⟩
theorem fl_X11_255 : flq RX11 255 11 79 21 21 true false := ⟨RX11, TX11, tyX11, clk_11, by decide, rfl, tb5 140 rfl rfl, rfl, rfl, rfl, rfl⟩
theorem fl_X11_323 : flq RX11 323 11 79 22 22 true false := ⟨RX11, TX11, tyX11, clk_11, by decide, rfl, tb5 141 rfl rfl, rfl, rfl, rfl, rfl⟩
theorem fl_X11_65 : flq RX11 65 11 79 23 23 false true := ⟨RX11, TX11, tyX11, clk_11, by decide, rfl, tb5 142 rfl rfl, rfl, rfl, rfl, Or.inr ⟨_, rfl⟩⟩
theorem fl_X11_68 : flq RX11 68 11 79 24 24 false true := ⟨RX11, TX11, tyX11, clk_11, by decide, rfl, tb5 143 rfl rfl, rfl, rfl, rfl, Or.inr ⟨_, rfl⟩⟩
theorem fl_X11_71 : flq RX11 71 11 79 25 25 false true := ⟨RX11, TX11, tyX11, clk_11, by decide, rfl, tb5 144 rfl rfl, rfl, rfl, rfl, Or.inr ⟨_, rfl⟩⟩
theorem fl_X11_74 : flq RX11 74 11 79 26 26 false true := ⟨RX11, TX11, tyX11, clk_11, by decide, rfl, tb5 145 rfl rfl, rfl, rfl, rfl, Or.inr ⟨_, rfl⟩⟩
theorem fl_X11_77 : flq RX11 77 11 79 27 27 false true := ⟨RX11, TX11, tyX11, clk_11, by decide, rfl, tb5 146 rfl rfl, rfl, rfl, rfl, Or.inr ⟨_, rfl⟩⟩
theorem fl_X11_80 : flq RX11 80 11 79 28 28 false true := ⟨RX11, TX11, tyX11, clk_11, by decide, rfl, tb5 147 rfl rfl, rfl, rfl, rfl, Or.inr ⟨_, rfl⟩⟩
theorem fl_X11_264 : flq RX11 264 11 79 29 29 true false := ⟨RX11, TX11, tyX11, clk_11, by decide, rfl, tb5 148 rfl rfl, rfl, rfl, rfl, rfl⟩
theorem fl_X11_269 : flq RX11 269 11 79 30 30 true false := ⟨RX11, TX11, tyX11, clk_11, by decide, rfl, tb5 149 rfl rfl, rfl, rfl, rfl, rfl⟩
theorem fl_X11_272 : flq RX11 272 11 79 31 31 true false := ⟨RX11, TX11, tyX11, clk_11, by decide, rfl, tb5 150 rfl rfl, rfl, rfl, rfl, rfl⟩
theorem fl_X11_83 : flq RX11 83 11 79 32 32 true false := ⟨RX11, TX11, tyX11, clk_11, by decide, rfl, tb5 151 rfl rfl, rfl, rfl, rfl, rfl⟩
theorem fl_X11_279 : flq RX11 279 11 79 33 33 true false := ⟨RX11, TX11, tyX11, clk_11, by decide, rfl, tb5 152 rfl rfl, rfl, rfl, rfl, rfl⟩
theorem fl_X11_286 : flq RX11 286 11 79 34 34 true false := ⟨RX11, TX11, tyX11, clk_11, by decide, rfl, tb5 153 rfl rfl, rfl, rfl, rfl, rfl⟩
theorem fl_X11_87 : flq RX11 87 11 79 35 35 false true := ⟨RX11, TX11, tyX11, clk_11, by decide, rfl, tb5 154 rfl rfl, rfl, rfl, rfl, Or.inr ⟨_, rfl⟩⟩
theorem fl_X11_90 : flq RX11 90 11 79 36 36 false true := ⟨RX11, TX11, tyX11, clk_11, by decide, rfl, tb5 155 rfl rfl, rfl, rfl, rfl, Or.inr ⟨_, rfl⟩⟩
theorem fl_X11_93 : flq RX11 93 11 79 37 37 false true := ⟨RX11, TX11, tyX11, clk_11, by decide, rfl, tb5 156 rfl rfl, rfl, rfl, rfl, Or.inr ⟨_, rfl⟩⟩
theorem fl_X11_333 : flq RX11 333 11 79 38 38 true false := ⟨RX11, TX11, tyX11, clk_11, by decide, rfl, tb5 157 rfl rfl, rfl, rfl, rfl, rfl⟩
theorem fl_X11_336 : flq RX11 336 11 79 39 39 true false := ⟨RX11, TX11, tyX11, clk_11, by decide, rfl, tb5 158 rfl rfl, rfl, rfl, rfl, rfl⟩
theorem fl_X11_96 : flq RX11 96 11 79 40 40 false true := ⟨RX11, TX11, tyX11, clk_11, by decide, rfl, tb5 159 rfl rfl, rfl, rfl, rfl, Or.inr ⟨_, rfl⟩⟩
theorem fl_X11_99 : flq RX11 99 11 79 41 41 false true := ⟨RX11, TX11, tyX11, clk_11, by decide, rfl, tb5 160 rfl rfl, rfl, rfl, rfl, Or.inr ⟨_, rfl⟩⟩
theorem fl_X11_102 : flq RX11 102 11 79 42 42 false true := ⟨RX11, TX11, tyX11, clk_11, by decide, rfl, tb5 161 rfl rfl, rfl, rfl, rfl, Or.inr ⟨_, rfl⟩⟩
theorem fl_X11_105 : flq RX11 105 11 79 43 43 false true := ⟨RX11, TX11, tyX11, clk_11, by decide, rfl, tb5 162 rfl rfl, rfl, rfl, rfl, Or.inr ⟨_, rfl⟩⟩
theorem fl_X11_108 : flq RX11 108 11 79 44 44 false true := ⟨RX11, TX11, tyX11, clk_11, by decide, rfl, tb5 163 rfl rfl, rfl, rfl, rfl, Or.inr ⟨_, rfl⟩⟩
theorem fl_X11_111 : flq RX11 111 11 79 45 45 false true := ⟨RX11, TX11, tyX11, clk_11, by decide, rfl, tb5 164 rfl rfl, rfl, rfl, rfl, Or.inr ⟨_, rfl⟩⟩
theorem fl_X11_114 : flq RX11 114 11 79 46 46 false true := ⟨RX11, TX11, tyX11, clk_11, by decide, rfl, tb5 165 rfl rfl, rfl, rfl, rfl, Or.inr ⟨_, rfl⟩⟩
theorem fl_X11_117 : flq RX11 117 11 79 47 47 false true := ⟨RX11, TX11, tyX11, clk_11, by decide, rfl, tb5 166 rfl rfl, rfl, rfl, rfl, Or.inr ⟨_, rfl⟩⟩
theorem fl_X11_120 : flq RX11 120 11 79 48 48 false true := ⟨RX11, TX11, tyX11, clk_11, by decide, rfl, tb5 167 rfl rfl, rfl, rfl, rfl, Or.inr ⟨_, rfl⟩⟩
theorem fl_X11_123 : flq RX11 123 11 79 49 49 false true := ⟨RX11, TX11, tyX11, clk_11, by decide, rfl, tb5 168 rfl rfl, rfl, rfl, rfl, Or.inr ⟨_, rfl⟩⟩
theorem fl_X11_126 : flq RX11 126 11 79 50 50 false true := ⟨RX11, TX11, tyX11, clk_11, by decide, rfl, tb5 169 rfl rfl, rfl, rfl, rfl, Or.inr ⟨_, rfl⟩⟩
theorem fl_X11_407 : flq RX11 407 11 79 51 51 true false := ⟨RX11, TX11, tyX11, clk_11, by decide, rfl, tb5 170 rfl rfl, rfl, rfl, rfl, rfl⟩
theorem fl_X11_129 : flq RX11 129 11 79 52 52 false true := ⟨RX11, TX11, tyX11, clk_11, by decide, rfl, tb5 171 rfl rfl, rfl, rfl, rfl, Or.inr ⟨_, rfl⟩⟩
theorem fl_X11_132 : flq RX11 132 11 79 53 53 false true := ⟨RX11, TX11, tyX11, clk_11, by decide, rfl, tb5 172 rfl rfl, rfl, rfl, rfl, Or.inr ⟨_, rfl⟩⟩
theorem fl_X11_393 : flq RX11 393 11 79 54 54 true false := ⟨RX11, TX11, tyX11, clk_11, by decide, rfl, tb5 173 rfl rfl, rfl, rfl, rfl, rfl⟩
theorem fl_X11_135 : flq RX11 135 11 79 55 55 false true := ⟨RX11, TX11, tyX11, clk_11, by decide, rfl, tb5 174 rfl rfl, rfl, rfl, rfl, Or.inr ⟨_, rfl⟩⟩
theorem fl_X11_138 : flq RX11 138 11 79 56 56 false true := ⟨RX11, TX11, tyX11, clk_11, by decide, rfl, tb5 175 rfl rfl, rfl, rfl, rfl, Or.inr ⟨_, rfl⟩⟩
theorem fl_X11_141 : flq RX11 141 11 79 57 57 false true := ⟨RX11, TX11, tyX11, clk_11, by decide, rfl, tb5 176 rfl rfl, rfl, rfl, rfl, Or.inr ⟨_, rfl⟩⟩
theorem fl_X11_144 : flq RX11 144 11 79 58 58 false true := ⟨RX11, TX11, tyX11, clk_11, by decide, rfl, tb5 177 rfl rfl, rfl, rfl, rfl, Or.inr ⟨_, rfl⟩⟩
theorem fl_X11_147 : flq RX11 147 11 79 59 59 false true := ⟨RX11, TX11, tyX11, clk_11, by decide, rfl, tb5 178 rfl rfl, rfl, rfl, rfl, Or.inr ⟨_, rfl⟩⟩
theorem fl_X11_387 : flq RX11 387 11 79 60 60 true false := ⟨RX11, TX11, tyX11, clk_11, by decide, rfl, tb5 179 rfl rfl, rfl, rfl, rfl, rfl⟩
theorem fl_X11_150 : flq RX11 150 11 79 61 61 false true := ⟨RX11, TX11, tyX11, clk_11, by decide, rfl, tb5 180 rfl rfl, rfl, rfl, rfl, Or.inr ⟨_, rfl⟩⟩
theorem fl_X11_153 : flq RX11 153 11 79 62 62 false true := ⟨RX11, TX11, tyX11, clk_11, by decide, rfl, tb5 181 rfl rfl, rfl, rfl, rfl, Or.inr ⟨_, rfl⟩⟩
theorem fl_X11_390 : flq RX11 390 11 79 63 63 true false := ⟨RX11, TX11, tyX11, clk_11, by decide, rfl, tb5 182 rfl rfl, rfl, rfl, rfl, rfl⟩
theorem fl_X11_156 : flq RX11 156 11 79 64 64 false true := ⟨RX11, TX11, tyX11, clk_11, by decide, rfl, tb5 183 rfl rfl, rfl, rfl, rfl, Or.inr ⟨_, rfl⟩⟩
theorem fl_X11_159 : flq RX11 159 11 79 65 65 false true := ⟨RX11, TX11, tyX11, clk_11, by decide, rfl, tb5 184 rfl rfl, rfl, rfl, rfl, Or.inr ⟨_, rfl⟩⟩
theorem fl_X11_162 : flq RX11 162 11 79 66 66 false true := ⟨RX11, TX11, tyX11, clk_11, by decide, rfl, tb5 185 rfl rfl, rfl, rfl, rfl, Or.inr ⟨_, rfl⟩⟩
theorem fl_X11_165 : flq RX11 165 11 79 67 67 false true := ⟨RX11, TX11, tyX11, clk_11, by decide, rfl, tb5 186 rfl rfl, rfl, rfl, rfl, Or.inr ⟨_, rfl⟩⟩
theorem fl_X11_168 : flq RX11 168 11 79 68 68 false true := ⟨RX11, TX11, tyX11, clk_11, by decide, rfl, tb5 187 rfl rfl, rfl, rfl, rfl, Or.inr ⟨_, rfl⟩⟩
theorem fl_X11_171 : flq RX11 171 11 79 69 69 false true := ⟨RX11, TX11, tyX11, clk_11, by decide, rfl, tb5 188 rfl rfl, rfl, rfl, rfl, Or.inr ⟨_, rfl⟩⟩
theorem fl_X11_438 : flq RX11 438 11 79 70 70 true false := ⟨RX11, TX11, tyX11, clk_11, by decide, rfl, tb5 189 rfl rfl, rfl, rfl, rfl, rfl⟩
theorem fl_X11_174 : flq RX11 174 11 79 71 71 false true := ⟨RX11, TX11, tyX11, clk_11, by decide, rfl, tb5 190 rfl rfl, rfl, rfl, rfl, Or.inr ⟨_, rfl⟩⟩
theorem fl_X11_177 : flq RX11 177 11 79 72 72 false true := ⟨RX11, TX11, tyX11, clk_11, by decide, rfl, tb5 191 rfl rfl, rfl, rfl, rfl, Or.inr ⟨_, rfl⟩⟩
theorem fl_X11_180 : flq RX11 180 11 79 73 73 false true := ⟨RX11, TX11, tyX11, clk_11, by decide, rfl, tb5 192 rfl rfl, rfl, rfl, rfl, Or.inr ⟨_, rfl⟩⟩
theorem fl_X11_183 : flq RX11 183 11 79 74 74 false true := ⟨RX11, TX11, tyX11, clk_11, by decide, rfl, tb5 193 rfl rfl, rfl, rfl, rfl, Or.inr ⟨_, rfl⟩⟩
theorem fl_X11_453 : flq RX11 453 11 79 75 75 true false := ⟨RX11, TX11, tyX11, clk_11, by decide, rfl, tb5 194 rfl rfl, rfl, rfl, rfl, rfl⟩
theorem fl_X11_186 : flq RX11 186 11 79 76 76 false true := ⟨RX11, TX11, tyX11, clk_11, by decide, rfl, tb5 195 rfl rfl, rfl, rfl, rfl, Or.inr ⟨_, rfl⟩⟩
theorem fl_X11_189 : flq RX11 189 11 79 77 77 false true := ⟨RX11, TX11, tyX11, clk_11, by decide, rfl, tb5 196 rfl rfl, rfl, rfl, rfl, Or.inr ⟨_, rfl⟩⟩
theorem fl_X11_192 : flq RX11 192 11 79 78 78 false true := ⟨RX11, TX11, tyX11, clk_11, by decide, rfl, tb5 197 rfl rfl, rfl, rfl, rfl, Or.inr ⟨_, rfl⟩⟩
theorem sl_X10_127 : Cond.fieldLink RX10 127 "WharfPapers" "HAS_P" "[I" ∈ tbG := tb3 25 rfl rfl
theorem sl_X10_130 : Cond.fieldLink RX10 130 "WharfPapers" "LEAST_N" "[I" ∈ tbG := tb3 27 rfl rfl
theorem sl_X10_137 : Cond.fieldLink RX10 137 "WharfPapers" "MOST_N" "[I" ∈ tbG := tb3 42 rfl rfl
theorem sl_X8_65 : Cond.fieldLink RX8 65 "WharfPapers$Terms" "AT_FIRST" "[I" ∈ tbG := tb3 108 rfl rfl
theorem sl_J0_38 : Cond.fieldLink "java/lang/String" 38 "java/lang/String" "COMPACT_STRINGS" "Z" ∈ tbG := tb3 234 rfl rfl
theorem sl_J0_1053 : Cond.fieldLink "java/lang/String" 1053 "jdk/internal/util/Preconditions" "SIOOBE_FORMATTER" "Ljava/util/function/BiFunction;" ∈ tbG := tb4 10 rfl rfl
theorem sl_J2_44 : Cond.fieldLink "java/lang/StringUTF16" 44 "java/lang/StringUTF16" "$assertionsDisabled" "Z" ∈ tbG := tb4 28 rfl rfl
theorem sl_J2_59 : Cond.fieldLink "java/lang/StringUTF16" 59 "java/lang/StringUTF16" "HI_BYTE_SHIFT" "I" ∈ tbG := tb4 30 rfl rfl
theorem sl_J2_63 : Cond.fieldLink "java/lang/StringUTF16" 63 "java/lang/StringUTF16" "LO_BYTE_SHIFT" "I" ∈ tbG := tb4 32 rfl rfl
theorem sl_X5_72 : Cond.fieldLink RX5 72 "WharfPapers$Reader" "MOST_OF_NAME" "[I" ∈ tbG := tb4 42 rfl rfl
theorem sl_X4_71 : Cond.fieldLink RX4 71 "WharfPapers$Plan" "OF_A_FLOOR" "[I" ∈ tbG := tb5 81 rfl rfl
theorem sl_J0_9 : Cond.fieldLink "java/lang/String" 9 "java/lang/String" "value" "[B" ∈ tbG := tb7 229 rfl rfl
theorem sl_J0_15 : Cond.fieldLink "java/lang/String" 15 "java/lang/String" "coder" "B" ∈ tbG := tb7 230 rfl rfl
theorem ml_L_9 : Cond.methodLink "WharfPapersLaw" 9 M_X10_init.1 ∈ tbG := tb1 21 rfl rfl
theorem ml_X10_1 : Cond.methodLink RX10 1 Lib.objectInit ∈ tbG := tb1 24 rfl rfl
theorem ml_X10_15 : (RX10, 15, M_X3_init.1, "WharfPapers") ∈ nstq := nthq_mem (i := 0) rfl
theorem ml_X3_3 : Cond.methodLink RX3 3 Lib.objectInit ∈ tbG := tb1 32 rfl rfl
theorem ml_X10_22 : (RX10, 22, M_X2_init.1, "WharfPapers") ∈ nstq := nthq_mem (i := 1) rfl
theorem ml_X2_3 : Cond.methodLink RX2 3 Lib.objectInit ∈ tbG := tb1 69 rfl rfl
theorem ml_X10_29 : (RX10, 29, M_X8_init.1, "WharfPapers") ∈ nstq := nthq_mem (i := 2) rfl
theorem ml_X8_3 : Cond.methodLink RX8 3 Lib.objectInit ∈ tbG := tb1 127 rfl rfl
theorem ml_X10_36 : (RX10, 36, M_X5_init.1, "WharfPapers") ∈ nstq := nthq_mem (i := 3) rfl
theorem ml_X5_3 : Cond.methodLink RX5 3 Lib.objectInit ∈ tbG := tb1 164 rfl rfl
theorem ml_X10_43 : Cond.methodLink RX10 43 M_X7_init.1 ∈ tbG := tb1 201 rfl rfl
theorem ml_X7_3 : Cond.methodLink RX7 3 Lib.objectInit ∈ tbG := tb1 204 rfl rfl
theorem ml_X10_55 : (RX10, 55, M_X0_init.1, "WharfPapers") ∈ nstq := nthq_mem (i := 4) rfl
theorem ml_X0_3 : Cond.methodLink RX0 3 Lib.objectInit ∈ tbG := tb2 35 rfl rfl
theorem ml_X10_62 : (RX10, 62, M_X9_init.1, "WharfPapers") ∈ nstq := nthq_mem (i := 5) rfl
theorem ml_X9_1 : Cond.methodLink RX9 1 Lib.objectInit ∈ tbG := tb2 52 rfl rfl
theorem ml_X10_74 : (RX10, 74, M_X6_init.1, "WharfPapers") ∈ nstq := nthq_mem (i := 6) rfl
theorem ml_X6_3 : Cond.methodLink RX6 3 Lib.objectInit ∈ tbG := tb2 80 rfl rfl
theorem ml_X10_81 : (RX10, 81, M_X1_init.1, "WharfPapers") ∈ nstq := nthq_mem (i := 7) rfl
theorem ml_X1_3 : Cond.methodLink RX1 3 Lib.objectInit ∈ tbG := tb2 112 rfl rfl
theorem ml_X10_95 : (RX10, 95, M_X4_init.1, "WharfPapers") ∈ nstq := nthq_mem (i := 8) rfl
theorem ml_X4_3 : Cond.methodLink RX4 3 Lib.objectInit ∈ tbG := tb2 155 rfl rfl
theorem ml_L_13 : Cond.methodLink "WharfPapersLaw" 13 M_X10_go.1 ∈ tbG := tb2 225 rfl rfl
theorem ml_X10_100 : Cond.methodLink RX10 100 M_X10_within.1 ∈ tbG := tb2 229 rfl rfl
theorem ml_L_18 : Cond.methodLink "WharfPapersLaw" 18 M_X10_lot.1 ∈ tbG := tb2 232 rfl rfl
theorem ml_X10_104 : Cond.methodLink RX10 104 M_X10_isHouse.1 ∈ tbG := tb2 236 rfl rfl
theorem ml_X10_108 : Cond.methodLink RX10 108 M_X10_isFloor.1 ∈ tbG := tb2 239 rfl rfl
theorem ml_X10_111 : Cond.methodLink RX10 111 M_X10_isSort.1 ∈ tbG := tb3 2 rfl rfl
theorem ml_X10_117 : Cond.methodLink RX10 117 M_X3_add.1 ∈ tbG := tb3 5 rfl rfl
theorem ml_L_23 : Cond.methodLink "WharfPapersLaw" 23 M_X10_room.1 ∈ tbG := tb3 9 rfl rfl
theorem ml_L_28 : Cond.methodLink "WharfPapersLaw" 28 M_X10_move.1 ∈ tbG := tb3 13 rfl rfl
theorem ml_X10_121 : Cond.methodLink RX10 121 M_X3_has.1 ∈ tbG := tb3 17 rfl rfl
theorem ml_L_32 : Cond.methodLink "WharfPapersLaw" 32 M_X10_line.1 ∈ tbG := tb3 21 rfl rfl
theorem ml_X10_133 : Cond.methodLink RX10 133 M_X10_isTarget.1 ∈ tbG := tb3 29 rfl rfl
theorem ml_X10_144 : Cond.methodLink RX10 144 M_X2_has.1 ∈ tbG := tb3 33 rfl rfl
theorem ml_X10_232 : Cond.methodLink RX10 232 M_X2_isPaper.1 ∈ tbG := tb3 37 rfl rfl
theorem ml_X2_44 : Cond.methodLink RX2 44 M_X2_has.1 ∈ tbG := tb3 41 rfl rfl
theorem ml_X10_141 : Cond.methodLink RX10 141 M_X2_add.1 ∈ tbG := tb3 44 rfl rfl
theorem ml_L_37 : Cond.methodLink "WharfPapersLaw" 37 M_X10_told.1 ∈ tbG := tb3 48 rfl rfl
theorem ml_X10_166 : Cond.methodLink RX10 166 M_X2_know.1 ∈ tbG := tb3 52 rfl rfl
theorem ml_X10_174 : Cond.methodLink RX10 174 M_X7_tell.1 ∈ tbG := tb3 56 rfl rfl
theorem ml_X7_61 : Cond.methodLink RX7 61 M_X7_clear.1 ∈ tbG := tb3 60 rfl rfl
theorem ml_X7_64 : Cond.methodLink RX7 64 M_X2_know.1 ∈ tbG := tb3 64 rfl rfl
theorem ml_X7_77 : Cond.methodLink RX7 77 M_X2_isInBook.1 ∈ tbG := tb3 65 rfl rfl
theorem ml_X7_84 : Cond.methodLink RX7 84 M_X7_isDone.1 ∈ tbG := tb3 69 rfl rfl
theorem ml_X7_99 : Cond.methodLink RX7 99 M_X7_issue.1 ∈ tbG := tb3 73 rfl rfl
theorem ml_X7_136 : Cond.methodLink RX7 136 M_X7_make.1 ∈ tbG := tb3 77 rfl rfl
theorem ml_X7_140 : Cond.methodLink RX7 140 M_X7_overOf.1 ∈ tbG := tb3 81 rfl rfl
theorem ml_X7_144 : Cond.methodLink RX7 144 M_X7_thereOf.1 ∈ tbG := tb3 85 rfl rfl
theorem ml_X7_160 : Cond.methodLink RX7 160 M_J9_max_7cf53.1 ∈ tbG := tb3 89 rfl rfl
theorem ml_X7_103 : Cond.methodLink RX7 103 M_X7_pass.1 ∈ tbG := tb3 92 rfl rfl
theorem ml_X7_150 : Cond.methodLink RX7 150 M_X8_on.1 ∈ tbG := tb3 96 rfl rfl
theorem ml_X8_51 : Cond.methodLink RX8 51 M_X8_hold.1 ∈ tbG := tb3 100 rfl rfl
theorem ml_X8_62 : Cond.methodLink RX8 62 M_X8_strike.1 ∈ tbG := tb3 104 rfl rfl
theorem ml_X8_68 : Cond.methodLink RX8 68 M_X8_rule.1 ∈ tbG := tb3 110 rfl rfl
theorem ml_X7_106 : Cond.methodLink RX7 106 M_X7_divide.1 ∈ tbG := tb3 114 rfl rfl
theorem ml_X7_156 : Cond.methodLink RX7 156 M_X7_isBound.1 ∈ tbG := tb3 118 rfl rfl
theorem ml_X7_109 : Cond.methodLink RX7 109 M_X7_lend.1 ∈ tbG := tb3 122 rfl rfl
theorem ml_X7_112 : Cond.methodLink RX7 112 M_X7_repay.1 ∈ tbG := tb3 126 rfl rfl
theorem ml_X7_115 : Cond.methodLink RX7 115 M_X7_stop.1 ∈ tbG := tb3 130 rfl rfl
theorem ml_X7_118 : Cond.methodLink RX7 118 M_X7_free.1 ∈ tbG := tb3 134 rfl rfl
theorem ml_X7_121 : Cond.methodLink RX7 121 M_X7_handOut.1 ∈ tbG := tb3 138 rfl rfl
theorem ml_X7_124 : Cond.methodLink RX7 124 M_X7_burn.1 ∈ tbG := tb3 142 rfl rfl
theorem ml_X7_127 : Cond.methodLink RX7 127 M_X7_steal.1 ∈ tbG := tb3 146 rfl rfl
theorem ml_L_41 : Cond.methodLink "WharfPapersLaw" 41 M_X10_book.1 ∈ tbG := tb3 150 rfl rfl
theorem ml_X10_181 : Cond.methodLink RX10 181 M_X2_inBookAt.1 ∈ tbG := tb3 154 rfl rfl
theorem ml_X2_51 : Cond.methodLink RX2 51 M_X2_isInBook.1 ∈ tbG := tb3 158 rfl rfl
theorem ml_L_45 : Cond.methodLink "WharfPapersLaw" 45 M_X10_count.1 ∈ tbG := tb3 159 rfl rfl
theorem ml_X10_185 : Cond.methodLink RX10 185 M_X2_voidCount.1 ∈ tbG := tb3 163 rfl rfl
theorem ml_X10_189 : Cond.methodLink RX10 189 M_X7_vainCount.1 ∈ tbG := tb3 167 rfl rfl
theorem ml_X10_192 : Cond.methodLink RX10 192 M_X7_papersWithCasks.1 ∈ tbG := tb3 171 rfl rfl
theorem ml_L_51 : Cond.methodLink "WharfPapersLaw" 51 M_X10_feed.1 ∈ tbG := tb3 175 rfl rfl
theorem ml_X10_205 : Cond.methodLink RX10 205 M_X5_add.1 ∈ tbG := tb3 179 rfl rfl
theorem ml_L_56 : Cond.methodLink "WharfPapersLaw" 56 M_X10_term.1 ∈ tbG := tb3 183 rfl rfl
theorem ml_X10_207 : Cond.methodLink RX10 207 M_X10_isDay.1 ∈ tbG := tb3 187 rfl rfl
theorem ml_X10_210 : Cond.methodLink RX10 210 M_X5_read.1 ∈ tbG := tb3 190 rfl rfl
theorem ml_X5_37 : Cond.methodLink RX5 37 M_X5_skipBlanks.1 ∈ tbG := tb3 194 rfl rfl
theorem ml_X5_40 : Cond.methodLink RX5 40 M_X5_readClause.1 ∈ tbG := tb3 198 rfl rfl
theorem ml_X5_44 : Cond.methodLink RX5 44 M_X5_takeWord.1 ∈ tbG := tb3 202 rfl rfl
theorem ml_X5_82 : Cond.methodLink RX5 82 M_X5_spelling.1 ∈ tbG := tb3 206 rfl rfl
theorem ml_X5_86 : Cond.methodLink RX5 86 M_X5_isSpelled.1 ∈ tbG := tb3 222 rfl rfl
theorem ml_X5_90 : Cond.methodLink RX5 90 M_J0_length_8abf5.1 ∈ tbG := tb3 226 rfl rfl
theorem ml_J0_335 : Cond.methodLink "java/lang/String" 335 M_J0_coder_7d493.1 ∈ tbG := tb3 230 rfl rfl
theorem ml_X5_94 : Cond.methodLink RX5 94 M_J0_charAt_5068e.1 ∈ tbG := tb3 236 rfl rfl
theorem ml_J0_492 : Cond.methodLink "java/lang/String" 492 M_J0_isLatin1_aae02.1 ∈ tbG := tb4 0 rfl rfl
theorem ml_J0_495 : Cond.methodLink "java/lang/String" 495 M_J1_charAt_3b067.1 ∈ tbG := tb4 4 rfl rfl
theorem ml_J1_9 : Cond.methodLink "java/lang/StringLatin1" 9 M_J0_checkIndex_df160.1 ∈ tbG := tb4 7 rfl rfl
theorem ml_J0_1059 : Cond.methodLink "java/lang/String" 1059 M_J3_checkIndex_8e157.1 ∈ tbG := tb4 12 rfl rfl
theorem ml_J0_498 : Cond.methodLink "java/lang/String" 498 M_J2_charAt_3b067.1 ∈ tbG := tb4 15 rfl rfl
theorem ml_J2_67 : Cond.methodLink "java/lang/StringUTF16" 67 M_J2_checkIndex_2214a.1 ∈ tbG := tb4 18 rfl rfl
theorem ml_J2_48 : Cond.methodLink "java/lang/StringUTF16" 48 M_J2_length_9d52b.1 ∈ tbG := tb4 21 rfl rfl
theorem ml_J2_414 : Cond.methodLink "java/lang/StringUTF16" 414 M_J0_checkIndex_df160.1 ∈ tbG := tb4 24 rfl rfl
theorem ml_J2_71 : Cond.methodLink "java/lang/StringUTF16" 71 M_J2_getChar_3b067.1 ∈ tbG := tb4 25 rfl rfl
theorem ml_X5_51 : Cond.methodLink RX5 51 M_X5_fail.1 ∈ tbG := tb4 34 rfl rfl
theorem ml_X5_55 : Cond.methodLink RX5 55 M_X5_readLet.1 ∈ tbG := tb4 38 rfl rfl
theorem ml_X5_75 : Cond.methodLink RX5 75 M_X5_takeNumber.1 ∈ tbG := tb4 44 rfl rfl
theorem ml_X5_65 : Cond.methodLink RX5 65 M_X5_keep.1 ∈ tbG := tb4 48 rfl rfl
theorem ml_X5_78 : Cond.methodLink RX5 78 M_X5_takeIf.1 ∈ tbG := tb4 52 rfl rfl
theorem ml_X5_58 : Cond.methodLink RX5 58 M_X5_readDry.1 ∈ tbG := tb4 56 rfl rfl
theorem ml_X5_61 : Cond.methodLink RX5 61 M_X5_takeKeys.1 ∈ tbG := tb4 60 rfl rfl
theorem ml_X5_68 : Cond.methodLink RX5 68 M_X5_takeTerm.1 ∈ tbG := tb4 64 rfl rfl
theorem ml_X10_216 : Cond.methodLink RX10 216 M_X8_add.1 ∈ tbG := tb4 68 rfl rfl
theorem ml_L_60 : Cond.methodLink "WharfPapersLaw" 60 M_X10_fault.1 ∈ tbG := tb4 73 rfl rfl
theorem ml_L_65 : Cond.methodLink "WharfPapersLaw" 65 M_X10_force.1 ∈ tbG := tb4 77 rfl rfl
theorem ml_X10_222 : Cond.methodLink RX10 222 M_X8_on.1 ∈ tbG := tb4 81 rfl rfl
theorem ml_X10_226 : Cond.methodLink RX10 226 M_X8_keysOn.1 ∈ tbG := tb4 82 rfl rfl
theorem ml_X8_59 : Cond.methodLink RX8 59 M_X8_keyOn.1 ∈ tbG := tb4 86 rfl rfl
theorem ml_X8_55 : Cond.methodLink RX8 55 M_X8_on.1 ∈ tbG := tb4 90 rfl rfl
theorem ml_X10_229 : Cond.methodLink RX10 229 M_X8_keyOn.1 ∈ tbG := tb4 91 rfl rfl
theorem ml_L_69 : Cond.methodLink "WharfPapersLaw" 69 M_X10_paper.1 ∈ tbG := tb4 92 rfl rfl
theorem ml_X10_235 : Cond.methodLink RX10 235 M_X10_isAsked.1 ∈ tbG := tb4 96 rfl rfl
theorem ml_L_74 : Cond.methodLink "WharfPapersLaw" 74 M_X10_goods.1 ∈ tbG := tb4 100 rfl rfl
theorem ml_X10_262 : Cond.methodLink RX10 262 M_X7_thereOf.1 ∈ tbG := tb4 104 rfl rfl
theorem ml_X10_274 : Cond.methodLink RX10 274 M_X7_overOf.1 ∈ tbG := tb4 105 rfl rfl
theorem ml_L_78 : Cond.methodLink "WharfPapersLaw" 78 M_X10_share.1 ∈ tbG := tb4 106 rfl rfl
theorem ml_X10_277 : Cond.methodLink RX10 277 M_X10_shareAsTold.1 ∈ tbG := tb4 110 rfl rfl
theorem ml_X10_379 : Cond.methodLink RX10 379 M_X10_commonDivisor.1 ∈ tbG := tb4 114 rfl rfl
theorem ml_X10_313 : Cond.methodLink RX10 313 M_J9_max_7cf53.1 ∈ tbG := tb4 117 rfl rfl
theorem ml_L_82 : Cond.methodLink "WharfPapersLaw" 82 M_X10_doubt.1 ∈ tbG := tb4 118 rfl rfl
theorem ml_X10_281 : Cond.methodLink RX10 281 M_X0_find.1 ∈ tbG := tb4 122 rfl rfl
theorem ml_X0_22 : Cond.methodLink RX0 22 M_X7_overOf.1 ∈ tbG := tb4 126 rfl rfl
theorem ml_X0_28 : Cond.methodLink RX0 28 M_X0_isOf.1 ∈ tbG := tb4 127 rfl rfl
theorem ml_X0_45 : (RX0, 45, M_X10_within.1, "WharfPapers") ∈ nstq := nthq_mem (i := 9) rfl
theorem ml_X0_35 : Cond.methodLink RX0 35 M_X0_fewest.1 ∈ tbG := tb4 132 rfl rfl
theorem ml_X0_49 : Cond.methodLink RX0 49 M_J9_min_7cf53.1 ∈ tbG := tb4 136 rfl rfl
theorem ml_X10_286 : Cond.methodLink RX10 286 M_X0_at.1 ∈ tbG := tb4 139 rfl rfl
theorem ml_L_86 : Cond.methodLink "WharfPapersLaw" 86 M_X10_stock.1 ∈ tbG := tb4 143 rfl rfl
theorem ml_X10_289 : Cond.methodLink RX10 289 M_X7_casksOf.1 ∈ tbG := tb4 147 rfl rfl
theorem ml_L_91 : Cond.methodLink "WharfPapersLaw" 91 M_X10_news.1 ∈ tbG := tb4 151 rfl rfl
theorem ml_X10_293 : Cond.methodLink RX10 293 M_X7_unlike.1 ∈ tbG := tb4 155 rfl rfl
theorem ml_X7_168 : Cond.methodLink RX7 168 M_X7_isHadOtherwise.1 ∈ tbG := tb4 159 rfl rfl
theorem ml_L_95 : Cond.methodLink "WharfPapersLaw" 95 M_X10_rent.1 ∈ tbG := tb4 163 rfl rfl
theorem ml_X10_297 : Cond.methodLink RX10 297 M_X10_rentAsTold.1 ∈ tbG := tb4 167 rfl rfl
theorem ml_L_99 : Cond.methodLink "WharfPapersLaw" 99 M_X10_weight.1 ∈ tbG := tb4 171 rfl rfl
theorem ml_X10_300 : Cond.methodLink RX10 300 M_X10_caskWeight.1 ∈ tbG := tb4 175 rfl rfl
theorem ml_L_103 : Cond.methodLink "WharfPapersLaw" 103 M_X10_weigh.1 ∈ tbG := tb4 179 rfl rfl
theorem ml_X10_304 : Cond.methodLink RX10 304 M_X9_add.1 ∈ tbG := tb4 184 rfl rfl
theorem ml_L_107 : Cond.methodLink "WharfPapersLaw" 107 M_X10_loss.1 ∈ tbG := tb4 188 rfl rfl
theorem ml_L_111 : Cond.methodLink "WharfPapersLaw" 111 M_X10_unpaid.1 ∈ tbG := tb4 193 rfl rfl
theorem ml_L_115 : Cond.methodLink "WharfPapersLaw" 115 M_X10_money.1 ∈ tbG := tb4 197 rfl rfl
theorem ml_X10_321 : Cond.methodLink RX10 321 M_X10_wanted.1 ∈ tbG := tb4 202 rfl rfl
theorem ml_X10_389 : Cond.methodLink RX10 389 M_X7_lentOn.1 ∈ tbG := tb4 206 rfl rfl
theorem ml_X10_392 : Cond.methodLink RX10 392 M_X10_unpaidFor.1 ∈ tbG := tb4 210 rfl rfl
theorem ml_X10_324 : Cond.methodLink RX10 324 M_J9_min_7cf53.1 ∈ tbG := tb4 214 rfl rfl
theorem ml_L_119 : Cond.methodLink "WharfPapersLaw" 119 M_X10_sale.1 ∈ tbG := tb4 215 rfl rfl
theorem ml_X10_327 : Cond.methodLink RX10 327 M_X6_add.1 ∈ tbG := tb4 219 rfl rfl
theorem ml_L_123 : Cond.methodLink "WharfPapersLaw" 123 M_X10_net.1 ∈ tbG := tb4 223 rfl rfl
theorem ml_X10_328 : Cond.methodLink RX10 328 M_X6_netOf.1 ∈ tbG := tb4 227 rfl rfl
theorem ml_L_127 : Cond.methodLink "WharfPapersLaw" 127 M_X10_handings.1 ∈ tbG := tb4 231 rfl rfl
theorem ml_X10_331 : Cond.methodLink RX10 331 M_X6_fewestHandings.1 ∈ tbG := tb4 235 rfl rfl
theorem ml_X6_37 : Cond.methodLink RX6 37 M_X6_netOf.1 ∈ tbG := tb4 239 rfl rfl
theorem ml_X6_41 : Cond.methodLink RX6 41 M_X6_mostGroups.1 ∈ tbG := tb5 0 rfl rfl
theorem ml_X6_45 : Cond.methodLink RX6 45 M_J9_max_7cf53.1 ∈ tbG := tb5 4 rfl rfl
theorem ml_L_131 : Cond.methodLink "WharfPapersLaw" 131 M_X10_due.1 ∈ tbG := tb5 5 rfl rfl
theorem ml_X10_334 : Cond.methodLink RX10 334 M_X1_add.1 ∈ tbG := tb5 9 rfl rfl
theorem ml_L_135 : Cond.methodLink "WharfPapersLaw" 135 M_X10_coin.1 ∈ tbG := tb5 13 rfl rfl
theorem ml_L_139 : Cond.methodLink "WharfPapersLaw" 139 M_X10_fails.1 ∈ tbG := tb5 17 rfl rfl
theorem ml_X10_340 : Cond.methodLink RX10 340 M_X1_settle.1 ∈ tbG := tb5 21 rfl rfl
theorem ml_X1_41 : Cond.methodLink RX1 41 M_X1_begin.1 ∈ tbG := tb5 25 rfl rfl
theorem ml_X1_51 : Cond.methodLink RX1 51 M_X1_receive.1 ∈ tbG := tb5 29 rfl rfl
theorem ml_X1_47 : Cond.methodLink RX1 47 M_X1_isRoundChanging.1 ∈ tbG := tb5 33 rfl rfl
theorem ml_X1_54 : Cond.methodLink RX1 54 M_X1_partOf.1 ∈ tbG := tb5 37 rfl rfl
theorem ml_X10_348 : Cond.methodLink RX10 348 M_X1_givenBy.1 ∈ tbG := tb5 41 rfl rfl
theorem ml_X10_357 : Cond.methodLink RX10 357 M_X1_failedCount.1 ∈ tbG := tb5 45 rfl rfl
theorem ml_L_143 : Cond.methodLink "WharfPapersLaw" 143 M_X10_part.1 ∈ tbG := tb5 49 rfl rfl
theorem ml_L_148 : Cond.methodLink "WharfPapersLaw" 148 M_X10_plan.1 ∈ tbG := tb5 53 rfl rfl
theorem ml_X10_360 : Cond.methodLink RX10 360 M_J6_bitCount_0f7a4.1 ∈ tbG := tb5 57 rfl rfl
theorem ml_X10_365 : Cond.methodLink RX10 365 M_X4_lay.1 ∈ tbG := tb5 63 rfl rfl
theorem ml_X4_37 : Cond.methodLink RX4 37 M_X4_choose.1 ∈ tbG := tb5 67 rfl rfl
theorem ml_X4_41 : Cond.methodLink RX4 41 M_X4_gather.1 ∈ tbG := tb5 71 rfl rfl
theorem ml_X4_51 : Cond.methodLink RX4 51 M_X7_thereOf.1 ∈ tbG := tb5 75 rfl rfl
theorem ml_X4_60 : Cond.methodLink RX4 60 M_X4_priceOn.1 ∈ tbG := tb5 77 rfl rfl
theorem ml_X4_64 : Cond.methodLink RX4 64 M_X4_shut.1 ∈ tbG := tb5 84 rfl rfl
theorem ml_X4_76 : Cond.methodLink RX4 76 M_X4_isParted.1 ∈ tbG := tb5 88 rfl rfl
theorem ml_X4_68 : Cond.methodLink RX4 68 M_X4_openFloor.1 ∈ tbG := tb5 92 rfl rfl
theorem ml_X4_80 : Cond.methodLink RX4 80 M_J6_bitCount_0f7a4.1 ∈ tbG := tb5 96 rfl rfl
theorem ml_X4_85 : Cond.methodLink RX4 85 M_J9_min_f86c9.1 ∈ tbG := tb5 97 rfl rfl
theorem ml_X10_369 : Cond.methodLink RX10 369 M_X4_isFound.1 ∈ tbG := tb5 100 rfl rfl
theorem ml_X10_373 : Cond.methodLink RX10 373 M_X4_moved.1 ∈ tbG := tb5 104 rfl rfl
theorem ml_X10_376 : Cond.methodLink RX10 376 M_X4_floorOf.1 ∈ tbG := tb5 108 rfl rfl
theorem ml_L_12 : Cond.methodLink "WharfPapersLaw" 12 M_X11_init.1 ∈ tbG := tb5 115 rfl rfl
theorem ml_X11_1 : Cond.methodLink RX11 1 Lib.objectInit ∈ tbG := tb5 118 rfl rfl
theorem ml_L_17 : Cond.methodLink "WharfPapersLaw" 17 M_X11_go.1 ∈ tbG := tb6 117 rfl rfl
theorem ml_X11_197 : Cond.methodLink RX11 197 M_X11_in.1 ∈ tbG := tb6 122 rfl rfl
theorem ml_L_22 : Cond.methodLink "WharfPapersLaw" 22 M_X11_lot.1 ∈ tbG := tb6 125 rfl rfl
theorem ml_X11_213 : Cond.methodLink RX11 213 M_X11_isHouse.1 ∈ tbG := tb6 129 rfl rfl
theorem ml_X11_217 : Cond.methodLink RX11 217 M_X11_isFloor.1 ∈ tbG := tb6 133 rfl rfl
theorem ml_L_27 : Cond.methodLink "WharfPapersLaw" 27 M_X11_room.1 ∈ tbG := tb6 139 rfl rfl
theorem ml_L_31 : Cond.methodLink "WharfPapersLaw" 31 M_X11_move.1 ∈ tbG := tb6 143 rfl rfl
theorem ml_X11_224 : Cond.methodLink RX11 224 M_X11_noLot.1 ∈ tbG := tb6 147 rfl rfl
theorem ml_L_36 : Cond.methodLink "WharfPapersLaw" 36 M_X11_line.1 ∈ tbG := tb6 151 rfl rfl
theorem ml_X11_238 : Cond.methodLink RX11 238 M_X11_noTarget.1 ∈ tbG := tb6 156 rfl rfl
theorem ml_X11_230 : Cond.methodLink RX11 230 M_X11_isOfLot.1 ∈ tbG := tb6 160 rfl rfl
theorem ml_X11_233 : Cond.methodLink RX11 233 M_X11_isPaper.1 ∈ tbG := tb6 163 rfl rfl
theorem ml_X11_242 : Cond.methodLink RX11 242 M_X11_hasP.1 ∈ tbG := tb6 167 rfl rfl
theorem ml_X11_245 : Cond.methodLink RX11 245 M_X11_isKnown.1 ∈ tbG := tb6 170 rfl rfl
theorem ml_X11_248 : Cond.methodLink RX11 248 M_X11_hasMany.1 ∈ tbG := tb6 174 rfl rfl
theorem ml_X11_251 : Cond.methodLink RX11 251 M_X11_mostOf.1 ∈ tbG := tb6 177 rfl rfl
theorem ml_L_44 : Cond.methodLink "WharfPapersLaw" 44 M_X11_book.1 ∈ tbG := tb6 180 rfl rfl
theorem ml_X11_258 : Cond.methodLink RX11 258 M_X11_findBook.1 ∈ tbG := tb6 184 rfl rfl
theorem ml_L_55 : Cond.methodLink "WharfPapersLaw" 55 M_X11_feed.1 ∈ tbG := tb6 188 rfl rfl
theorem ml_L_59 : Cond.methodLink "WharfPapersLaw" 59 M_X11_term.1 ∈ tbG := tb6 194 rfl rfl
theorem ml_X11_326 : Cond.methodLink RX11 326 M_X11_isDay.1 ∈ tbG := tb6 198 rfl rfl
theorem ml_X11_275 : Cond.methodLink RX11 275 M_X11_here.1 ∈ tbG := tb6 202 rfl rfl
theorem ml_X11_301 : Cond.methodLink RX11 301 M_X11_takeWord.1 ∈ tbG := tb6 206 rfl rfl
theorem ml_X11_297 : Cond.methodLink RX11 297 M_X11_isWord.1 ∈ tbG := tb6 212 rfl rfl
theorem ml_X11_293 : Cond.methodLink RX11 293 M_X11_want.1 ∈ tbG := tb6 216 rfl rfl
theorem ml_X11_329 : Cond.methodLink RX11 329 M_X11_readClause.1 ∈ tbG := tb6 220 rfl rfl
theorem ml_X11_311 : Cond.methodLink RX11 311 M_X11_nameOf.1 ∈ tbG := tb6 224 rfl rfl
theorem ml_X11_314 : Cond.methodLink RX11 314 M_X11_mostOfName.1 ∈ tbG := tb6 228 rfl rfl
theorem ml_X11_317 : Cond.methodLink RX11 317 M_X11_takeNumber.1 ∈ tbG := tb6 231 rfl rfl
theorem ml_X11_320 : Cond.methodLink RX11 320 M_X11_readRank.1 ∈ tbG := tb6 237 rfl rfl
theorem ml_X11_304 : Cond.methodLink RX11 304 M_X11_keyOf.1 ∈ tbG := tb7 1 rfl rfl
theorem ml_X11_307 : Cond.methodLink RX11 307 M_X11_one.1 ∈ tbG := tb7 5 rfl rfl
theorem ml_L_64 : Cond.methodLink "WharfPapersLaw" 64 M_X11_fault.1 ∈ tbG := tb7 8 rfl rfl
theorem ml_L_68 : Cond.methodLink "WharfPapersLaw" 68 M_X11_force.1 ∈ tbG := tb7 12 rfl rfl
theorem ml_X11_341 : Cond.methodLink RX11 341 M_X11_findTerms.1 ∈ tbG := tb7 17 rfl rfl
theorem ml_L_40 : Cond.methodLink "WharfPapersLaw" 40 M_X11_told.1 ∈ tbG := tb7 21 rfl rfl
theorem ml_X11_378 : Cond.methodLink RX11 378 M_X11_tell.1 ∈ tbG := tb7 25 rfl rfl
theorem ml_X11_375 : Cond.methodLink RX11 375 M_X11_befall.1 ∈ tbG := tb7 29 rfl rfl
theorem ml_X11_354 : Cond.methodLink RX11 354 M_X11_issue.1 ∈ tbG := tb7 33 rfl rfl
theorem ml_X11_344 : Cond.methodLink RX11 344 M_X11_lay.1 ∈ tbG := tb7 37 rfl rfl
theorem ml_X11_351 : Cond.methodLink RX11 351 M_X11_onPapers.1 ∈ tbG := tb7 41 rfl rfl
theorem ml_X11_348 : Cond.methodLink RX11 348 M_X11_there.1 ∈ tbG := tb7 45 rfl rfl
theorem ml_X11_357 : Cond.methodLink RX11 357 M_X11_burn.1 ∈ tbG := tb7 49 rfl rfl
theorem ml_X11_360 : Cond.methodLink RX11 360 M_X11_pass.1 ∈ tbG := tb7 53 rfl rfl
theorem ml_X11_363 : Cond.methodLink RX11 363 M_X11_partFrom.1 ∈ tbG := tb7 57 rfl rfl
theorem ml_X11_366 : Cond.methodLink RX11 366 M_X11_lend.1 ∈ tbG := tb7 61 rfl rfl
theorem ml_X11_369 : Cond.methodLink RX11 369 M_X11_handOut.1 ∈ tbG := tb7 65 rfl rfl
theorem ml_X11_372 : Cond.methodLink RX11 372 M_X11_change.1 ∈ tbG := tb7 69 rfl rfl
theorem ml_L_48 : Cond.methodLink "WharfPapersLaw" 48 M_X11_count.1 ∈ tbG := tb7 73 rfl rfl
theorem ml_X11_381 : Cond.methodLink RX11 381 M_X11_linesNow.1 ∈ tbG := tb7 77 rfl rfl
theorem ml_X11_384 : Cond.methodLink RX11 384 M_X11_papersToday.1 ∈ tbG := tb7 81 rfl rfl
theorem ml_L_73 : Cond.methodLink "WharfPapersLaw" 73 M_X11_paper.1 ∈ tbG := tb7 85 rfl rfl
theorem ml_X11_396 : Cond.methodLink RX11 396 M_X11_whyNot.1 ∈ tbG := tb7 89 rfl rfl
theorem ml_L_77 : Cond.methodLink "WharfPapersLaw" 77 M_X11_goods.1 ∈ tbG := tb7 93 rfl rfl
theorem ml_X11_400 : Cond.methodLink RX11 400 M_X11_over.1 ∈ tbG := tb7 97 rfl rfl
theorem ml_L_81 : Cond.methodLink "WharfPapersLaw" 81 M_X11_share.1 ∈ tbG := tb7 101 rfl rfl
theorem ml_X11_403 : Cond.methodLink RX11 403 M_X11_gcd.1 ∈ tbG := tb7 105 rfl rfl
theorem ml_L_85 : Cond.methodLink "WharfPapersLaw" 85 M_X11_doubt.1 ∈ tbG := tb7 108 rfl rfl
theorem ml_X11_410 : Cond.methodLink RX11 410 M_X11_fewestFrom.1 ∈ tbG := tb7 112 rfl rfl
theorem ml_L_90 : Cond.methodLink "WharfPapersLaw" 90 M_X11_stock.1 ∈ tbG := tb7 116 rfl rfl
theorem ml_L_94 : Cond.methodLink "WharfPapersLaw" 94 M_X11_news.1 ∈ tbG := tb7 120 rfl rfl
theorem ml_L_98 : Cond.methodLink "WharfPapersLaw" 98 M_X11_rent.1 ∈ tbG := tb7 124 rfl rfl
theorem ml_X11_413 : Cond.methodLink RX11 413 M_X11_rentOf.1 ∈ tbG := tb7 128 rfl rfl
theorem ml_L_102 : Cond.methodLink "WharfPapersLaw" 102 M_X11_weight.1 ∈ tbG := tb7 132 rfl rfl
theorem ml_X11_416 : Cond.methodLink RX11 416 M_X11_weightOn.1 ∈ tbG := tb7 136 rfl rfl
theorem ml_L_106 : Cond.methodLink "WharfPapersLaw" 106 M_X11_weigh.1 ∈ tbG := tb7 140 rfl rfl
theorem ml_L_110 : Cond.methodLink "WharfPapersLaw" 110 M_X11_loss.1 ∈ tbG := tb7 145 rfl rfl
theorem ml_L_114 : Cond.methodLink "WharfPapersLaw" 114 M_X11_unpaid.1 ∈ tbG := tb7 151 rfl rfl
theorem ml_L_118 : Cond.methodLink "WharfPapersLaw" 118 M_X11_money.1 ∈ tbG := tb7 156 rfl rfl
theorem ml_X11_432 : Cond.methodLink RX11 432 M_X11_wants.1 ∈ tbG := tb7 162 rfl rfl
theorem ml_L_122 : Cond.methodLink "WharfPapersLaw" 122 M_X11_sale.1 ∈ tbG := tb7 167 rfl rfl
theorem ml_L_126 : Cond.methodLink "WharfPapersLaw" 126 M_X11_net.1 ∈ tbG := tb7 172 rfl rfl
theorem ml_L_130 : Cond.methodLink "WharfPapersLaw" 130 M_X11_handings.1 ∈ tbG := tb7 176 rfl rfl
theorem ml_L_134 : Cond.methodLink "WharfPapersLaw" 134 M_X11_due.1 ∈ tbG := tb7 180 rfl rfl
theorem ml_L_138 : Cond.methodLink "WharfPapersLaw" 138 M_X11_coin.1 ∈ tbG := tb7 184 rfl rfl
theorem ml_L_142 : Cond.methodLink "WharfPapersLaw" 142 M_X11_fails.1 ∈ tbG := tb7 188 rfl rfl
theorem ml_X11_447 : Cond.methodLink RX11 447 M_X11_goRounds.1 ∈ tbG := tb7 192 rfl rfl
theorem ml_X11_441 : Cond.methodLink RX11 441 M_X11_owes.1 ∈ tbG := tb7 196 rfl rfl
theorem ml_X11_444 : Cond.methodLink RX11 444 M_X11_has.1 ∈ tbG := tb7 200 rfl rfl
theorem ml_X11_450 : Cond.methodLink RX11 450 M_X11_gives.1 ∈ tbG := tb7 204 rfl rfl
theorem ml_L_147 : Cond.methodLink "WharfPapersLaw" 147 M_X11_part.1 ∈ tbG := tb7 208 rfl rfl
theorem ml_L_151 : Cond.methodLink "WharfPapersLaw" 151 M_X11_plan.1 ∈ tbG := tb7 212 rfl rfl
theorem ml_X11_456 : Cond.methodLink RX11 456 M_X11_put.1 ∈ tbG := tb7 216 rfl rfl
theorem ml_X11_463 : Cond.methodLink RX11 463 M_X11_layAll.1 ∈ tbG := tb7 220 rfl rfl
theorem ml_X11_460 : Cond.methodLink RX11 460 M_X11_mayLie.1 ∈ tbG := tb7 224 rfl rfl
theorem mi_X0_init : miq M_X0_init 0 := ⟨⟨tb2 34 rfl rfl, tb1 7 rfl rfl, by decide, by decide, by decide +kernel⟩, tb2 33 rfl rfl, rfl, rfl⟩
theorem mv_X0_find : mvq M_X0_find 3 := ⟨⟨tb4 125 rfl rfl, tb1 7 rfl rfl, by decide, by decide, by decide +kernel⟩, tb4 123 rfl rfl, tb4 124 rfl rfl⟩
theorem mv_X0_isOf : mvq M_X0_isOf 3 := ⟨⟨tb4 130 rfl rfl, tb1 7 rfl rfl, by decide, by decide, by decide +kernel⟩, tb4 129 rfl rfl, tbP (q := (M_X0_isOf.1, 3)) (nthq_mem (i := 32) rfl)⟩
theorem mv_X0_fewest : mvq M_X0_fewest 1 := ⟨⟨tb4 135 rfl rfl, tb1 7 rfl rfl, by decide, by decide, by decide +kernel⟩, tb4 134 rfl rfl, tbP (q := (M_X0_fewest.1, 3)) (nthq_mem (i := 33) rfl)⟩
theorem mv_X0_at : mvq M_X0_at 1 := ⟨⟨tb4 142 rfl rfl, tb1 7 rfl rfl, by decide, by decide, by decide +kernel⟩, tb4 140 rfl rfl, tb4 141 rfl rfl⟩
theorem mi_X1_init : miq M_X1_init 0 := ⟨⟨tb2 111 rfl rfl, tb1 10 rfl rfl, by decide, by decide, by decide +kernel⟩, tb2 110 rfl rfl, rfl, rfl⟩
theorem mv_X1_add : mvq M_X1_add 3 := ⟨⟨tb5 12 rfl rfl, tb1 10 rfl rfl, by decide, by decide, by decide +kernel⟩, tb5 10 rfl rfl, tb5 11 rfl rfl⟩
theorem mv_X1_settle : mvq M_X1_settle 0 := ⟨⟨tb5 24 rfl rfl, tb1 10 rfl rfl, by decide, by decide, by decide +kernel⟩, tb5 22 rfl rfl, tb5 23 rfl rfl⟩
theorem mv_X1_begin : mvq M_X1_begin 0 := ⟨⟨tb5 28 rfl rfl, tb1 10 rfl rfl, by decide, by decide, by decide +kernel⟩, tb5 27 rfl rfl, tbP (q := (M_X1_begin.1, 10)) (nthq_mem (i := 40) rfl)⟩
theorem mv_X1_isRoundChanging : mvq M_X1_isRoundChanging 0 := ⟨⟨tb5 36 rfl rfl, tb1 10 rfl rfl, by decide, by decide, by decide +kernel⟩, tb5 35 rfl rfl, tbP (q := (M_X1_isRoundChanging.1, 10)) (nthq_mem (i := 42) rfl)⟩
theorem mv_X1_partOf : mvq M_X1_partOf 2 := ⟨⟨tb5 40 rfl rfl, tb1 10 rfl rfl, by decide, by decide, by decide +kernel⟩, tb5 39 rfl rfl, tbP (q := (M_X1_partOf.1, 10)) (nthq_mem (i := 43) rfl)⟩
theorem mv_X1_receive : mvq M_X1_receive 0 := ⟨⟨tb5 32 rfl rfl, tb1 10 rfl rfl, by decide, by decide, by decide +kernel⟩, tb5 31 rfl rfl, tbP (q := (M_X1_receive.1, 10)) (nthq_mem (i := 41) rfl)⟩
theorem mv_X1_givenBy : mvq M_X1_givenBy 1 := ⟨⟨tb5 44 rfl rfl, tb1 10 rfl rfl, by decide, by decide, by decide +kernel⟩, tb5 42 rfl rfl, tb5 43 rfl rfl⟩
theorem mv_X1_failedCount : mvq M_X1_failedCount 0 := ⟨⟨tb5 48 rfl rfl, tb1 10 rfl rfl, by decide, by decide, by decide +kernel⟩, tb5 46 rfl rfl, tb5 47 rfl rfl⟩
theorem mi_X2_init : miq M_X2_init 0 := ⟨⟨tb1 68 rfl rfl, tb1 3 rfl rfl, by decide, by decide, by decide +kernel⟩, tb1 67 rfl rfl, rfl, rfl⟩
theorem mv_X2_has : mvq M_X2_has 1 := ⟨⟨tb3 36 rfl rfl, tb1 3 rfl rfl, by decide, by decide, by decide +kernel⟩, tb3 34 rfl rfl, tb3 35 rfl rfl⟩
theorem mv_X2_isPaper : mvq M_X2_isPaper 1 := ⟨⟨tb3 40 rfl rfl, tb1 3 rfl rfl, by decide, by decide, by decide +kernel⟩, tb3 38 rfl rfl, tb3 39 rfl rfl⟩
theorem mv_X2_add : mvq M_X2_add 7 := ⟨⟨tb3 47 rfl rfl, tb1 3 rfl rfl, by decide, by decide, by decide +kernel⟩, tb3 45 rfl rfl, tb3 46 rfl rfl⟩
theorem mv_X2_know : mvq M_X2_know 1 := ⟨⟨tb3 55 rfl rfl, tb1 3 rfl rfl, by decide, by decide, by decide +kernel⟩, tb3 53 rfl rfl, tb3 54 rfl rfl⟩
theorem mv_X2_isInBook : mvq M_X2_isInBook 1 := ⟨⟨tb3 68 rfl rfl, tb1 3 rfl rfl, by decide, by decide, by decide +kernel⟩, tb3 66 rfl rfl, tb3 67 rfl rfl⟩
theorem mv_X2_inBookAt : mvq M_X2_inBookAt 1 := ⟨⟨tb3 157 rfl rfl, tb1 3 rfl rfl, by decide, by decide, by decide +kernel⟩, tb3 155 rfl rfl, tb3 156 rfl rfl⟩
theorem mv_X2_voidCount : mvq M_X2_voidCount 0 := ⟨⟨tb3 166 rfl rfl, tb1 3 rfl rfl, by decide, by decide, by decide +kernel⟩, tb3 164 rfl rfl, tb3 165 rfl rfl⟩
theorem mi_X3_init : miq M_X3_init 0 := ⟨⟨tb1 31 rfl rfl, tb1 2 rfl rfl, by decide, by decide, by decide +kernel⟩, tb1 30 rfl rfl, rfl, rfl⟩
theorem mv_X3_has : mvq M_X3_has 1 := ⟨⟨tb3 20 rfl rfl, tb1 2 rfl rfl, by decide, by decide, by decide +kernel⟩, tb3 18 rfl rfl, tb3 19 rfl rfl⟩
theorem mv_X3_add : mvq M_X3_add 5 := ⟨⟨tb3 8 rfl rfl, tb1 2 rfl rfl, by decide, by decide, by decide +kernel⟩, tb3 6 rfl rfl, tb3 7 rfl rfl⟩
theorem mi_X4_init : miq M_X4_init 0 := ⟨⟨tb2 154 rfl rfl, tb1 11 rfl rfl, by decide, by decide, by decide +kernel⟩, tb2 153 rfl rfl, rfl, rfl⟩
theorem mv_X4_lay : mvq M_X4_lay 5 := ⟨⟨tb5 66 rfl rfl, tb1 11 rfl rfl, by decide, by decide, by decide +kernel⟩, tb5 64 rfl rfl, tb5 65 rfl rfl⟩
theorem mv_X4_choose : mvq M_X4_choose 2 := ⟨⟨tb5 70 rfl rfl, tb1 11 rfl rfl, by decide, by decide, by decide +kernel⟩, tb5 69 rfl rfl, tbP (q := (M_X4_choose.1, 7)) (nthq_mem (i := 44) rfl)⟩
theorem mv_X4_gather : mvq M_X4_gather 2 := ⟨⟨tb5 74 rfl rfl, tb1 11 rfl rfl, by decide, by decide, by decide +kernel⟩, tb5 73 rfl rfl, tbP (q := (M_X4_gather.1, 7)) (nthq_mem (i := 45) rfl)⟩
theorem mv_X4_priceOn : mvq M_X4_priceOn 3 := ⟨⟨tb5 80 rfl rfl, tb1 11 rfl rfl, by decide, by decide, by decide +kernel⟩, tb5 79 rfl rfl, tbP (q := (M_X4_priceOn.1, 7)) (nthq_mem (i := 46) rfl)⟩
theorem mv_X4_shut : mvq M_X4_shut 3 := ⟨⟨tb5 87 rfl rfl, tb1 11 rfl rfl, by decide, by decide, by decide +kernel⟩, tb5 86 rfl rfl, tbP (q := (M_X4_shut.1, 7)) (nthq_mem (i := 47) rfl)⟩
theorem mv_X4_isParted : mvq M_X4_isParted 3 := ⟨⟨tb5 91 rfl rfl, tb1 11 rfl rfl, by decide, by decide, by decide +kernel⟩, tb5 90 rfl rfl, tbP (q := (M_X4_isParted.1, 7)) (nthq_mem (i := 48) rfl)⟩
theorem mv_X4_openFloor : mvq M_X4_openFloor 0 := ⟨⟨tb5 95 rfl rfl, tb1 11 rfl rfl, by decide, by decide, by decide +kernel⟩, tb5 94 rfl rfl, tbP (q := (M_X4_openFloor.1, 7)) (nthq_mem (i := 49) rfl)⟩
theorem mv_X4_isFound : mvq M_X4_isFound 0 := ⟨⟨tb5 103 rfl rfl, tb1 11 rfl rfl, by decide, by decide, by decide +kernel⟩, tb5 101 rfl rfl, tb5 102 rfl rfl⟩
theorem mv_X4_moved : mvq M_X4_moved 0 := ⟨⟨tb5 107 rfl rfl, tb1 11 rfl rfl, by decide, by decide, by decide +kernel⟩, tb5 105 rfl rfl, tb5 106 rfl rfl⟩
theorem mv_X4_floorOf : mvq M_X4_floorOf 1 := ⟨⟨tb5 111 rfl rfl, tb1 11 rfl rfl, by decide, by decide, by decide +kernel⟩, tb5 109 rfl rfl, tb5 110 rfl rfl⟩
theorem mi_X5_init : miq M_X5_init 0 := ⟨⟨tb1 163 rfl rfl, tb1 5 rfl rfl, by decide, by decide, by decide +kernel⟩, tb1 162 rfl rfl, rfl, rfl⟩
theorem mv_X5_add : mvq M_X5_add 1 := ⟨⟨tb3 182 rfl rfl, tb1 5 rfl rfl, by decide, by decide, by decide +kernel⟩, tb3 180 rfl rfl, tb3 181 rfl rfl⟩
theorem mv_X5_read : mvq M_X5_read 1 := ⟨⟨tb3 193 rfl rfl, tb1 5 rfl rfl, by decide, by decide, by decide +kernel⟩, tb3 191 rfl rfl, tb3 192 rfl rfl⟩
theorem mv_X5_readClause : mvq M_X5_readClause 1 := ⟨⟨tb3 201 rfl rfl, tb1 5 rfl rfl, by decide, by decide, by decide +kernel⟩, tb3 200 rfl rfl, tbP (q := (M_X5_readClause.1, 9)) (nthq_mem (i := 19) rfl)⟩
theorem mv_X5_readLet : mvq M_X5_readLet 0 := ⟨⟨tb4 41 rfl rfl, tb1 5 rfl rfl, by decide, by decide, by decide +kernel⟩, tb4 40 rfl rfl, tbP (q := (M_X5_readLet.1, 9)) (nthq_mem (i := 23) rfl)⟩
theorem mv_X5_readDry : mvq M_X5_readDry 0 := ⟨⟨tb4 59 rfl rfl, tb1 5 rfl rfl, by decide, by decide, by decide +kernel⟩, tb4 58 rfl rfl, tbP (q := (M_X5_readDry.1, 9)) (nthq_mem (i := 27) rfl)⟩
theorem mv_X5_takeTerm : mvq M_X5_takeTerm 1 := ⟨⟨tb4 67 rfl rfl, tb1 5 rfl rfl, by decide, by decide, by decide +kernel⟩, tb4 66 rfl rfl, tbP (q := (M_X5_takeTerm.1, 9)) (nthq_mem (i := 29) rfl)⟩
theorem mv_X5_takeKeys : mvq M_X5_takeKeys 0 := ⟨⟨tb4 63 rfl rfl, tb1 5 rfl rfl, by decide, by decide, by decide +kernel⟩, tb4 62 rfl rfl, tbP (q := (M_X5_takeKeys.1, 9)) (nthq_mem (i := 28) rfl)⟩
theorem mv_X5_keep : mvq M_X5_keep 2 := ⟨⟨tb4 51 rfl rfl, tb1 5 rfl rfl, by decide, by decide, by decide +kernel⟩, tb4 50 rfl rfl, tbP (q := (M_X5_keep.1, 9)) (nthq_mem (i := 25) rfl)⟩
theorem mv_X5_takeIf : mvq M_X5_takeIf 1 := ⟨⟨tb4 55 rfl rfl, tb1 5 rfl rfl, by decide, by decide, by decide +kernel⟩, tb4 54 rfl rfl, tbP (q := (M_X5_takeIf.1, 9)) (nthq_mem (i := 26) rfl)⟩
theorem mv_X5_takeWord : mvq M_X5_takeWord 2 := ⟨⟨tb3 205 rfl rfl, tb1 5 rfl rfl, by decide, by decide, by decide +kernel⟩, tb3 204 rfl rfl, tbP (q := (M_X5_takeWord.1, 9)) (nthq_mem (i := 20) rfl)⟩
theorem mv_X5_isSpelled : mvq M_X5_isSpelled 2 := ⟨⟨tb3 225 rfl rfl, tb1 5 rfl rfl, by decide, by decide, by decide +kernel⟩, tb3 224 rfl rfl, tbP (q := (M_X5_isSpelled.1, 9)) (nthq_mem (i := 21) rfl)⟩
theorem mv_X5_takeNumber : mvq M_X5_takeNumber 1 := ⟨⟨tb4 47 rfl rfl, tb1 5 rfl rfl, by decide, by decide, by decide +kernel⟩, tb4 46 rfl rfl, tbP (q := (M_X5_takeNumber.1, 9)) (nthq_mem (i := 24) rfl)⟩
theorem mv_X5_skipBlanks : mvq M_X5_skipBlanks 0 := ⟨⟨tb3 197 rfl rfl, tb1 5 rfl rfl, by decide, by decide, by decide +kernel⟩, tb3 196 rfl rfl, tbP (q := (M_X5_skipBlanks.1, 9)) (nthq_mem (i := 18) rfl)⟩
theorem mv_X5_fail : mvq M_X5_fail 2 := ⟨⟨tb4 37 rfl rfl, tb1 5 rfl rfl, by decide, by decide, by decide +kernel⟩, tb4 36 rfl rfl, tbP (q := (M_X5_fail.1, 9)) (nthq_mem (i := 22) rfl)⟩
theorem ms_X5_spelling : msq M_X5_spelling 1 := ⟨⟨tb3 208 rfl rfl, tb1 5 rfl rfl, by decide, by decide, by decide +kernel⟩, tb3 207 rfl rfl⟩
theorem mi_X6_init : miq M_X6_init 0 := ⟨⟨tb2 79 rfl rfl, tb1 9 rfl rfl, by decide, by decide, by decide +kernel⟩, tb2 78 rfl rfl, rfl, rfl⟩
theorem mv_X6_add : mvq M_X6_add 4 := ⟨⟨tb4 222 rfl rfl, tb1 9 rfl rfl, by decide, by decide, by decide +kernel⟩, tb4 220 rfl rfl, tb4 221 rfl rfl⟩
theorem mv_X6_netOf : mvq M_X6_netOf 2 := ⟨⟨tb4 230 rfl rfl, tb1 9 rfl rfl, by decide, by decide, by decide +kernel⟩, tb4 228 rfl rfl, tb4 229 rfl rfl⟩
theorem mv_X6_fewestHandings : mvq M_X6_fewestHandings 1 := ⟨⟨tb4 238 rfl rfl, tb1 9 rfl rfl, by decide, by decide, by decide +kernel⟩, tb4 236 rfl rfl, tb4 237 rfl rfl⟩
theorem mv_X6_mostGroups : mvq M_X6_mostGroups 1 := ⟨⟨tb5 3 rfl rfl, tb1 9 rfl rfl, by decide, by decide, by decide +kernel⟩, tb5 2 rfl rfl, tbP (q := (M_X6_mostGroups.1, 8)) (nthq_mem (i := 39) rfl)⟩
theorem mi_X7_init : miq M_X7_init 3 := ⟨⟨tb1 203 rfl rfl, tb1 6 rfl rfl, by decide, by decide, by decide +kernel⟩, tb1 202 rfl rfl, rfl, rfl⟩
theorem mv_X7_tell : mvq M_X7_tell 2 := ⟨⟨tb3 59 rfl rfl, tb1 6 rfl rfl, by decide, by decide, by decide +kernel⟩, tb3 57 rfl rfl, tb3 58 rfl rfl⟩
theorem mv_X7_clear : mvq M_X7_clear 0 := ⟨⟨tb3 63 rfl rfl, tb1 6 rfl rfl, by decide, by decide, by decide +kernel⟩, tb3 62 rfl rfl, tbP (q := (M_X7_clear.1, 16)) (nthq_mem (i := 1) rfl)⟩
theorem mv_X7_isDone : mvq M_X7_isDone 1 := ⟨⟨tb3 72 rfl rfl, tb1 6 rfl rfl, by decide, by decide, by decide +kernel⟩, tb3 71 rfl rfl, tbP (q := (M_X7_isDone.1, 16)) (nthq_mem (i := 2) rfl)⟩
theorem mv_X7_issue : mvq M_X7_issue 2 := ⟨⟨tb3 76 rfl rfl, tb1 6 rfl rfl, by decide, by decide, by decide +kernel⟩, tb3 75 rfl rfl, tbP (q := (M_X7_issue.1, 16)) (nthq_mem (i := 3) rfl)⟩
theorem mv_X7_make : mvq M_X7_make 5 := ⟨⟨tb3 80 rfl rfl, tb1 6 rfl rfl, by decide, by decide, by decide +kernel⟩, tb3 79 rfl rfl, tbP (q := (M_X7_make.1, 16)) (nthq_mem (i := 4) rfl)⟩
theorem mv_X7_burn : mvq M_X7_burn 2 := ⟨⟨tb3 145 rfl rfl, tb1 6 rfl rfl, by decide, by decide, by decide +kernel⟩, tb3 144 rfl rfl, tbP (q := (M_X7_burn.1, 16)) (nthq_mem (i := 16) rfl)⟩
theorem mv_X7_pass : mvq M_X7_pass 2 := ⟨⟨tb3 95 rfl rfl, tb1 6 rfl rfl, by decide, by decide, by decide +kernel⟩, tb3 94 rfl rfl, tbP (q := (M_X7_pass.1, 16)) (nthq_mem (i := 5) rfl)⟩
theorem mv_X7_divide : mvq M_X7_divide 2 := ⟨⟨tb3 117 rfl rfl, tb1 6 rfl rfl, by decide, by decide, by decide +kernel⟩, tb3 116 rfl rfl, tbP (q := (M_X7_divide.1, 16)) (nthq_mem (i := 9) rfl)⟩
theorem mv_X7_isBound : mvq M_X7_isBound 1 := ⟨⟨tb3 121 rfl rfl, tb1 6 rfl rfl, by decide, by decide, by decide +kernel⟩, tb3 120 rfl rfl, tbP (q := (M_X7_isBound.1, 16)) (nthq_mem (i := 10) rfl)⟩
theorem mv_X7_lend : mvq M_X7_lend 2 := ⟨⟨tb3 125 rfl rfl, tb1 6 rfl rfl, by decide, by decide, by decide +kernel⟩, tb3 124 rfl rfl, tbP (q := (M_X7_lend.1, 16)) (nthq_mem (i := 11) rfl)⟩
theorem mv_X7_repay : mvq M_X7_repay 1 := ⟨⟨tb3 129 rfl rfl, tb1 6 rfl rfl, by decide, by decide, by decide +kernel⟩, tb3 128 rfl rfl, tbP (q := (M_X7_repay.1, 16)) (nthq_mem (i := 12) rfl)⟩
theorem mv_X7_stop : mvq M_X7_stop 2 := ⟨⟨tb3 133 rfl rfl, tb1 6 rfl rfl, by decide, by decide, by decide +kernel⟩, tb3 132 rfl rfl, tbP (q := (M_X7_stop.1, 16)) (nthq_mem (i := 13) rfl)⟩
theorem mv_X7_free : mvq M_X7_free 1 := ⟨⟨tb3 137 rfl rfl, tb1 6 rfl rfl, by decide, by decide, by decide +kernel⟩, tb3 136 rfl rfl, tbP (q := (M_X7_free.1, 16)) (nthq_mem (i := 14) rfl)⟩
theorem mv_X7_handOut : mvq M_X7_handOut 2 := ⟨⟨tb3 141 rfl rfl, tb1 6 rfl rfl, by decide, by decide, by decide +kernel⟩, tb3 140 rfl rfl, tbP (q := (M_X7_handOut.1, 16)) (nthq_mem (i := 15) rfl)⟩
theorem mv_X7_steal : mvq M_X7_steal 2 := ⟨⟨tb3 149 rfl rfl, tb1 6 rfl rfl, by decide, by decide, by decide +kernel⟩, tb3 148 rfl rfl, tbP (q := (M_X7_steal.1, 16)) (nthq_mem (i := 17) rfl)⟩
theorem mv_X7_thereOf : mvq M_X7_thereOf 1 := ⟨⟨tb3 88 rfl rfl, tb1 6 rfl rfl, by decide, by decide, by decide +kernel⟩, tb3 86 rfl rfl, tb3 87 rfl rfl⟩
theorem mv_X7_overOf : mvq M_X7_overOf 1 := ⟨⟨tb3 84 rfl rfl, tb1 6 rfl rfl, by decide, by decide, by decide +kernel⟩, tb3 82 rfl rfl, tb3 83 rfl rfl⟩
theorem mv_X7_vainCount : mvq M_X7_vainCount 0 := ⟨⟨tb3 170 rfl rfl, tb1 6 rfl rfl, by decide, by decide, by decide +kernel⟩, tb3 168 rfl rfl, tb3 169 rfl rfl⟩
theorem mv_X7_papersWithCasks : mvq M_X7_papersWithCasks 1 := ⟨⟨tb3 174 rfl rfl, tb1 6 rfl rfl, by decide, by decide, by decide +kernel⟩, tb3 172 rfl rfl, tb3 173 rfl rfl⟩
theorem mv_X7_casksOf : mvq M_X7_casksOf 3 := ⟨⟨tb4 150 rfl rfl, tb1 6 rfl rfl, by decide, by decide, by decide +kernel⟩, tb4 148 rfl rfl, tb4 149 rfl rfl⟩
theorem mv_X7_lentOn : mvq M_X7_lentOn 1 := ⟨⟨tb4 209 rfl rfl, tb1 6 rfl rfl, by decide, by decide, by decide +kernel⟩, tb4 207 rfl rfl, tb4 208 rfl rfl⟩
theorem mv_X7_unlike : mvq M_X7_unlike 1 := ⟨⟨tb4 158 rfl rfl, tb1 6 rfl rfl, by decide, by decide, by decide +kernel⟩, tb4 156 rfl rfl, tb4 157 rfl rfl⟩
theorem mv_X7_isHadOtherwise : mvq M_X7_isHadOtherwise 2 := ⟨⟨tb4 162 rfl rfl, tb1 6 rfl rfl, by decide, by decide, by decide +kernel⟩, tb4 161 rfl rfl, tbP (q := (M_X7_isHadOtherwise.1, 16)) (nthq_mem (i := 34) rfl)⟩
theorem mi_X8_init : miq M_X8_init 0 := ⟨⟨tb1 126 rfl rfl, tb1 4 rfl rfl, by decide, by decide, by decide +kernel⟩, tb1 125 rfl rfl, rfl, rfl⟩
theorem mv_X8_add : mvq M_X8_add 2 := ⟨⟨tb4 71 rfl rfl, tb1 4 rfl rfl, by decide, by decide, by decide +kernel⟩, tb4 69 rfl rfl, tb4 70 rfl rfl⟩
theorem mv_X8_on : mvq M_X8_on 2 := ⟨⟨tb3 99 rfl rfl, tb1 4 rfl rfl, by decide, by decide, by decide +kernel⟩, tb3 97 rfl rfl, tb3 98 rfl rfl⟩
theorem mv_X8_keyOn : mvq M_X8_keyOn 2 := ⟨⟨tb4 89 rfl rfl, tb1 4 rfl rfl, by decide, by decide, by decide +kernel⟩, tb4 87 rfl rfl, tb4 88 rfl rfl⟩
theorem mv_X8_keysOn : mvq M_X8_keysOn 1 := ⟨⟨tb4 85 rfl rfl, tb1 4 rfl rfl, by decide, by decide, by decide +kernel⟩, tb4 83 rfl rfl, tb4 84 rfl rfl⟩
theorem mv_X8_hold : mvq M_X8_hold 1 := ⟨⟨tb3 103 rfl rfl, tb1 4 rfl rfl, by decide, by decide, by decide +kernel⟩, tb3 102 rfl rfl, tbP (q := (M_X8_hold.1, 9)) (nthq_mem (i := 6) rfl)⟩
theorem mv_X8_strike : mvq M_X8_strike 1 := ⟨⟨tb3 107 rfl rfl, tb1 4 rfl rfl, by decide, by decide, by decide +kernel⟩, tb3 106 rfl rfl, tbP (q := (M_X8_strike.1, 9)) (nthq_mem (i := 7) rfl)⟩
theorem mv_X8_rule : mvq M_X8_rule 1 := ⟨⟨tb3 113 rfl rfl, tb1 4 rfl rfl, by decide, by decide, by decide +kernel⟩, tb3 112 rfl rfl, tbP (q := (M_X8_rule.1, 9)) (nthq_mem (i := 8) rfl)⟩
theorem mi_X9_init : miq M_X9_init 0 := ⟨⟨tb2 51 rfl rfl, tb1 8 rfl rfl, by decide, by decide, by decide +kernel⟩, tb2 50 rfl rfl, rfl, rfl⟩
theorem mv_X9_add : mvq M_X9_add 4 := ⟨⟨tb4 187 rfl rfl, tb1 8 rfl rfl, by decide, by decide, by decide +kernel⟩, tb4 185 rfl rfl, tb4 186 rfl rfl⟩
theorem mi_X10_init : miq M_X10_init 0 := ⟨⟨tb1 23 rfl rfl, tb1 1 rfl rfl, by decide, by decide, by decide +kernel⟩, tb1 22 rfl rfl, rfl, rfl⟩
theorem mv_X10_go : mvq M_X10_go 1 := ⟨⟨tb2 228 rfl rfl, tb1 1 rfl rfl, by decide, by decide, by decide +kernel⟩, tb2 226 rfl rfl, tb2 227 rfl rfl⟩
theorem mv_X10_lot : mvq M_X10_lot 5 := ⟨⟨tb2 235 rfl rfl, tb1 1 rfl rfl, by decide, by decide, by decide +kernel⟩, tb2 233 rfl rfl, tb2 234 rfl rfl⟩
theorem mv_X10_room : mvq M_X10_room 2 := ⟨⟨tb3 12 rfl rfl, tb1 1 rfl rfl, by decide, by decide, by decide +kernel⟩, tb3 10 rfl rfl, tb3 11 rfl rfl⟩
theorem mv_X10_move : mvq M_X10_move 2 := ⟨⟨tb3 16 rfl rfl, tb1 1 rfl rfl, by decide, by decide, by decide +kernel⟩, tb3 14 rfl rfl, tb3 15 rfl rfl⟩
theorem mv_X10_line : mvq M_X10_line 6 := ⟨⟨tb3 24 rfl rfl, tb1 1 rfl rfl, by decide, by decide, by decide +kernel⟩, tb3 22 rfl rfl, tb3 23 rfl rfl⟩
theorem mv_X10_told : mvq M_X10_told 2 := ⟨⟨tb3 51 rfl rfl, tb1 1 rfl rfl, by decide, by decide, by decide +kernel⟩, tb3 49 rfl rfl, tb3 50 rfl rfl⟩
theorem mv_X10_book : mvq M_X10_book 2 := ⟨⟨tb3 153 rfl rfl, tb1 1 rfl rfl, by decide, by decide, by decide +kernel⟩, tb3 151 rfl rfl, tb3 152 rfl rfl⟩
theorem mv_X10_count : mvq M_X10_count 1 := ⟨⟨tb3 162 rfl rfl, tb1 1 rfl rfl, by decide, by decide, by decide +kernel⟩, tb3 160 rfl rfl, tb3 161 rfl rfl⟩
theorem mv_X10_feed : mvq M_X10_feed 2 := ⟨⟨tb3 178 rfl rfl, tb1 1 rfl rfl, by decide, by decide, by decide +kernel⟩, tb3 176 rfl rfl, tb3 177 rfl rfl⟩
theorem mv_X10_term : mvq M_X10_term 1 := ⟨⟨tb3 186 rfl rfl, tb1 1 rfl rfl, by decide, by decide, by decide +kernel⟩, tb3 184 rfl rfl, tb3 185 rfl rfl⟩
theorem mv_X10_fault : mvq M_X10_fault 0 := ⟨⟨tb4 76 rfl rfl, tb1 1 rfl rfl, by decide, by decide, by decide +kernel⟩, tb4 74 rfl rfl, tb4 75 rfl rfl⟩
theorem mv_X10_force : mvq M_X10_force 2 := ⟨⟨tb4 80 rfl rfl, tb1 1 rfl rfl, by decide, by decide, by decide +kernel⟩, tb4 78 rfl rfl, tb4 79 rfl rfl⟩
theorem mv_X10_paper : mvq M_X10_paper 4 := ⟨⟨tb4 95 rfl rfl, tb1 1 rfl rfl, by decide, by decide, by decide +kernel⟩, tb4 93 rfl rfl, tb4 94 rfl rfl⟩
theorem mv_X10_goods : mvq M_X10_goods 4 := ⟨⟨tb4 103 rfl rfl, tb1 1 rfl rfl, by decide, by decide, by decide +kernel⟩, tb4 101 rfl rfl, tb4 102 rfl rfl⟩
theorem mv_X10_share : mvq M_X10_share 4 := ⟨⟨tb4 109 rfl rfl, tb1 1 rfl rfl, by decide, by decide, by decide +kernel⟩, tb4 107 rfl rfl, tb4 108 rfl rfl⟩
theorem mv_X10_doubt : mvq M_X10_doubt 4 := ⟨⟨tb4 121 rfl rfl, tb1 1 rfl rfl, by decide, by decide, by decide +kernel⟩, tb4 119 rfl rfl, tb4 120 rfl rfl⟩
theorem mv_X10_stock : mvq M_X10_stock 3 := ⟨⟨tb4 146 rfl rfl, tb1 1 rfl rfl, by decide, by decide, by decide +kernel⟩, tb4 144 rfl rfl, tb4 145 rfl rfl⟩
theorem mv_X10_news : mvq M_X10_news 3 := ⟨⟨tb4 154 rfl rfl, tb1 1 rfl rfl, by decide, by decide, by decide +kernel⟩, tb4 152 rfl rfl, tb4 153 rfl rfl⟩
theorem mv_X10_rent : mvq M_X10_rent 2 := ⟨⟨tb4 166 rfl rfl, tb1 1 rfl rfl, by decide, by decide, by decide +kernel⟩, tb4 164 rfl rfl, tb4 165 rfl rfl⟩
theorem mv_X10_weight : mvq M_X10_weight 2 := ⟨⟨tb4 174 rfl rfl, tb1 1 rfl rfl, by decide, by decide, by decide +kernel⟩, tb4 172 rfl rfl, tb4 173 rfl rfl⟩
theorem mv_X10_weigh : mvq M_X10_weigh 3 := ⟨⟨tb4 182 rfl rfl, tb1 1 rfl rfl, by decide, by decide, by decide +kernel⟩, tb4 180 rfl rfl, tb4 181 rfl rfl⟩
theorem mv_X10_loss : mvq M_X10_loss 2 := ⟨⟨tb4 191 rfl rfl, tb1 1 rfl rfl, by decide, by decide, by decide +kernel⟩, tb4 189 rfl rfl, tb4 190 rfl rfl⟩
theorem mv_X10_unpaid : mvq M_X10_unpaid 3 := ⟨⟨tb4 196 rfl rfl, tb1 1 rfl rfl, by decide, by decide, by decide +kernel⟩, tb4 194 rfl rfl, tb4 195 rfl rfl⟩
theorem mv_X10_money : mvq M_X10_money 4 := ⟨⟨tb4 200 rfl rfl, tb1 1 rfl rfl, by decide, by decide, by decide +kernel⟩, tb4 198 rfl rfl, tb4 199 rfl rfl⟩
theorem mv_X10_sale : mvq M_X10_sale 4 := ⟨⟨tb4 218 rfl rfl, tb1 1 rfl rfl, by decide, by decide, by decide +kernel⟩, tb4 216 rfl rfl, tb4 217 rfl rfl⟩
theorem mv_X10_net : mvq M_X10_net 2 := ⟨⟨tb4 226 rfl rfl, tb1 1 rfl rfl, by decide, by decide, by decide +kernel⟩, tb4 224 rfl rfl, tb4 225 rfl rfl⟩
theorem mv_X10_handings : mvq M_X10_handings 1 := ⟨⟨tb4 234 rfl rfl, tb1 1 rfl rfl, by decide, by decide, by decide +kernel⟩, tb4 232 rfl rfl, tb4 233 rfl rfl⟩
theorem mv_X10_due : mvq M_X10_due 3 := ⟨⟨tb5 8 rfl rfl, tb1 1 rfl rfl, by decide, by decide, by decide +kernel⟩, tb5 6 rfl rfl, tb5 7 rfl rfl⟩
theorem mv_X10_coin : mvq M_X10_coin 2 := ⟨⟨tb5 16 rfl rfl, tb1 1 rfl rfl, by decide, by decide, by decide +kernel⟩, tb5 14 rfl rfl, tb5 15 rfl rfl⟩
theorem mv_X10_fails : mvq M_X10_fails 2 := ⟨⟨tb5 20 rfl rfl, tb1 1 rfl rfl, by decide, by decide, by decide +kernel⟩, tb5 18 rfl rfl, tb5 19 rfl rfl⟩
theorem mv_X10_part : mvq M_X10_part 3 := ⟨⟨tb5 52 rfl rfl, tb1 1 rfl rfl, by decide, by decide, by decide +kernel⟩, tb5 50 rfl rfl, tb5 51 rfl rfl⟩
theorem mv_X10_plan : mvq M_X10_plan 2 := ⟨⟨tb5 56 rfl rfl, tb1 1 rfl rfl, by decide, by decide, by decide +kernel⟩, tb5 54 rfl rfl, tb5 55 rfl rfl⟩
theorem ms_X10_within : msq M_X10_within 3 := ⟨⟨tb2 231 rfl rfl, tb1 1 rfl rfl, by decide, by decide, by decide +kernel⟩, tb2 230 rfl rfl⟩
theorem ms_X10_isHouse : msq M_X10_isHouse 1 := ⟨⟨tb2 238 rfl rfl, tb1 1 rfl rfl, by decide, by decide, by decide +kernel⟩, tb2 237 rfl rfl⟩
theorem ms_X10_isFloor : msq M_X10_isFloor 1 := ⟨⟨tb3 1 rfl rfl, tb1 1 rfl rfl, by decide, by decide, by decide +kernel⟩, tb3 0 rfl rfl⟩
theorem ms_X10_isSort : msq M_X10_isSort 1 := ⟨⟨tb3 4 rfl rfl, tb1 1 rfl rfl, by decide, by decide, by decide +kernel⟩, tb3 3 rfl rfl⟩
theorem ms_X10_isDay : msq M_X10_isDay 1 := ⟨⟨tb3 189 rfl rfl, tb1 1 rfl rfl, by decide, by decide, by decide +kernel⟩, tb3 188 rfl rfl⟩
theorem mv_X10_isTarget : mvq M_X10_isTarget 2 := ⟨⟨tb3 32 rfl rfl, tb1 1 rfl rfl, by decide, by decide, by decide +kernel⟩, tb3 31 rfl rfl, tbP (q := (M_X10_isTarget.1, 15)) (nthq_mem (i := 0) rfl)⟩
theorem mv_X10_isAsked : mvq M_X10_isAsked 2 := ⟨⟨tb4 99 rfl rfl, tb1 1 rfl rfl, by decide, by decide, by decide +kernel⟩, tb4 98 rfl rfl, tbP (q := (M_X10_isAsked.1, 15)) (nthq_mem (i := 30) rfl)⟩
theorem mv_X10_shareAsTold : mvq M_X10_shareAsTold 2 := ⟨⟨tb4 113 rfl rfl, tb1 1 rfl rfl, by decide, by decide, by decide +kernel⟩, tb4 112 rfl rfl, tbP (q := (M_X10_shareAsTold.1, 15)) (nthq_mem (i := 31) rfl)⟩
theorem ms_X10_commonDivisor : msq M_X10_commonDivisor 2 := ⟨⟨tb4 116 rfl rfl, tb1 1 rfl rfl, by decide, by decide, by decide +kernel⟩, tb4 115 rfl rfl⟩
theorem mv_X10_rentAsTold : mvq M_X10_rentAsTold 2 := ⟨⟨tb4 170 rfl rfl, tb1 1 rfl rfl, by decide, by decide, by decide +kernel⟩, tb4 169 rfl rfl, tbP (q := (M_X10_rentAsTold.1, 15)) (nthq_mem (i := 35) rfl)⟩
theorem mv_X10_caskWeight : mvq M_X10_caskWeight 2 := ⟨⟨tb4 178 rfl rfl, tb1 1 rfl rfl, by decide, by decide, by decide +kernel⟩, tb4 177 rfl rfl, tbP (q := (M_X10_caskWeight.1, 15)) (nthq_mem (i := 36) rfl)⟩
theorem mv_X10_wanted : mvq M_X10_wanted 4 := ⟨⟨tb4 205 rfl rfl, tb1 1 rfl rfl, by decide, by decide, by decide +kernel⟩, tb4 204 rfl rfl, tbP (q := (M_X10_wanted.1, 15)) (nthq_mem (i := 37) rfl)⟩
theorem mv_X10_unpaidFor : mvq M_X10_unpaidFor 1 := ⟨⟨tb4 213 rfl rfl, tb1 1 rfl rfl, by decide, by decide, by decide +kernel⟩, tb4 212 rfl rfl, tbP (q := (M_X10_unpaidFor.1, 15)) (nthq_mem (i := 38) rfl)⟩
theorem mi_X11_init : miq M_X11_init 0 := ⟨⟨tb5 117 rfl rfl, tb1 12 rfl rfl, by decide, by decide, by decide +kernel⟩, tb5 116 rfl rfl, rfl, rfl⟩
theorem ms_X11_in : msq M_X11_in 3 := ⟨⟨tb6 124 rfl rfl, tb1 12 rfl rfl, by decide, by decide, by decide +kernel⟩, tb6 123 rfl rfl⟩
theorem ms_X11_one : msq M_X11_one 1 := ⟨⟨tb7 7 rfl rfl, tb1 12 rfl rfl, by decide, by decide, by decide +kernel⟩, tb7 6 rfl rfl⟩
theorem ms_X11_isHouse : msq M_X11_isHouse 1 := ⟨⟨tb6 131 rfl rfl, tb1 12 rfl rfl, by decide, by decide, by decide +kernel⟩, tb6 130 rfl rfl⟩
theorem ms_X11_isFloor : msq M_X11_isFloor 1 := ⟨⟨tb6 135 rfl rfl, tb1 12 rfl rfl, by decide, by decide, by decide +kernel⟩, tb6 134 rfl rfl⟩
theorem ms_X11_isDay : msq M_X11_isDay 1 := ⟨⟨tb6 200 rfl rfl, tb1 12 rfl rfl, by decide, by decide, by decide +kernel⟩, tb6 199 rfl rfl⟩
theorem mv_X11_isKnown : mvq M_X11_isKnown 1 := ⟨⟨tb6 173 rfl rfl, tb1 12 rfl rfl, by decide, by decide, by decide +kernel⟩, tb6 172 rfl rfl, tbP (q := (M_X11_isKnown.1, 79)) (nthq_mem (i := 53) rfl)⟩
theorem ms_X11_gcd : msq M_X11_gcd 2 := ⟨⟨tb7 107 rfl rfl, tb1 12 rfl rfl, by decide, by decide, by decide +kernel⟩, tb7 106 rfl rfl⟩
theorem mv_X11_noLot : mvq M_X11_noLot 1 := ⟨⟨tb6 150 rfl rfl, tb1 12 rfl rfl, by decide, by decide, by decide +kernel⟩, tb6 149 rfl rfl, tbP (q := (M_X11_noLot.1, 79)) (nthq_mem (i := 50) rfl)⟩
theorem mv_X11_go : mvq M_X11_go 1 := ⟨⟨tb6 120 rfl rfl, tb1 12 rfl rfl, by decide, by decide, by decide +kernel⟩, tb6 118 rfl rfl, tb6 119 rfl rfl⟩
theorem mv_X11_lot : mvq M_X11_lot 5 := ⟨⟨tb6 128 rfl rfl, tb1 12 rfl rfl, by decide, by decide, by decide +kernel⟩, tb6 126 rfl rfl, tb6 127 rfl rfl⟩
theorem mv_X11_room : mvq M_X11_room 2 := ⟨⟨tb6 142 rfl rfl, tb1 12 rfl rfl, by decide, by decide, by decide +kernel⟩, tb6 140 rfl rfl, tb6 141 rfl rfl⟩
theorem mv_X11_move : mvq M_X11_move 2 := ⟨⟨tb6 146 rfl rfl, tb1 12 rfl rfl, by decide, by decide, by decide +kernel⟩, tb6 144 rfl rfl, tb6 145 rfl rfl⟩
theorem ms_X11_hasP : msq M_X11_hasP 1 := ⟨⟨tb6 169 rfl rfl, tb1 12 rfl rfl, by decide, by decide, by decide +kernel⟩, tb6 168 rfl rfl⟩
theorem ms_X11_isOfLot : msq M_X11_isOfLot 1 := ⟨⟨tb6 162 rfl rfl, tb1 12 rfl rfl, by decide, by decide, by decide +kernel⟩, tb6 161 rfl rfl⟩
theorem ms_X11_hasMany : msq M_X11_hasMany 1 := ⟨⟨tb6 176 rfl rfl, tb1 12 rfl rfl, by decide, by decide, by decide +kernel⟩, tb6 175 rfl rfl⟩
theorem ms_X11_mostOf : msq M_X11_mostOf 1 := ⟨⟨tb6 179 rfl rfl, tb1 12 rfl rfl, by decide, by decide, by decide +kernel⟩, tb6 178 rfl rfl⟩
theorem mv_X11_isPaper : mvq M_X11_isPaper 1 := ⟨⟨tb6 166 rfl rfl, tb1 12 rfl rfl, by decide, by decide, by decide +kernel⟩, tb6 165 rfl rfl, tbP (q := (M_X11_isPaper.1, 79)) (nthq_mem (i := 52) rfl)⟩
theorem mv_X11_noTarget : mvq M_X11_noTarget 2 := ⟨⟨tb6 159 rfl rfl, tb1 12 rfl rfl, by decide, by decide, by decide +kernel⟩, tb6 158 rfl rfl, tbP (q := (M_X11_noTarget.1, 79)) (nthq_mem (i := 51) rfl)⟩
theorem mv_X11_line : mvq M_X11_line 6 := ⟨⟨tb6 154 rfl rfl, tb1 12 rfl rfl, by decide, by decide, by decide +kernel⟩, tb6 152 rfl rfl, tb6 153 rfl rfl⟩
theorem mv_X11_findBook : mvq M_X11_findBook 1 := ⟨⟨tb6 187 rfl rfl, tb1 12 rfl rfl, by decide, by decide, by decide +kernel⟩, tb6 186 rfl rfl, tbP (q := (M_X11_findBook.1, 79)) (nthq_mem (i := 54) rfl)⟩
theorem mv_X11_book : mvq M_X11_book 2 := ⟨⟨tb6 183 rfl rfl, tb1 12 rfl rfl, by decide, by decide, by decide +kernel⟩, tb6 181 rfl rfl, tb6 182 rfl rfl⟩
theorem mv_X11_feed : mvq M_X11_feed 2 := ⟨⟨tb6 191 rfl rfl, tb1 12 rfl rfl, by decide, by decide, by decide +kernel⟩, tb6 189 rfl rfl, tb6 190 rfl rfl⟩
theorem mv_X11_here : mvq M_X11_here 0 := ⟨⟨tb6 205 rfl rfl, tb1 12 rfl rfl, by decide, by decide, by decide +kernel⟩, tb6 204 rfl rfl, tbP (q := (M_X11_here.1, 79)) (nthq_mem (i := 55) rfl)⟩
theorem mv_X11_want : mvq M_X11_want 3 := ⟨⟨tb6 219 rfl rfl, tb1 12 rfl rfl, by decide, by decide, by decide +kernel⟩, tb6 218 rfl rfl, tbP (q := (M_X11_want.1, 79)) (nthq_mem (i := 58) rfl)⟩
theorem mv_X11_takeWord : mvq M_X11_takeWord 0 := ⟨⟨tb6 209 rfl rfl, tb1 12 rfl rfl, by decide, by decide, by decide +kernel⟩, tb6 208 rfl rfl, tbP (q := (M_X11_takeWord.1, 79)) (nthq_mem (i := 56) rfl)⟩
theorem mv_X11_isWord : mvq M_X11_isWord 7 := ⟨⟨tb6 215 rfl rfl, tb1 12 rfl rfl, by decide, by decide, by decide +kernel⟩, tb6 214 rfl rfl, tbP (q := (M_X11_isWord.1, 79)) (nthq_mem (i := 57) rfl)⟩
theorem mv_X11_takeNumber : mvq M_X11_takeNumber 1 := ⟨⟨tb6 234 rfl rfl, tb1 12 rfl rfl, by decide, by decide, by decide +kernel⟩, tb6 233 rfl rfl, tbP (q := (M_X11_takeNumber.1, 79)) (nthq_mem (i := 61) rfl)⟩
theorem mv_X11_nameOf : mvq M_X11_nameOf 0 := ⟨⟨tb6 227 rfl rfl, tb1 12 rfl rfl, by decide, by decide, by decide +kernel⟩, tb6 226 rfl rfl, tbP (q := (M_X11_nameOf.1, 79)) (nthq_mem (i := 60) rfl)⟩
theorem ms_X11_mostOfName : msq M_X11_mostOfName 1 := ⟨⟨tb6 230 rfl rfl, tb1 12 rfl rfl, by decide, by decide, by decide +kernel⟩, tb6 229 rfl rfl⟩
theorem mv_X11_keyOf : mvq M_X11_keyOf 0 := ⟨⟨tb7 4 rfl rfl, tb1 12 rfl rfl, by decide, by decide, by decide +kernel⟩, tb7 3 rfl rfl, tbP (q := (M_X11_keyOf.1, 79)) (nthq_mem (i := 63) rfl)⟩
theorem mv_X11_readRank : mvq M_X11_readRank 1 := ⟨⟨tb7 0 rfl rfl, tb1 12 rfl rfl, by decide, by decide, by decide +kernel⟩, tb6 239 rfl rfl, tbP (q := (M_X11_readRank.1, 79)) (nthq_mem (i := 62) rfl)⟩
theorem mv_X11_readClause : mvq M_X11_readClause 2 := ⟨⟨tb6 223 rfl rfl, tb1 12 rfl rfl, by decide, by decide, by decide +kernel⟩, tb6 222 rfl rfl, tbP (q := (M_X11_readClause.1, 79)) (nthq_mem (i := 59) rfl)⟩
theorem mv_X11_term : mvq M_X11_term 1 := ⟨⟨tb6 197 rfl rfl, tb1 12 rfl rfl, by decide, by decide, by decide +kernel⟩, tb6 195 rfl rfl, tb6 196 rfl rfl⟩
theorem mv_X11_fault : mvq M_X11_fault 0 := ⟨⟨tb7 11 rfl rfl, tb1 12 rfl rfl, by decide, by decide, by decide +kernel⟩, tb7 9 rfl rfl, tb7 10 rfl rfl⟩
theorem mv_X11_findTerms : mvq M_X11_findTerms 1 := ⟨⟨tb7 20 rfl rfl, tb1 12 rfl rfl, by decide, by decide, by decide +kernel⟩, tb7 19 rfl rfl, tbP (q := (M_X11_findTerms.1, 79)) (nthq_mem (i := 64) rfl)⟩
theorem mv_X11_force : mvq M_X11_force 2 := ⟨⟨tb7 15 rfl rfl, tb1 12 rfl rfl, by decide, by decide, by decide +kernel⟩, tb7 13 rfl rfl, tb7 14 rfl rfl⟩
theorem mv_X11_there : mvq M_X11_there 1 := ⟨⟨tb7 48 rfl rfl, tb1 12 rfl rfl, by decide, by decide, by decide +kernel⟩, tb7 47 rfl rfl, tbP (q := (M_X11_there.1, 79)) (nthq_mem (i := 70) rfl)⟩
theorem mv_X11_onPapers : mvq M_X11_onPapers 1 := ⟨⟨tb7 44 rfl rfl, tb1 12 rfl rfl, by decide, by decide, by decide +kernel⟩, tb7 43 rfl rfl, tbP (q := (M_X11_onPapers.1, 79)) (nthq_mem (i := 69) rfl)⟩
theorem mv_X11_lay : mvq M_X11_lay 5 := ⟨⟨tb7 40 rfl rfl, tb1 12 rfl rfl, by decide, by decide, by decide +kernel⟩, tb7 39 rfl rfl, tbP (q := (M_X11_lay.1, 79)) (nthq_mem (i := 68) rfl)⟩
theorem mv_X11_pass : mvq M_X11_pass 2 := ⟨⟨tb7 56 rfl rfl, tb1 12 rfl rfl, by decide, by decide, by decide +kernel⟩, tb7 55 rfl rfl, tbP (q := (M_X11_pass.1, 79)) (nthq_mem (i := 72) rfl)⟩
theorem mv_X11_partFrom : mvq M_X11_partFrom 2 := ⟨⟨tb7 60 rfl rfl, tb1 12 rfl rfl, by decide, by decide, by decide +kernel⟩, tb7 59 rfl rfl, tbP (q := (M_X11_partFrom.1, 79)) (nthq_mem (i := 73) rfl)⟩
theorem mv_X11_lend : mvq M_X11_lend 2 := ⟨⟨tb7 64 rfl rfl, tb1 12 rfl rfl, by decide, by decide, by decide +kernel⟩, tb7 63 rfl rfl, tbP (q := (M_X11_lend.1, 79)) (nthq_mem (i := 74) rfl)⟩
theorem mv_X11_handOut : mvq M_X11_handOut 2 := ⟨⟨tb7 68 rfl rfl, tb1 12 rfl rfl, by decide, by decide, by decide +kernel⟩, tb7 67 rfl rfl, tbP (q := (M_X11_handOut.1, 79)) (nthq_mem (i := 75) rfl)⟩
theorem mv_X11_burn : mvq M_X11_burn 2 := ⟨⟨tb7 52 rfl rfl, tb1 12 rfl rfl, by decide, by decide, by decide +kernel⟩, tb7 51 rfl rfl, tbP (q := (M_X11_burn.1, 79)) (nthq_mem (i := 71) rfl)⟩
theorem mv_X11_issue : mvq M_X11_issue 1 := ⟨⟨tb7 36 rfl rfl, tb1 12 rfl rfl, by decide, by decide, by decide +kernel⟩, tb7 35 rfl rfl, tbP (q := (M_X11_issue.1, 79)) (nthq_mem (i := 67) rfl)⟩
theorem mv_X11_change : mvq M_X11_change 2 := ⟨⟨tb7 72 rfl rfl, tb1 12 rfl rfl, by decide, by decide, by decide +kernel⟩, tb7 71 rfl rfl, tbP (q := (M_X11_change.1, 79)) (nthq_mem (i := 76) rfl)⟩
theorem mv_X11_befall : mvq M_X11_befall 1 := ⟨⟨tb7 32 rfl rfl, tb1 12 rfl rfl, by decide, by decide, by decide +kernel⟩, tb7 31 rfl rfl, tbP (q := (M_X11_befall.1, 79)) (nthq_mem (i := 66) rfl)⟩
theorem mv_X11_tell : mvq M_X11_tell 2 := ⟨⟨tb7 28 rfl rfl, tb1 12 rfl rfl, by decide, by decide, by decide +kernel⟩, tb7 27 rfl rfl, tbP (q := (M_X11_tell.1, 79)) (nthq_mem (i := 65) rfl)⟩
theorem mv_X11_told : mvq M_X11_told 2 := ⟨⟨tb7 24 rfl rfl, tb1 12 rfl rfl, by decide, by decide, by decide +kernel⟩, tb7 22 rfl rfl, tb7 23 rfl rfl⟩
theorem mv_X11_linesNow : mvq M_X11_linesNow 1 := ⟨⟨tb7 80 rfl rfl, tb1 12 rfl rfl, by decide, by decide, by decide +kernel⟩, tb7 79 rfl rfl, tbP (q := (M_X11_linesNow.1, 79)) (nthq_mem (i := 77) rfl)⟩
theorem mv_X11_papersToday : mvq M_X11_papersToday 0 := ⟨⟨tb7 84 rfl rfl, tb1 12 rfl rfl, by decide, by decide, by decide +kernel⟩, tb7 83 rfl rfl, tbP (q := (M_X11_papersToday.1, 79)) (nthq_mem (i := 78) rfl)⟩
theorem mv_X11_count : mvq M_X11_count 1 := ⟨⟨tb7 76 rfl rfl, tb1 12 rfl rfl, by decide, by decide, by decide +kernel⟩, tb7 74 rfl rfl, tb7 75 rfl rfl⟩
theorem mv_X11_whyNot : mvq M_X11_whyNot 5 := ⟨⟨tb7 92 rfl rfl, tb1 12 rfl rfl, by decide, by decide, by decide +kernel⟩, tb7 91 rfl rfl, tbP (q := (M_X11_whyNot.1, 79)) (nthq_mem (i := 79) rfl)⟩
theorem mv_X11_paper : mvq M_X11_paper 4 := ⟨⟨tb7 88 rfl rfl, tb1 12 rfl rfl, by decide, by decide, by decide +kernel⟩, tb7 86 rfl rfl, tb7 87 rfl rfl⟩
theorem mv_X11_over : mvq M_X11_over 1 := ⟨⟨tb7 100 rfl rfl, tb1 12 rfl rfl, by decide, by decide, by decide +kernel⟩, tb7 99 rfl rfl, tbP (q := (M_X11_over.1, 79)) (nthq_mem (i := 80) rfl)⟩
theorem mv_X11_goods : mvq M_X11_goods 4 := ⟨⟨tb7 96 rfl rfl, tb1 12 rfl rfl, by decide, by decide, by decide +kernel⟩, tb7 94 rfl rfl, tb7 95 rfl rfl⟩
theorem mv_X11_share : mvq M_X11_share 4 := ⟨⟨tb7 104 rfl rfl, tb1 12 rfl rfl, by decide, by decide, by decide +kernel⟩, tb7 102 rfl rfl, tb7 103 rfl rfl⟩
theorem mv_X11_fewestFrom : mvq M_X11_fewestFrom 2 := ⟨⟨tb7 115 rfl rfl, tb1 12 rfl rfl, by decide, by decide, by decide +kernel⟩, tb7 114 rfl rfl, tbP (q := (M_X11_fewestFrom.1, 79)) (nthq_mem (i := 81) rfl)⟩
theorem mv_X11_doubt : mvq M_X11_doubt 4 := ⟨⟨tb7 111 rfl rfl, tb1 12 rfl rfl, by decide, by decide, by decide +kernel⟩, tb7 109 rfl rfl, tb7 110 rfl rfl⟩
theorem mv_X11_stock : mvq M_X11_stock 3 := ⟨⟨tb7 119 rfl rfl, tb1 12 rfl rfl, by decide, by decide, by decide +kernel⟩, tb7 117 rfl rfl, tb7 118 rfl rfl⟩
theorem mv_X11_news : mvq M_X11_news 3 := ⟨⟨tb7 123 rfl rfl, tb1 12 rfl rfl, by decide, by decide, by decide +kernel⟩, tb7 121 rfl rfl, tb7 122 rfl rfl⟩
theorem mv_X11_rentOf : mvq M_X11_rentOf 2 := ⟨⟨tb7 131 rfl rfl, tb1 12 rfl rfl, by decide, by decide, by decide +kernel⟩, tb7 130 rfl rfl, tbP (q := (M_X11_rentOf.1, 79)) (nthq_mem (i := 82) rfl)⟩
theorem mv_X11_rent : mvq M_X11_rent 2 := ⟨⟨tb7 127 rfl rfl, tb1 12 rfl rfl, by decide, by decide, by decide +kernel⟩, tb7 125 rfl rfl, tb7 126 rfl rfl⟩
theorem mv_X11_weightOn : mvq M_X11_weightOn 2 := ⟨⟨tb7 139 rfl rfl, tb1 12 rfl rfl, by decide, by decide, by decide +kernel⟩, tb7 138 rfl rfl, tbP (q := (M_X11_weightOn.1, 79)) (nthq_mem (i := 83) rfl)⟩
theorem mv_X11_weight : mvq M_X11_weight 2 := ⟨⟨tb7 135 rfl rfl, tb1 12 rfl rfl, by decide, by decide, by decide +kernel⟩, tb7 133 rfl rfl, tb7 134 rfl rfl⟩
theorem mv_X11_weigh : mvq M_X11_weigh 3 := ⟨⟨tb7 143 rfl rfl, tb1 12 rfl rfl, by decide, by decide, by decide +kernel⟩, tb7 141 rfl rfl, tb7 142 rfl rfl⟩
theorem mv_X11_loss : mvq M_X11_loss 2 := ⟨⟨tb7 148 rfl rfl, tb1 12 rfl rfl, by decide, by decide, by decide +kernel⟩, tb7 146 rfl rfl, tb7 147 rfl rfl⟩
theorem mv_X11_unpaid : mvq M_X11_unpaid 3 := ⟨⟨tb7 154 rfl rfl, tb1 12 rfl rfl, by decide, by decide, by decide +kernel⟩, tb7 152 rfl rfl, tb7 153 rfl rfl⟩
theorem mv_X11_wants : mvq M_X11_wants 3 := ⟨⟨tb7 165 rfl rfl, tb1 12 rfl rfl, by decide, by decide, by decide +kernel⟩, tb7 164 rfl rfl, tbP (q := (M_X11_wants.1, 79)) (nthq_mem (i := 84) rfl)⟩
theorem mv_X11_money : mvq M_X11_money 4 := ⟨⟨tb7 159 rfl rfl, tb1 12 rfl rfl, by decide, by decide, by decide +kernel⟩, tb7 157 rfl rfl, tb7 158 rfl rfl⟩
theorem mv_X11_sale : mvq M_X11_sale 4 := ⟨⟨tb7 170 rfl rfl, tb1 12 rfl rfl, by decide, by decide, by decide +kernel⟩, tb7 168 rfl rfl, tb7 169 rfl rfl⟩
theorem mv_X11_net : mvq M_X11_net 2 := ⟨⟨tb7 175 rfl rfl, tb1 12 rfl rfl, by decide, by decide, by decide +kernel⟩, tb7 173 rfl rfl, tb7 174 rfl rfl⟩
theorem mv_X11_handings : mvq M_X11_handings 1 := ⟨⟨tb7 179 rfl rfl, tb1 12 rfl rfl, by decide, by decide, by decide +kernel⟩, tb7 177 rfl rfl, tb7 178 rfl rfl⟩
theorem mv_X11_due : mvq M_X11_due 3 := ⟨⟨tb7 183 rfl rfl, tb1 12 rfl rfl, by decide, by decide, by decide +kernel⟩, tb7 181 rfl rfl, tb7 182 rfl rfl⟩
theorem mv_X11_coin : mvq M_X11_coin 2 := ⟨⟨tb7 187 rfl rfl, tb1 12 rfl rfl, by decide, by decide, by decide +kernel⟩, tb7 185 rfl rfl, tb7 186 rfl rfl⟩
theorem mv_X11_owes : mvq M_X11_owes 1 := ⟨⟨tb7 199 rfl rfl, tb1 12 rfl rfl, by decide, by decide, by decide +kernel⟩, tb7 198 rfl rfl, tbP (q := (M_X11_owes.1, 79)) (nthq_mem (i := 86) rfl)⟩
theorem mv_X11_has : mvq M_X11_has 1 := ⟨⟨tb7 203 rfl rfl, tb1 12 rfl rfl, by decide, by decide, by decide +kernel⟩, tb7 202 rfl rfl, tbP (q := (M_X11_has.1, 79)) (nthq_mem (i := 87) rfl)⟩
theorem mv_X11_gives : mvq M_X11_gives 1 := ⟨⟨tb7 207 rfl rfl, tb1 12 rfl rfl, by decide, by decide, by decide +kernel⟩, tb7 206 rfl rfl, tbP (q := (M_X11_gives.1, 79)) (nthq_mem (i := 88) rfl)⟩
theorem mv_X11_goRounds : mvq M_X11_goRounds 0 := ⟨⟨tb7 195 rfl rfl, tb1 12 rfl rfl, by decide, by decide, by decide +kernel⟩, tb7 194 rfl rfl, tbP (q := (M_X11_goRounds.1, 79)) (nthq_mem (i := 85) rfl)⟩
theorem mv_X11_fails : mvq M_X11_fails 2 := ⟨⟨tb7 191 rfl rfl, tb1 12 rfl rfl, by decide, by decide, by decide +kernel⟩, tb7 189 rfl rfl, tb7 190 rfl rfl⟩
theorem mv_X11_part : mvq M_X11_part 3 := ⟨⟨tb7 211 rfl rfl, tb1 12 rfl rfl, by decide, by decide, by decide +kernel⟩, tb7 209 rfl rfl, tb7 210 rfl rfl⟩
theorem mv_X11_mayLie : mvq M_X11_mayLie 2 := ⟨⟨tb7 227 rfl rfl, tb1 12 rfl rfl, by decide, by decide, by decide +kernel⟩, tb7 226 rfl rfl, tbP (q := (M_X11_mayLie.1, 79)) (nthq_mem (i := 91) rfl)⟩
theorem mv_X11_put : mvq M_X11_put 3 := ⟨⟨tb7 219 rfl rfl, tb1 12 rfl rfl, by decide, by decide, by decide +kernel⟩, tb7 218 rfl rfl, tbP (q := (M_X11_put.1, 79)) (nthq_mem (i := 89) rfl)⟩
theorem mv_X11_layAll : mvq M_X11_layAll 0 := ⟨⟨tb7 223 rfl rfl, tb1 12 rfl rfl, by decide, by decide, by decide +kernel⟩, tb7 222 rfl rfl, tbP (q := (M_X11_layAll.1, 79)) (nthq_mem (i := 90) rfl)⟩
theorem mv_X11_plan : mvq M_X11_plan 2 := ⟨⟨tb7 215 rfl rfl, tb1 12 rfl rfl, by decide, by decide, by decide +kernel⟩, tb7 213 rfl rfl, tb7 214 rfl rfl⟩
theorem ms_J6_bitCount_0f7a4 : msq M_J6_bitCount_0f7a4 1 := ⟨⟨tb5 59 rfl rfl, tb1 18 rfl rfl, by decide, by decide, by decide +kernel⟩, tb5 58 rfl rfl⟩
theorem ms_J9_max_7cf53 : msq M_J9_max_7cf53 2 := ⟨⟨tb3 91 rfl rfl, tb1 13 rfl rfl, by decide, by decide, by decide +kernel⟩, tb3 90 rfl rfl⟩
theorem ms_J9_min_7cf53 : msq M_J9_min_7cf53 2 := ⟨⟨tb4 138 rfl rfl, tb1 13 rfl rfl, by decide, by decide, by decide +kernel⟩, tb4 137 rfl rfl⟩
theorem ms_J9_min_f86c9 : msq M_J9_min_f86c9 2 := ⟨⟨tb5 99 rfl rfl, tb1 13 rfl rfl, by decide, by decide, by decide +kernel⟩, tb5 98 rfl rfl⟩
theorem mv_J0_length_8abf5 : mvq M_J0_length_8abf5 0 := ⟨⟨tb3 229 rfl rfl, tb1 14 rfl rfl, by decide, by decide, by decide +kernel⟩, tb3 227 rfl rfl, tb3 228 rfl rfl⟩
theorem mv_J0_charAt_5068e : mvq M_J0_charAt_5068e 1 := ⟨⟨tb3 239 rfl rfl, tb1 14 rfl rfl, by decide, by decide, by decide +kernel⟩, tb3 237 rfl rfl, tb3 238 rfl rfl⟩
theorem mv_J0_coder_7d493 : mvq M_J0_coder_7d493 0 := ⟨⟨tb3 233 rfl rfl, tb1 14 rfl rfl, by decide, by decide, by decide +kernel⟩, tb3 231 rfl rfl, tb3 232 rfl rfl⟩
theorem mv_J0_isLatin1_aae02 : mvq M_J0_isLatin1_aae02 0 := ⟨⟨tb4 3 rfl rfl, tb1 14 rfl rfl, by decide, by decide, by decide +kernel⟩, tb4 1 rfl rfl, tb4 2 rfl rfl⟩
theorem ms_J0_checkIndex_df160 : msq M_J0_checkIndex_df160 2 := ⟨⟨tb4 9 rfl rfl, tb1 14 rfl rfl, by decide, by decide, by decide +kernel⟩, tb4 8 rfl rfl⟩
theorem ms_J1_charAt_3b067 : msq M_J1_charAt_3b067 2 := ⟨⟨tb4 6 rfl rfl, tb1 15 rfl rfl, by decide, by decide, by decide +kernel⟩, tb4 5 rfl rfl⟩
theorem ms_J2_getChar_3b067 : msq M_J2_getChar_3b067 2 := ⟨⟨tb4 27 rfl rfl, tb1 17 rfl rfl, by decide, by decide, by decide +kernel⟩, tb4 26 rfl rfl⟩
theorem ms_J2_length_9d52b : msq M_J2_length_9d52b 1 := ⟨⟨tb4 23 rfl rfl, tb1 17 rfl rfl, by decide, by decide, by decide +kernel⟩, tb4 22 rfl rfl⟩
theorem ms_J2_charAt_3b067 : msq M_J2_charAt_3b067 2 := ⟨⟨tb4 17 rfl rfl, tb1 17 rfl rfl, by decide, by decide, by decide +kernel⟩, tb4 16 rfl rfl⟩
theorem ms_J2_checkIndex_2214a : msq M_J2_checkIndex_2214a 2 := ⟨⟨tb4 20 rfl rfl, tb1 17 rfl rfl, by decide, by decide, by decide +kernel⟩, tb4 19 rfl rfl⟩
theorem ms_J3_checkIndex_8e157 : msq M_J3_checkIndex_8e157 3 := ⟨⟨tb4 14 rfl rfl, tb1 16 rfl rfl, by decide, by decide, by decide +kernel⟩, tb4 13 rfl rfl⟩
theorem oi_2 : Cond.instanceMethod Lib.objectInit ∈ tbG := tb1 25 rfl rfl
theorem oi_3 : Cond.code Lib.objectInit ⟨#[0xb1]⟩ 1 none ∈ tbG := tb1 26 rfl rfl
theorem kc_X10_303 : Jvm.Cond.constant RX10 303 (199999) ∈ tbG := tb4 183 rfl rfl
theorem kc_X10_320 : Jvm.Cond.constant RX10 320 (99999) ∈ tbG := tb4 201 rfl rfl
theorem kc_J6_265 : Jvm.Cond.constant "java/lang/Integer" 265 (1431655765) ∈ tbG := tb5 60 rfl rfl
theorem kc_J6_266 : Jvm.Cond.constant "java/lang/Integer" 266 (858993459) ∈ tbG := tb5 61 rfl rfl
theorem kc_J6_267 : Jvm.Cond.constant "java/lang/Integer" 267 (252645135) ∈ tbG := tb5 62 rfl rfl
theorem kc_X11_427 : Jvm.Cond.constant RX11 427 (1000000000) ∈ tbG := tb7 166 rfl rfl
theorem kc_X10_318 : Jvm.Cond.constantLong RX10 318 (1000) ∈ tbG := tb4 192 rfl rfl
theorem kc_X4_46 : Jvm.Cond.constantLong RX4 46 (1152921504606846976) ∈ tbG := tb5 76 rfl rfl
theorem kc_X4_74 : Jvm.Cond.constantLong RX4 74 (1679616) ∈ tbG := tb5 83 rfl rfl
theorem kc_X4_91 : Jvm.Cond.constantLong RX4 91 (6) ∈ tbG := tb5 112 rfl rfl
theorem kc_X11_211 : Jvm.Cond.constantLong RX11 211 (999) ∈ tbG := tb6 121 rfl rfl
theorem kc_X11_195 : Jvm.Cond.constantLong RX11 195 (7) ∈ tbG := tb6 132 rfl rfl
theorem kc_X11_201 : Jvm.Cond.constantLong RX11 201 (5) ∈ tbG := tb6 136 rfl rfl
theorem kc_X11_220 : Jvm.Cond.constantLong RX11 220 (3) ∈ tbG := tb6 137 rfl rfl
theorem kc_X11_222 : Jvm.Cond.constantLong RX11 222 (200) ∈ tbG := tb6 138 rfl rfl
theorem kc_X11_236 : Jvm.Cond.constantLong RX11 236 (10) ∈ tbG := tb6 155 rfl rfl
theorem kc_X11_262 : Jvm.Cond.constantLong RX11 262 (8) ∈ tbG := tb6 192 rfl rfl
theorem kc_X11_267 : Jvm.Cond.constantLong RX11 267 (255) ∈ tbG := tb6 193 rfl rfl
theorem kc_X11_203 : Jvm.Cond.constantLong RX11 203 (2000) ∈ tbG := tb6 201 rfl rfl
theorem kc_X11_282 : Jvm.Cond.constantLong RX11 282 (97) ∈ tbG := tb6 210 rfl rfl
theorem kc_X11_284 : Jvm.Cond.constantLong RX11 284 (122) ∈ tbG := tb6 211 rfl rfl
theorem kc_X11_289 : Jvm.Cond.constantLong RX11 289 (48) ∈ tbG := tb6 235 rfl rfl
theorem kc_X11_291 : Jvm.Cond.constantLong RX11 291 (57) ∈ tbG := tb6 236 rfl rfl
theorem kc_X11_339 : Jvm.Cond.constantLong RX11 339 (13) ∈ tbG := tb7 16 rfl rfl
theorem kc_X11_419 : Jvm.Cond.constantLong RX11 419 (199999) ∈ tbG := tb7 144 rfl rfl
theorem kc_X11_421 : Jvm.Cond.constantLong RX11 421 (2) ∈ tbG := tb7 149 rfl rfl
theorem kc_X11_423 : Jvm.Cond.constantLong RX11 423 (1000) ∈ tbG := tb7 150 rfl rfl
theorem kc_X11_425 : Jvm.Cond.constantLong RX11 425 (9999) ∈ tbG := tb7 155 rfl rfl
theorem kc_X11_428 : Jvm.Cond.constantLong RX11 428 (99999) ∈ tbG := tb7 160 rfl rfl
theorem kc_X11_430 : Jvm.Cond.constantLong RX11 430 (4) ∈ tbG := tb7 161 rfl rfl
theorem kc_X11_436 : Jvm.Cond.constantLong RX11 436 (99) ∈ tbG := tb7 171 rfl rfl
theorem kc_L_49 : Jvm.Cond.constantLong "WharfPapersLaw" 49 (4294967295) ∈ tbG := tb7 228 rfl rfl
theorem cl_L_7 : Cond.classLink "WharfPapersLaw" 7 "WharfPapers" ∈ tbG := tb1 19 rfl rfl
theorem cl_X10_13 : Cond.classLink RX10 13 "WharfPapers$Lots" ∈ tbG := tb1 27 rfl rfl
theorem cl_X10_20 : Cond.classLink RX10 20 "WharfPapers$Lines" ∈ tbG := tb1 64 rfl rfl
theorem cl_X10_27 : Cond.classLink RX10 27 "WharfPapers$Terms" ∈ tbG := tb1 122 rfl rfl
theorem cl_X8_20 : Cond.classLink RX8 20 "[[I" ∈ tbG := tb1 128 rfl rfl
theorem cl_X10_34 : Cond.classLink RX10 34 "WharfPapers$Reader" ∈ tbG := tb1 159 rfl rfl
theorem cl_X10_41 : Cond.classLink RX10 41 "WharfPapers$Story" ∈ tbG := tb1 199 rfl rfl
theorem cl_X10_53 : Cond.classLink RX10 53 "WharfPapers$Doubt" ∈ tbG := tb2 30 rfl rfl
theorem cl_X10_60 : Cond.classLink RX10 60 "WharfPapers$Weighings" ∈ tbG := tb2 47 rfl rfl
theorem cl_X10_67 : Cond.classLink RX10 67 "[[I" ∈ tbG := tb2 74 rfl rfl
theorem cl_X10_72 : Cond.classLink RX10 72 "WharfPapers$Sales" ∈ tbG := tb2 75 rfl rfl
theorem cl_X10_79 : Cond.classLink RX10 79 "WharfPapers$Dues" ∈ tbG := tb2 107 rfl rfl
theorem cl_X10_93 : Cond.classLink RX10 93 "WharfPapers$Plan" ∈ tbG := tb2 150 rfl rfl
theorem cl_L_10 : Cond.classLink "WharfPapersLaw" 10 "WharfPapersModel" ∈ tbG := tb5 113 rfl rfl
theorem in_X10 : Cond.instantiable RX10 15 ∈ tbG := tb1 20 rfl rfl
theorem in_X3 : Cond.instantiable RX3 6 ∈ tbG := tb1 28 rfl rfl
theorem in_X2 : Cond.instantiable RX2 11 ∈ tbG := tb1 65 rfl rfl
theorem in_X8 : Cond.instantiable RX8 9 ∈ tbG := tb1 123 rfl rfl
theorem in_X5 : Cond.instantiable RX5 9 ∈ tbG := tb1 160 rfl rfl
theorem in_X7 : Cond.instantiable RX7 16 ∈ tbG := tb1 200 rfl rfl
theorem in_X0 : Cond.instantiable RX0 3 ∈ tbG := tb2 31 rfl rfl
theorem in_X9 : Cond.instantiable RX9 5 ∈ tbG := tb2 48 rfl rfl
theorem in_X6 : Cond.instantiable RX6 8 ∈ tbG := tb2 76 rfl rfl
theorem in_X1 : Cond.instantiable RX1 10 ∈ tbG := tb2 108 rfl rfl
theorem in_X4 : Cond.instantiable RX4 7 ∈ tbG := tb2 151 rfl rfl
theorem in_X11 : Cond.instantiable RX11 79 ∈ tbG := tb5 114 rfl rfl
theorem iz_L : Cond.initialized "WharfPapersLaw" ∈ tbG := tb1 0 rfl rfl
theorem iz_X10 : Cond.initialized RX10 ∈ tbG := tb1 1 rfl rfl
theorem iz_X3 : Cond.initialized RX3 ∈ tbG := tb1 2 rfl rfl
theorem iz_X2 : Cond.initialized RX2 ∈ tbG := tb1 3 rfl rfl
theorem iz_X8 : Cond.initialized RX8 ∈ tbG := tb1 4 rfl rfl
theorem iz_X5 : Cond.initialized RX5 ∈ tbG := tb1 5 rfl rfl
theorem iz_X7 : Cond.initialized RX7 ∈ tbG := tb1 6 rfl rfl
theorem iz_X0 : Cond.initialized RX0 ∈ tbG := tb1 7 rfl rfl
theorem iz_X9 : Cond.initialized RX9 ∈ tbG := tb1 8 rfl rfl
theorem iz_X6 : Cond.initialized RX6 ∈ tbG := tb1 9 rfl rfl
theorem iz_X1 : Cond.initialized RX1 ∈ tbG := tb1 10 rfl rfl
theorem iz_X4 : Cond.initialized RX4 ∈ tbG := tb1 11 rfl rfl
theorem iz_X11 : Cond.initialized RX11 ∈ tbG := tb1 12 rfl rfl
theorem iz_J9 : Cond.initialized "java/lang/Math" ∈ tbG := tb1 13 rfl rfl
theorem iz_J0 : Cond.initialized "java/lang/String" ∈ tbG := tb1 14 rfl rfl
theorem iz_J1 : Cond.initialized "java/lang/StringLatin1" ∈ tbG := tb1 15 rfl rfl
theorem iz_J3 : Cond.initialized "jdk/internal/util/Preconditions" ∈ tbG := tb1 16 rfl rfl
theorem iz_J2 : Cond.initialized "java/lang/StringUTF16" ∈ tbG := tb1 17 rfl rfl
theorem iz_J6 : Cond.initialized "java/lang/Integer" ∈ tbG := tb1 18 rfl rfl
theorem ac_int : Cond.arrayClass .int ∈ tbG := tb1 63 rfl rfl
theorem ac_boolean : Cond.arrayClass .boolean ∈ tbG := tb1 121 rfl rfl
theorem ac_long : Cond.arrayClass .long ∈ tbG := tb2 178 rfl rfl
theorem ac_byte : Cond.arrayClass .byte ∈ tbG := tb4 72 rfl rfl
end
section
def cd_X0_init_0 : List En := [(0, .aload_n 0, 1, 1, 0), (1, .invokespecial 3, 3, 4, 0), (4, .aload_n 0, 1, 5, 0), (5, .sipush 201, 3, 8, 0), (8, .newarray .int, 2, 10, 0), (10, .putfield 9, 3, 13, 0), (13, .aload_n 0, 1, 14, 0), (14, .bipush 120, 2, 16, 0), (16, .newarray .int, 2, 18, 0), (18, .putfield 15, 3, 21, 0), (21, .return_, 1, 22, 0)]
theorem E_X0_init_0 {e : En} (i : Nat) (h : nthq cd_X0_init_0 i = some e) : dok prog_2_method_1_code e := dok_at (by decide +kernel) i h
def cd_X0_find_0 : List En := [(0, .aload_n 0, 1, 1, 0), (1, .iconst 0, 1, 2, 0), (2, .putfield 18, 3, 5, 0), (5, .aload_n 1, 1, 6, 0), (6, .iload_n 3, 1, 7, 0), (7, .invokevirtual 22, 3, 10, 0), (10, .istore 4, 2, 12, 0), (12, .iconst 0, 1, 13, 0), (13, .istore 5, 2, 15, 0), (15, .iload 5, 2, 17, 0), (17, .sipush 200, 3, 20, 0), (20, .if_icmp .gt 17, 3, 23, 37), (23, .aload_n 0, 1, 24, 0), (24, .getfield 9, 3, 27, 0), (27, .iload 5, 2, 29, 0), (29, .iconst 0, 1, 30, 0), (30, .iastore, 1, 31, 0), (31, .iinc 5 1, 3, 34, 0), (34, .goto (-19), 3, 37, 15), (37, .iconst 0, 1, 38, 0), (38, .istore 5, 2, 40, 0), (40, .iload 5, 2, 42, 0), (42, .iload_n 2, 1, 43, 0), (43, .if_icmp .ge 36, 3, 46, 79), (46, .aload_n 0, 1, 47, 0), (47, .aload_n 1, 1, 48, 0), (48, .iload 5, 2, 50, 0), (50, .iload_n 3, 1, 51, 0), (51, .invokevirtual 28, 3, 54, 0), (54, .ifCond .eq 19, 3, 57, 73), (57, .aload_n 0, 1, 58, 0), (58, .getfield 9, 3, 61, 0), (61, .aload_n 1, 1, 62, 0), (62, .getfield 32, 3, 65, 0), (65, .iload 5, 2, 67, 0), (67, .iaload, 1, 68, 0), (68, .dup2, 1, 69, 0), (69, .iaload, 1, 70, 0), (70, .iconst 1, 1, 71, 0), (71, .iadd, 1, 72, 0), (72, .iastore, 1, 73, 0), (73, .iinc 5 1, 3, 76, 0), (76, .goto (-36), 3, 79, 40), (79, .aload_n 0, 1, 80, 0), (80, .iload 4, 2, 82, 0), (82, .invokevirtual 35, 3, 85, 0), (85, .istore 5, 2, 87, 0), (87, .iconst 0, 1, 88, 0), (88, .istore 6, 2, 90, 0), (90, .iload 6, 2, 92, 0), (92, .iload_n 2, 1, 93, 0), (93, .if_icmp .ge 96, 3, 96, 189), (96, .iload 5, 2, 98, 0), (98, .ifCond .le 91, 3, 101, 189), (101, .aload_n 0, 1, 102, 0), (102, .aload_n 1, 1, 103, 0), (103, .iload 6, 2, 105, 0), (105, .iload_n 3, 1, 106, 0), (106, .invokevirtual 28, 3, 109, 0), (109, .ifCond .eq 74, 3, 112, 183)]
def cd_X0_find_1 : List En := [(112, .aload_n 0, 1, 113, 0), (113, .getfield 9, 3, 116, 0), (116, .aload_n 1, 1, 117, 0), (117, .getfield 32, 3, 120, 0), (120, .iload 6, 2, 122, 0), (122, .iaload, 1, 123, 0), (123, .dup2, 1, 124, 0), (124, .iaload, 1, 125, 0), (125, .iconst 1, 1, 126, 0), (126, .isub, 1, 127, 0), (127, .iastore, 1, 128, 0), (128, .aload_n 0, 1, 129, 0), (129, .iload 4, 2, 131, 0), (131, .aload_n 1, 1, 132, 0), (132, .getfield 32, 3, 135, 0), (135, .iload 6, 2, 137, 0), (137, .iaload, 1, 138, 0), (138, .isub, 1, 139, 0), (139, .invokevirtual 35, 3, 142, 0), (142, .iload 5, 2, 144, 0), (144, .if_icmp .ge 39, 3, 147, 183), (147, .iload 4, 2, 149, 0), (149, .aload_n 1, 1, 150, 0), (150, .getfield 32, 3, 153, 0), (153, .iload 6, 2, 155, 0), (155, .iaload, 1, 156, 0), (156, .isub, 1, 157, 0), (157, .istore 4, 2, 159, 0), (159, .iinc 5 (-1), 3, 162, 0), (162, .aload_n 0, 1, 163, 0), (163, .getfield 15, 3, 166, 0), (166, .aload_n 0, 1, 167, 0), (167, .getfield 18, 3, 170, 0), (170, .iload 6, 2, 172, 0), (172, .iastore, 1, 173, 0), (173, .aload_n 0, 1, 174, 0), (174, .dup, 1, 175, 0), (175, .getfield 18, 3, 178, 0), (178, .iconst 1, 1, 179, 0), (179, .iadd, 1, 180, 0), (180, .putfield 18, 3, 183, 0), (183, .iinc 6 1, 3, 186, 0), (186, .goto (-96), 3, 189, 90), (189, .return_, 1, 190, 0)]
theorem E_X0_find_0 {e : En} (i : Nat) (h : nthq cd_X0_find_0 i = some e) : dok prog_2_method_2_code e := dok_at (by decide +kernel) i h
theorem E_X0_find_1 {e : En} (i : Nat) (h : nthq cd_X0_find_1 i = some e) : dok prog_2_method_2_code e := dok_at (by decide +kernel) i h
def cd_X0_isOf_0 : List En := [(0, .aload_n 1, 1, 1, 0), (1, .getfield 38, 3, 4, 0), (4, .iload_n 2, 1, 5, 0), (5, .baload, 1, 6, 0), (6, .ifCond .eq 33, 3, 9, 39), (9, .aload_n 1, 1, 10, 0), (10, .getfield 42, 3, 13, 0), (13, .iload_n 2, 1, 14, 0), (14, .iaload, 1, 15, 0), (15, .iload_n 3, 1, 16, 0), (16, .if_icmp .ne 23, 3, 19, 39), (19, .aload_n 1, 1, 20, 0), (20, .getfield 32, 3, 23, 0), (23, .iload_n 2, 1, 24, 0), (24, .iaload, 1, 25, 0), (25, .iconst 1, 1, 26, 0), (26, .sipush 200, 3, 29, 0), (29, .invokestatic 45, 3, 32, 0), (32, .ifCond .eq 7, 3, 35, 39), (35, .iconst 1, 1, 36, 0), (36, .goto 4, 3, 39, 40), (39, .iconst 0, 1, 40, 0), (40, .ireturn, 1, 41, 0)]
theorem E_X0_isOf_0 {e : En} (i : Nat) (h : nthq cd_X0_isOf_0 i = some e) : dok prog_2_method_3_code e := dok_at (by decide +kernel) i h
def cd_X0_fewest_0 : List En := [(0, .iload_n 1, 1, 1, 0), (1, .istore_n 2, 1, 2, 0), (2, .iconst 0, 1, 3, 0), (3, .istore_n 3, 1, 4, 0), (4, .sipush 200, 3, 7, 0), (7, .istore 4, 2, 9, 0), (9, .iload 4, 2, 11, 0), (11, .ifCond .le 47, 3, 14, 58), (14, .iload_n 2, 1, 15, 0), (15, .ifCond .le 43, 3, 18, 58), (18, .aload_n 0, 1, 19, 0), (19, .getfield 9, 3, 22, 0), (22, .iload 4, 2, 24, 0), (24, .iaload, 1, 25, 0), (25, .iload_n 2, 1, 26, 0), (26, .iload 4, 2, 28, 0), (28, .iadd, 1, 29, 0), (29, .iconst 1, 1, 30, 0), (30, .isub, 1, 31, 0), (31, .iload 4, 2, 33, 0), (33, .idiv, 1, 34, 0), (34, .invokestatic 49, 3, 37, 0), (37, .istore 5, 2, 39, 0), (39, .iload_n 2, 1, 40, 0), (40, .iload 5, 2, 42, 0), (42, .iload 4, 2, 44, 0), (44, .imul, 1, 45, 0), (45, .isub, 1, 46, 0), (46, .istore_n 2, 1, 47, 0), (47, .iload_n 3, 1, 48, 0), (48, .iload 5, 2, 50, 0), (50, .iadd, 1, 51, 0), (51, .istore_n 3, 1, 52, 0), (52, .iinc 4 (-1), 3, 55, 0), (55, .goto (-46), 3, 58, 9), (58, .iload_n 2, 1, 59, 0), (59, .ifCond .le 8, 3, 62, 67), (62, .bipush 121, 2, 64, 0), (64, .goto 4, 3, 67, 68), (67, .iload_n 3, 1, 68, 0), (68, .ireturn, 1, 69, 0)]
theorem E_X0_fewest_0 {e : En} (i : Nat) (h : nthq cd_X0_fewest_0 i = some e) : dok prog_2_method_4_code e := dok_at (by decide +kernel) i h
def cd_X0_at_0 : List En := [(0, .iload_n 1, 1, 1, 0), (1, .ifCond .lt 20, 3, 4, 21), (4, .iload_n 1, 1, 5, 0), (5, .aload_n 0, 1, 6, 0), (6, .getfield 18, 3, 9, 0), (9, .if_icmp .ge 12, 3, 12, 21), (12, .aload_n 0, 1, 13, 0), (13, .getfield 15, 3, 16, 0), (16, .iload_n 1, 1, 17, 0), (17, .iaload, 1, 18, 0), (18, .goto 4, 3, 21, 22), (21, .iconst (-1), 1, 22, 0), (22, .ireturn, 1, 23, 0)]
theorem E_X0_at_0 {e : En} (i : Nat) (h : nthq cd_X0_at_0 i = some e) : dok prog_2_method_5_code e := dok_at (by decide +kernel) i h
def cd_X1_init_0 : List En := [(0, .aload_n 0, 1, 1, 0), (1, .invokespecial 3, 3, 4, 0), (4, .aload_n 0, 1, 5, 0), (5, .bipush 24, 2, 7, 0), (7, .newarray .int, 2, 9, 0), (9, .putfield 11, 3, 12, 0), (12, .aload_n 0, 1, 13, 0), (13, .bipush 24, 2, 15, 0), (15, .newarray .int, 2, 17, 0), (17, .putfield 15, 3, 20, 0), (20, .aload_n 0, 1, 21, 0), (21, .bipush 24, 2, 23, 0), (23, .newarray .int, 2, 25, 0), (25, .putfield 18, 3, 28, 0), (28, .aload_n 0, 1, 29, 0), (29, .bipush 24, 2, 31, 0), (31, .newarray .int, 2, 33, 0), (33, .putfield 21, 3, 36, 0), (36, .aload_n 0, 1, 37, 0), (37, .bipush 8, 2, 39, 0), (39, .newarray .int, 2, 41, 0), (41, .putfield 24, 3, 44, 0), (44, .aload_n 0, 1, 45, 0), (45, .bipush 8, 2, 47, 0), (47, .newarray .int, 2, 49, 0), (49, .putfield 27, 3, 52, 0), (52, .aload_n 0, 1, 53, 0), (53, .bipush 8, 2, 55, 0), (55, .newarray .int, 2, 57, 0), (57, .putfield 30, 3, 60, 0), (60, .aload_n 0, 1, 61, 0), (61, .bipush 8, 2, 63, 0), (63, .newarray .boolean, 2, 65, 0), (65, .putfield 33, 3, 68, 0), (68, .return_, 1, 69, 0)]
theorem E_X1_init_0 {e : En} (i : Nat) (h : nthq cd_X1_init_0 i = some e) : dok prog_3_method_1_code e := dok_at (by decide +kernel) i h
def cd_X1_add_0 : List En := [(0, .aload_n 0, 1, 1, 0), (1, .getfield 11, 3, 4, 0), (4, .aload_n 0, 1, 5, 0), (5, .getfield 37, 3, 8, 0), (8, .iload_n 1, 1, 9, 0), (9, .iastore, 1, 10, 0), (10, .aload_n 0, 1, 11, 0), (11, .getfield 15, 3, 14, 0), (14, .aload_n 0, 1, 15, 0), (15, .getfield 37, 3, 18, 0), (18, .iload_n 2, 1, 19, 0), (19, .iastore, 1, 20, 0), (20, .aload_n 0, 1, 21, 0), (21, .getfield 18, 3, 24, 0), (24, .aload_n 0, 1, 25, 0), (25, .getfield 37, 3, 28, 0), (28, .iload_n 3, 1, 29, 0), (29, .iastore, 1, 30, 0), (30, .aload_n 0, 1, 31, 0), (31, .dup, 1, 32, 0), (32, .getfield 37, 3, 35, 0), (35, .iconst 1, 1, 36, 0), (36, .iadd, 1, 37, 0), (37, .putfield 37, 3, 40, 0), (40, .aload_n 0, 1, 41, 0), (41, .getfield 37, 3, 44, 0), (44, .ireturn, 1, 45, 0)]
theorem E_X1_add_0 {e : En} (i : Nat) (h : nthq cd_X1_add_0 i = some e) : dok prog_3_method_2_code e := dok_at (by decide +kernel) i h
def cd_X1_settle_0 : List En := [(0, .aload_n 0, 1, 1, 0), (1, .invokevirtual 41, 3, 4, 0), (4, .aload_n 0, 1, 5, 0), (5, .iconst 0, 1, 6, 0), (6, .putfield 44, 3, 9, 0), (9, .iconst 1, 1, 10, 0), (10, .istore_n 1, 1, 11, 0), (11, .iconst 0, 1, 12, 0), (12, .istore_n 2, 1, 13, 0), (13, .iload_n 2, 1, 14, 0), (14, .bipush 50, 2, 16, 0), (16, .if_icmp .ge 36, 3, 19, 52), (19, .iload_n 1, 1, 20, 0), (20, .ifCond .eq 32, 3, 23, 52), (23, .aload_n 0, 1, 24, 0), (24, .invokevirtual 47, 3, 27, 0), (27, .istore_n 1, 1, 28, 0), (28, .aload_n 0, 1, 29, 0), (29, .dup, 1, 30, 0), (30, .getfield 44, 3, 33, 0), (33, .iload_n 1, 1, 34, 0), (34, .ifCond .eq 7, 3, 37, 41), (37, .iconst 1, 1, 38, 0), (38, .goto 4, 3, 41, 42), (41, .iconst 0, 1, 42, 0), (42, .iadd, 1, 43, 0), (43, .putfield 44, 3, 46, 0), (46, .iinc 2 1, 3, 49, 0), (49, .goto (-36), 3, 52, 13), (52, .return_, 1, 53, 0)]
theorem E_X1_settle_0 {e : En} (i : Nat) (h : nthq cd_X1_settle_0 i = some e) : dok prog_3_method_3_code e := dok_at (by decide +kernel) i h
def cd_X1_begin_0 : List En := [(0, .iconst 0, 1, 1, 0), (1, .istore_n 1, 1, 2, 0), (2, .iload_n 1, 1, 3, 0), (3, .bipush 8, 2, 5, 0), (5, .if_icmp .ge 23, 3, 8, 28), (8, .aload_n 0, 1, 9, 0), (9, .getfield 27, 3, 12, 0), (12, .iload_n 1, 1, 13, 0), (13, .iconst 0, 1, 14, 0), (14, .iastore, 1, 15, 0), (15, .aload_n 0, 1, 16, 0), (16, .getfield 33, 3, 19, 0), (19, .iload_n 1, 1, 20, 0), (20, .iconst 0, 1, 21, 0), (21, .bastore, 1, 22, 0), (22, .iinc 1 1, 3, 25, 0), (25, .goto (-23), 3, 28, 2), (28, .iconst 0, 1, 29, 0), (29, .istore_n 1, 1, 30, 0), (30, .iload_n 1, 1, 31, 0), (31, .aload_n 0, 1, 32, 0), (32, .getfield 37, 3, 35, 0), (35, .if_icmp .ge 41, 3, 38, 76), (38, .aload_n 0, 1, 39, 0), (39, .getfield 21, 3, 42, 0), (42, .iload_n 1, 1, 43, 0), (43, .aload_n 0, 1, 44, 0), (44, .getfield 18, 3, 47, 0), (47, .iload_n 1, 1, 48, 0), (48, .iaload, 1, 49, 0), (49, .iastore, 1, 50, 0), (50, .aload_n 0, 1, 51, 0), (51, .getfield 27, 3, 54, 0), (54, .aload_n 0, 1, 55, 0), (55, .getfield 11, 3, 58, 0), (58, .iload_n 1, 1, 59, 0), (59, .iaload, 1, 60, 0), (60, .dup2, 1, 61, 0), (61, .iaload, 1, 62, 0), (62, .aload_n 0, 1, 63, 0), (63, .getfield 18, 3, 66, 0), (66, .iload_n 1, 1, 67, 0), (67, .iaload, 1, 68, 0), (68, .iadd, 1, 69, 0), (69, .iastore, 1, 70, 0), (70, .iinc 1 1, 3, 73, 0), (73, .goto (-43), 3, 76, 30), (76, .aload_n 0, 1, 77, 0), (77, .invokevirtual 51, 3, 80, 0), (80, .return_, 1, 81, 0)]
theorem E_X1_begin_0 {e : En} (i : Nat) (h : nthq cd_X1_begin_0 i = some e) : dok prog_3_method_4_code e := dok_at (by decide +kernel) i h
def cd_X1_isRoundChanging_0 : List En := [(0, .iconst 0, 1, 1, 0), (1, .istore_n 1, 1, 2, 0), (2, .iconst 0, 1, 3, 0), (3, .istore_n 2, 1, 4, 0), (4, .iload_n 2, 1, 5, 0), (5, .bipush 8, 2, 7, 0), (7, .if_icmp .ge 35, 3, 10, 42), (10, .aload_n 0, 1, 11, 0), (11, .getfield 33, 3, 14, 0), (14, .iload_n 2, 1, 15, 0), (15, .aload_n 0, 1, 16, 0), (16, .getfield 30, 3, 19, 0), (19, .iload_n 2, 1, 20, 0), (20, .iaload, 1, 21, 0), (21, .aload_n 0, 1, 22, 0), (22, .getfield 27, 3, 25, 0), (25, .iload_n 2, 1, 26, 0), (26, .iaload, 1, 27, 0), (27, .if_icmp .ge 7, 3, 30, 34), (30, .iconst 1, 1, 31, 0), (31, .goto 4, 3, 34, 35), (34, .iconst 0, 1, 35, 0), (35, .bastore, 1, 36, 0), (36, .iinc 2 1, 3, 39, 0), (39, .goto (-35), 3, 42, 4), (42, .iconst 0, 1, 43, 0), (43, .istore_n 2, 1, 44, 0), (44, .iload_n 2, 1, 45, 0), (45, .aload_n 0, 1, 46, 0), (46, .getfield 37, 3, 49, 0), (49, .if_icmp .ge 53, 3, 52, 102), (52, .aload_n 0, 1, 53, 0), (53, .aload_n 0, 1, 54, 0), (54, .getfield 18, 3, 57, 0), (57, .iload_n 2, 1, 58, 0), (58, .iaload, 1, 59, 0), (59, .aload_n 0, 1, 60, 0), (60, .getfield 11, 3, 63, 0), (63, .iload_n 2, 1, 64, 0), (64, .iaload, 1, 65, 0), (65, .invokevirtual 54, 3, 68, 0), (68, .istore_n 3, 1, 69, 0), (69, .iload_n 1, 1, 70, 0), (70, .ifCond .ne 13, 3, 73, 83), (73, .iload_n 3, 1, 74, 0), (74, .aload_n 0, 1, 75, 0), (75, .getfield 21, 3, 78, 0), (78, .iload_n 2, 1, 79, 0), (79, .iaload, 1, 80, 0), (80, .if_icmp .eq 7, 3, 83, 87), (83, .iconst 1, 1, 84, 0), (84, .goto 4, 3, 87, 88), (87, .iconst 0, 1, 88, 0), (88, .istore_n 1, 1, 89, 0), (89, .aload_n 0, 1, 90, 0), (90, .getfield 21, 3, 93, 0), (93, .iload_n 2, 1, 94, 0), (94, .iload_n 3, 1, 95, 0), (95, .iastore, 1, 96, 0), (96, .iinc 2 1, 3, 99, 0)]
def cd_X1_isRoundChanging_1 : List En := [(99, .goto (-55), 3, 102, 44), (102, .aload_n 0, 1, 103, 0), (103, .invokevirtual 51, 3, 106, 0), (106, .iload_n 1, 1, 107, 0), (107, .ireturn, 1, 108, 0)]
theorem E_X1_isRoundChanging_0 {e : En} (i : Nat) (h : nthq cd_X1_isRoundChanging_0 i = some e) : dok prog_3_method_5_code e := dok_at (by decide +kernel) i h
theorem E_X1_isRoundChanging_1 {e : En} (i : Nat) (h : nthq cd_X1_isRoundChanging_1 i = some e) : dok prog_3_method_5_code e := dok_at (by decide +kernel) i h
def cd_X1_partOf_0 : List En := [(0, .aload_n 0, 1, 1, 0), (1, .getfield 33, 3, 4, 0), (4, .iload_n 2, 1, 5, 0), (5, .baload, 1, 6, 0), (6, .ifCond .eq 12, 3, 9, 18), (9, .aload_n 0, 1, 10, 0), (10, .getfield 27, 3, 13, 0), (13, .iload_n 2, 1, 14, 0), (14, .iaload, 1, 15, 0), (15, .ifCond .gt 5, 3, 18, 20), (18, .iload_n 1, 1, 19, 0), (19, .ireturn, 1, 20, 0), (20, .iload_n 1, 1, 21, 0), (21, .i2l, 1, 22, 0), (22, .aload_n 0, 1, 23, 0), (23, .getfield 30, 3, 26, 0), (26, .iload_n 2, 1, 27, 0), (27, .iaload, 1, 28, 0), (28, .i2l, 1, 29, 0), (29, .lmul, 1, 30, 0), (30, .aload_n 0, 1, 31, 0), (31, .getfield 27, 3, 34, 0), (34, .iload_n 2, 1, 35, 0), (35, .iaload, 1, 36, 0), (36, .i2l, 1, 37, 0), (37, .ldiv, 1, 38, 0), (38, .l2i, 1, 39, 0), (39, .ireturn, 1, 40, 0)]
theorem E_X1_partOf_0 {e : En} (i : Nat) (h : nthq cd_X1_partOf_0 i = some e) : dok prog_3_method_6_code e := dok_at (by decide +kernel) i h
def cd_X1_receive_0 : List En := [(0, .iconst 0, 1, 1, 0), (1, .istore_n 1, 1, 2, 0), (2, .iload_n 1, 1, 3, 0), (3, .bipush 8, 2, 5, 0), (5, .if_icmp .ge 21, 3, 8, 26), (8, .aload_n 0, 1, 9, 0), (9, .getfield 30, 3, 12, 0), (12, .iload_n 1, 1, 13, 0), (13, .aload_n 0, 1, 14, 0), (14, .getfield 24, 3, 17, 0), (17, .iload_n 1, 1, 18, 0), (18, .iaload, 1, 19, 0), (19, .iastore, 1, 20, 0), (20, .iinc 1 1, 3, 23, 0), (23, .goto (-21), 3, 26, 2), (26, .iconst 0, 1, 27, 0), (27, .istore_n 1, 1, 28, 0), (28, .iload_n 1, 1, 29, 0), (29, .aload_n 0, 1, 30, 0), (30, .getfield 37, 3, 33, 0), (33, .if_icmp .ge 29, 3, 36, 62), (36, .aload_n 0, 1, 37, 0), (37, .getfield 30, 3, 40, 0), (40, .aload_n 0, 1, 41, 0), (41, .getfield 15, 3, 44, 0), (44, .iload_n 1, 1, 45, 0), (45, .iaload, 1, 46, 0), (46, .dup2, 1, 47, 0), (47, .iaload, 1, 48, 0), (48, .aload_n 0, 1, 49, 0), (49, .getfield 21, 3, 52, 0), (52, .iload_n 1, 1, 53, 0), (53, .iaload, 1, 54, 0), (54, .iadd, 1, 55, 0), (55, .iastore, 1, 56, 0), (56, .iinc 1 1, 3, 59, 0), (59, .goto (-31), 3, 62, 28), (62, .return_, 1, 63, 0)]
theorem E_X1_receive_0 {e : En} (i : Nat) (h : nthq cd_X1_receive_0 i = some e) : dok prog_3_method_7_code e := dok_at (by decide +kernel) i h
def cd_X1_givenBy_0 : List En := [(0, .iconst 0, 1, 1, 0), (1, .istore_n 2, 1, 2, 0), (2, .iconst 0, 1, 3, 0), (3, .istore_n 3, 1, 4, 0), (4, .iload_n 3, 1, 5, 0), (5, .aload_n 0, 1, 6, 0), (6, .getfield 37, 3, 9, 0), (9, .if_icmp .ge 32, 3, 12, 41), (12, .iload_n 2, 1, 13, 0), (13, .aload_n 0, 1, 14, 0), (14, .getfield 11, 3, 17, 0), (17, .iload_n 3, 1, 18, 0), (18, .iaload, 1, 19, 0), (19, .iload_n 1, 1, 20, 0), (20, .if_icmp .ne 12, 3, 23, 32), (23, .aload_n 0, 1, 24, 0), (24, .getfield 21, 3, 27, 0), (27, .iload_n 3, 1, 28, 0), (28, .iaload, 1, 29, 0), (29, .goto 4, 3, 32, 33), (32, .iconst 0, 1, 33, 0), (33, .iadd, 1, 34, 0), (34, .istore_n 2, 1, 35, 0), (35, .iinc 3 1, 3, 38, 0), (38, .goto (-34), 3, 41, 4), (41, .iload_n 2, 1, 42, 0), (42, .ireturn, 1, 43, 0)]
theorem E_X1_givenBy_0 {e : En} (i : Nat) (h : nthq cd_X1_givenBy_0 i = some e) : dok prog_3_method_8_code e := dok_at (by decide +kernel) i h
def cd_X1_failedCount_0 : List En := [(0, .iconst 0, 1, 1, 0), (1, .istore_n 1, 1, 2, 0), (2, .iconst 0, 1, 3, 0), (3, .istore_n 2, 1, 4, 0), (4, .iload_n 2, 1, 5, 0), (5, .bipush 8, 2, 7, 0), (7, .if_icmp .ge 26, 3, 10, 33), (10, .iload_n 1, 1, 11, 0), (11, .aload_n 0, 1, 12, 0), (12, .getfield 33, 3, 15, 0), (15, .iload_n 2, 1, 16, 0), (16, .baload, 1, 17, 0), (17, .ifCond .eq 7, 3, 20, 24), (20, .iconst 1, 1, 21, 0), (21, .goto 4, 3, 24, 25), (24, .iconst 0, 1, 25, 0), (25, .iadd, 1, 26, 0), (26, .istore_n 1, 1, 27, 0), (27, .iinc 2 1, 3, 30, 0), (30, .goto (-26), 3, 33, 4), (33, .iload_n 1, 1, 34, 0), (34, .ireturn, 1, 35, 0)]
theorem E_X1_failedCount_0 {e : En} (i : Nat) (h : nthq cd_X1_failedCount_0 i = some e) : dok prog_3_method_9_code e := dok_at (by decide +kernel) i h
def cd_X2_init_0 : List En := [(0, .aload_n 0, 1, 1, 0), (1, .invokespecial 3, 3, 4, 0), (4, .aload_n 0, 1, 5, 0), (5, .bipush 120, 2, 7, 0), (7, .newarray .int, 2, 9, 0), (9, .putfield 9, 3, 12, 0), (12, .aload_n 0, 1, 13, 0), (13, .bipush 120, 2, 15, 0), (15, .newarray .int, 2, 17, 0), (17, .putfield 15, 3, 20, 0), (20, .aload_n 0, 1, 21, 0), (21, .bipush 120, 2, 23, 0), (23, .newarray .int, 2, 25, 0), (25, .putfield 18, 3, 28, 0), (28, .aload_n 0, 1, 29, 0), (29, .bipush 120, 2, 31, 0), (31, .newarray .int, 2, 33, 0), (33, .putfield 21, 3, 36, 0), (36, .aload_n 0, 1, 37, 0), (37, .bipush 120, 2, 39, 0), (39, .newarray .int, 2, 41, 0), (41, .putfield 24, 3, 44, 0), (44, .aload_n 0, 1, 45, 0), (45, .bipush 120, 2, 47, 0), (47, .newarray .int, 2, 49, 0), (49, .putfield 27, 3, 52, 0), (52, .aload_n 0, 1, 53, 0), (53, .bipush 120, 2, 55, 0), (55, .newarray .int, 2, 57, 0), (57, .putfield 30, 3, 60, 0), (60, .aload_n 0, 1, 61, 0), (61, .bipush 120, 2, 63, 0), (63, .newarray .int, 2, 65, 0), (65, .putfield 33, 3, 68, 0), (68, .aload_n 0, 1, 69, 0), (69, .bipush 120, 2, 71, 0), (71, .newarray .boolean, 2, 73, 0), (73, .putfield 36, 3, 76, 0), (76, .return_, 1, 77, 0)]
theorem E_X2_init_0 {e : En} (i : Nat) (h : nthq cd_X2_init_0 i = some e) : dok prog_4_method_1_code e := dok_at (by decide +kernel) i h
def cd_X2_has_0 : List En := [(0, .iload_n 1, 1, 1, 0), (1, .ifCond .lt 15, 3, 4, 16), (4, .iload_n 1, 1, 5, 0), (5, .aload_n 0, 1, 6, 0), (6, .getfield 40, 3, 9, 0), (9, .if_icmp .ge 7, 3, 12, 16), (12, .iconst 1, 1, 13, 0), (13, .goto 4, 3, 16, 17), (16, .iconst 0, 1, 17, 0), (17, .ireturn, 1, 18, 0)]
theorem E_X2_has_0 {e : En} (i : Nat) (h : nthq cd_X2_has_0 i = some e) : dok prog_4_method_2_code e := dok_at (by decide +kernel) i h
def cd_X2_isPaper_0 : List En := [(0, .aload_n 0, 1, 1, 0), (1, .iload_n 1, 1, 2, 0), (2, .invokevirtual 44, 3, 5, 0), (5, .ifCond .eq 26, 3, 8, 31), (8, .aload_n 0, 1, 9, 0), (9, .getfield 9, 3, 12, 0), (12, .iload_n 1, 1, 13, 0), (13, .iaload, 1, 14, 0), (14, .ifCond .eq 13, 3, 17, 27), (17, .aload_n 0, 1, 18, 0), (18, .getfield 9, 3, 21, 0), (21, .iload_n 1, 1, 22, 0), (22, .iaload, 1, 23, 0), (23, .iconst 2, 1, 24, 0), (24, .if_icmp .ne 7, 3, 27, 31), (27, .iconst 1, 1, 28, 0), (28, .goto 4, 3, 31, 32), (31, .iconst 0, 1, 32, 0), (32, .ireturn, 1, 33, 0)]
theorem E_X2_isPaper_0 {e : En} (i : Nat) (h : nthq cd_X2_isPaper_0 i = some e) : dok prog_4_method_3_code e := dok_at (by decide +kernel) i h
def cd_X2_add_0 : List En := [(0, .aload_n 0, 1, 1, 0), (1, .getfield 40, 3, 4, 0), (4, .istore 8, 2, 6, 0), (6, .aload_n 0, 1, 7, 0), (7, .getfield 9, 3, 10, 0), (10, .iload 8, 2, 12, 0), (12, .iload_n 1, 1, 13, 0), (13, .iastore, 1, 14, 0), (14, .aload_n 0, 1, 15, 0), (15, .getfield 15, 3, 18, 0), (18, .iload 8, 2, 20, 0), (20, .iload_n 2, 1, 21, 0), (21, .iastore, 1, 22, 0), (22, .aload_n 0, 1, 23, 0), (23, .getfield 18, 3, 26, 0), (26, .iload 8, 2, 28, 0), (28, .iload_n 3, 1, 29, 0), (29, .iastore, 1, 30, 0), (30, .aload_n 0, 1, 31, 0), (31, .getfield 21, 3, 34, 0), (34, .iload 8, 2, 36, 0), (36, .iload 4, 2, 38, 0), (38, .iastore, 1, 39, 0), (39, .aload_n 0, 1, 40, 0), (40, .getfield 24, 3, 43, 0), (43, .iload 8, 2, 45, 0), (45, .iload 5, 2, 47, 0), (47, .iastore, 1, 48, 0), (48, .aload_n 0, 1, 49, 0), (49, .getfield 27, 3, 52, 0), (52, .iload 8, 2, 54, 0), (54, .iload 6, 2, 56, 0), (56, .iastore, 1, 57, 0), (57, .aload_n 0, 1, 58, 0), (58, .getfield 30, 3, 61, 0), (61, .iload 8, 2, 63, 0), (63, .iload 7, 2, 65, 0), (65, .iastore, 1, 66, 0), (66, .iload 8, 2, 68, 0), (68, .istore 9, 2, 70, 0), (70, .iload 9, 2, 72, 0), (72, .ifCond .le 43, 3, 75, 115), (75, .aload_n 0, 1, 76, 0), (76, .getfield 15, 3, 79, 0), (79, .aload_n 0, 1, 80, 0), (80, .getfield 33, 3, 83, 0), (83, .iload 9, 2, 85, 0), (85, .iconst 1, 1, 86, 0), (86, .isub, 1, 87, 0), (87, .iaload, 1, 88, 0), (88, .iaload, 1, 89, 0), (89, .iload_n 2, 1, 90, 0), (90, .if_icmp .le 25, 3, 93, 115), (93, .aload_n 0, 1, 94, 0), (94, .getfield 33, 3, 97, 0), (97, .iload 9, 2, 99, 0), (99, .aload_n 0, 1, 100, 0), (100, .getfield 33, 3, 103, 0), (103, .iload 9, 2, 105, 0), (105, .iconst 1, 1, 106, 0)]
def cd_X2_add_1 : List En := [(106, .isub, 1, 107, 0), (107, .iaload, 1, 108, 0), (108, .iastore, 1, 109, 0), (109, .iinc 9 (-1), 3, 112, 0), (112, .goto (-42), 3, 115, 70), (115, .aload_n 0, 1, 116, 0), (116, .getfield 33, 3, 119, 0), (119, .iload 9, 2, 121, 0), (121, .iload 8, 2, 123, 0), (123, .iastore, 1, 124, 0), (124, .aload_n 0, 1, 125, 0), (125, .dup, 1, 126, 0), (126, .getfield 40, 3, 129, 0), (129, .iconst 1, 1, 130, 0), (130, .iadd, 1, 131, 0), (131, .putfield 40, 3, 134, 0), (134, .iload 8, 2, 136, 0), (136, .ireturn, 1, 137, 0)]
theorem E_X2_add_0 {e : En} (i : Nat) (h : nthq cd_X2_add_0 i = some e) : dok prog_4_method_4_code e := dok_at (by decide +kernel) i h
theorem E_X2_add_1 {e : En} (i : Nat) (h : nthq cd_X2_add_1 i = some e) : dok prog_4_method_4_code e := dok_at (by decide +kernel) i h
def cd_X2_know_0 : List En := [(0, .aload_n 0, 1, 1, 0), (1, .iconst 0, 1, 2, 0), (2, .putfield 48, 3, 5, 0), (5, .iconst 0, 1, 6, 0), (6, .istore_n 2, 1, 7, 0), (7, .iload_n 2, 1, 8, 0), (8, .aload_n 0, 1, 9, 0), (9, .getfield 40, 3, 12, 0), (12, .if_icmp .ge 33, 3, 15, 45), (15, .aload_n 0, 1, 16, 0), (16, .getfield 36, 3, 19, 0), (19, .iload_n 2, 1, 20, 0), (20, .iconst 0, 1, 21, 0), (21, .bastore, 1, 22, 0), (22, .aload_n 0, 1, 23, 0), (23, .getfield 18, 3, 26, 0), (26, .iload_n 2, 1, 27, 0), (27, .iaload, 1, 28, 0), (28, .iload_n 1, 1, 29, 0), (29, .if_icmp .gt 10, 3, 32, 39), (32, .aload_n 0, 1, 33, 0), (33, .iload_n 2, 1, 34, 0), (34, .iconst 1, 1, 35, 0), (35, .iadd, 1, 36, 0), (36, .putfield 48, 3, 39, 0), (39, .iinc 2 1, 3, 42, 0), (42, .goto (-35), 3, 45, 7), (45, .aload_n 0, 1, 46, 0), (46, .getfield 48, 3, 49, 0), (49, .iconst 1, 1, 50, 0), (50, .isub, 1, 51, 0), (51, .istore_n 2, 1, 52, 0), (52, .iload_n 2, 1, 53, 0), (53, .ifCond .lt 41, 3, 56, 94), (56, .aload_n 0, 1, 57, 0), (57, .getfield 9, 3, 60, 0), (60, .iload_n 2, 1, 61, 0), (61, .iaload, 1, 62, 0), (62, .bipush 10, 2, 64, 0), (64, .if_icmp .ne 24, 3, 67, 88), (67, .aload_n 0, 1, 68, 0), (68, .getfield 36, 3, 71, 0), (71, .iload_n 2, 1, 72, 0), (72, .baload, 1, 73, 0), (73, .ifCond .ne 15, 3, 76, 88), (76, .aload_n 0, 1, 77, 0), (77, .getfield 36, 3, 80, 0), (80, .aload_n 0, 1, 81, 0), (81, .getfield 21, 3, 84, 0), (84, .iload_n 2, 1, 85, 0), (85, .iaload, 1, 86, 0), (86, .iconst 1, 1, 87, 0), (87, .bastore, 1, 88, 0), (88, .iinc 2 (-1), 3, 91, 0), (91, .goto (-39), 3, 94, 52), (94, .return_, 1, 95, 0)]
theorem E_X2_know_0 {e : En} (i : Nat) (h : nthq cd_X2_know_0 i = some e) : dok prog_4_method_5_code e := dok_at (by decide +kernel) i h
def cd_X2_isInBook_0 : List En := [(0, .iload_n 1, 1, 1, 0), (1, .aload_n 0, 1, 2, 0), (2, .getfield 48, 3, 5, 0), (5, .if_icmp .ge 16, 3, 8, 21), (8, .aload_n 0, 1, 9, 0), (9, .getfield 36, 3, 12, 0), (12, .iload_n 1, 1, 13, 0), (13, .baload, 1, 14, 0), (14, .ifCond .ne 7, 3, 17, 21), (17, .iconst 1, 1, 18, 0), (18, .goto 4, 3, 21, 22), (21, .iconst 0, 1, 22, 0), (22, .ireturn, 1, 23, 0)]
theorem E_X2_isInBook_0 {e : En} (i : Nat) (h : nthq cd_X2_isInBook_0 i = some e) : dok prog_4_method_6_code e := dok_at (by decide +kernel) i h
def cd_X2_inBookAt_0 : List En := [(0, .iconst 0, 1, 1, 0), (1, .istore_n 2, 1, 2, 0), (2, .iconst 0, 1, 3, 0), (3, .istore_n 3, 1, 4, 0), (4, .iload_n 3, 1, 5, 0), (5, .aload_n 0, 1, 6, 0), (6, .getfield 40, 3, 9, 0), (9, .if_icmp .ge 37, 3, 12, 46), (12, .aload_n 0, 1, 13, 0), (13, .aload_n 0, 1, 14, 0), (14, .getfield 33, 3, 17, 0), (17, .iload_n 3, 1, 18, 0), (18, .iaload, 1, 19, 0), (19, .invokevirtual 51, 3, 22, 0), (22, .ifCond .eq 18, 3, 25, 40), (25, .iload_n 2, 1, 26, 0), (26, .iload_n 1, 1, 27, 0), (27, .if_icmp .ne 10, 3, 30, 37), (30, .aload_n 0, 1, 31, 0), (31, .getfield 33, 3, 34, 0), (34, .iload_n 3, 1, 35, 0), (35, .iaload, 1, 36, 0), (36, .ireturn, 1, 37, 0), (37, .iinc 2 1, 3, 40, 0), (40, .iinc 3 1, 3, 43, 0), (43, .goto (-39), 3, 46, 4), (46, .iconst (-1), 1, 47, 0), (47, .ireturn, 1, 48, 0)]
theorem E_X2_inBookAt_0 {e : En} (i : Nat) (h : nthq cd_X2_inBookAt_0 i = some e) : dok prog_4_method_7_code e := dok_at (by decide +kernel) i h
def cd_X2_voidCount_0 : List En := [(0, .iconst 0, 1, 1, 0), (1, .istore_n 1, 1, 2, 0), (2, .iconst 0, 1, 3, 0), (3, .istore_n 2, 1, 4, 0), (4, .iload_n 2, 1, 5, 0), (5, .aload_n 0, 1, 6, 0), (6, .getfield 40, 3, 9, 0), (9, .if_icmp .ge 26, 3, 12, 35), (12, .iload_n 1, 1, 13, 0), (13, .aload_n 0, 1, 14, 0), (14, .getfield 36, 3, 17, 0), (17, .iload_n 2, 1, 18, 0), (18, .baload, 1, 19, 0), (19, .ifCond .eq 7, 3, 22, 26), (22, .iconst 1, 1, 23, 0), (23, .goto 4, 3, 26, 27), (26, .iconst 0, 1, 27, 0), (27, .iadd, 1, 28, 0), (28, .istore_n 1, 1, 29, 0), (29, .iinc 2 1, 3, 32, 0), (32, .goto (-28), 3, 35, 4), (35, .iload_n 1, 1, 36, 0), (36, .ireturn, 1, 37, 0)]
theorem E_X2_voidCount_0 {e : En} (i : Nat) (h : nthq cd_X2_voidCount_0 i = some e) : dok prog_4_method_8_code e := dok_at (by decide +kernel) i h
def cd_X3_init_0 : List En := [(0, .aload_n 0, 1, 1, 0), (1, .invokespecial 3, 3, 4, 0), (4, .aload_n 0, 1, 5, 0), (5, .bipush 12, 2, 7, 0), (7, .newarray .int, 2, 9, 0), (9, .putfield 9, 3, 12, 0), (12, .aload_n 0, 1, 13, 0), (13, .bipush 12, 2, 15, 0), (15, .newarray .int, 2, 17, 0), (17, .putfield 15, 3, 20, 0), (20, .aload_n 0, 1, 21, 0), (21, .bipush 12, 2, 23, 0), (23, .newarray .int, 2, 25, 0), (25, .putfield 18, 3, 28, 0), (28, .aload_n 0, 1, 29, 0), (29, .bipush 12, 2, 31, 0), (31, .newarray .int, 2, 33, 0), (33, .putfield 21, 3, 36, 0), (36, .aload_n 0, 1, 37, 0), (37, .bipush 12, 2, 39, 0), (39, .newarray .int, 2, 41, 0), (41, .putfield 24, 3, 44, 0), (44, .return_, 1, 45, 0)]
theorem E_X3_init_0 {e : En} (i : Nat) (h : nthq cd_X3_init_0 i = some e) : dok prog_5_method_1_code e := dok_at (by decide +kernel) i h
def cd_X3_has_0 : List En := [(0, .iload_n 1, 1, 1, 0), (1, .ifCond .lt 15, 3, 4, 16), (4, .iload_n 1, 1, 5, 0), (5, .aload_n 0, 1, 6, 0), (6, .getfield 27, 3, 9, 0), (9, .if_icmp .ge 7, 3, 12, 16), (12, .iconst 1, 1, 13, 0), (13, .goto 4, 3, 16, 17), (16, .iconst 0, 1, 17, 0), (17, .ireturn, 1, 18, 0)]
theorem E_X3_has_0 {e : En} (i : Nat) (h : nthq cd_X3_has_0 i = some e) : dok prog_5_method_2_code e := dok_at (by decide +kernel) i h
def cd_X3_add_0 : List En := [(0, .aload_n 0, 1, 1, 0), (1, .getfield 27, 3, 4, 0), (4, .istore 6, 2, 6, 0), (6, .aload_n 0, 1, 7, 0), (7, .getfield 9, 3, 10, 0), (10, .iload 6, 2, 12, 0), (12, .iload_n 1, 1, 13, 0), (13, .iastore, 1, 14, 0), (14, .aload_n 0, 1, 15, 0), (15, .getfield 15, 3, 18, 0), (18, .iload 6, 2, 20, 0), (20, .iload_n 2, 1, 21, 0), (21, .iastore, 1, 22, 0), (22, .aload_n 0, 1, 23, 0), (23, .getfield 18, 3, 26, 0), (26, .iload 6, 2, 28, 0), (28, .iload_n 3, 1, 29, 0), (29, .iastore, 1, 30, 0), (30, .aload_n 0, 1, 31, 0), (31, .getfield 21, 3, 34, 0), (34, .iload 6, 2, 36, 0), (36, .iload 4, 2, 38, 0), (38, .iastore, 1, 39, 0), (39, .aload_n 0, 1, 40, 0), (40, .getfield 24, 3, 43, 0), (43, .iload 6, 2, 45, 0), (45, .iload 5, 2, 47, 0), (47, .iastore, 1, 48, 0), (48, .aload_n 0, 1, 49, 0), (49, .dup, 1, 50, 0), (50, .getfield 27, 3, 53, 0), (53, .iconst 1, 1, 54, 0), (54, .iadd, 1, 55, 0), (55, .putfield 27, 3, 58, 0), (58, .iload 6, 2, 60, 0), (60, .ireturn, 1, 61, 0)]
theorem E_X3_add_0 {e : En} (i : Nat) (h : nthq cd_X3_add_0 i = some e) : dok prog_5_method_3_code e := dok_at (by decide +kernel) i h
def cd_X4_init_0 : List En := [(0, .aload_n 0, 1, 1, 0), (1, .invokespecial 3, 3, 4, 0), (4, .aload_n 0, 1, 5, 0), (5, .bipush 12, 2, 7, 0), (7, .newarray .int, 2, 9, 0), (9, .putfield 9, 3, 12, 0), (12, .aload_n 0, 1, 13, 0), (13, .bipush 8, 2, 15, 0), (15, .newarray .int, 2, 17, 0), (17, .putfield 15, 3, 20, 0), (20, .aload_n 0, 1, 21, 0), (21, .sipush 256, 3, 24, 0), (24, .newarray .int, 2, 26, 0), (26, .putfield 18, 3, 29, 0), (29, .aload_n 0, 1, 30, 0), (30, .sipush 256, 3, 33, 0), (33, .newarray .int, 2, 35, 0), (35, .putfield 21, 3, 38, 0), (38, .aload_n 0, 1, 39, 0), (39, .sipush 256, 3, 42, 0), (42, .newarray .long, 2, 44, 0), (44, .putfield 24, 3, 47, 0), (47, .aload_n 0, 1, 48, 0), (48, .sipush 256, 3, 51, 0), (51, .newarray .long, 2, 53, 0), (53, .putfield 28, 3, 56, 0), (56, .return_, 1, 57, 0)]
theorem E_X4_init_0 {e : En} (i : Nat) (h : nthq cd_X4_init_0 i = some e) : dok prog_6_method_1_code e := dok_at (by decide +kernel) i h
def cd_X4_lay_0 : List En := [(0, .aload_n 0, 1, 1, 0), (1, .iload_n 1, 1, 2, 0), (2, .aload_n 2, 1, 3, 0), (3, .getfield 31, 3, 6, 0), (6, .invokevirtual 37, 3, 9, 0), (9, .aload_n 0, 1, 10, 0), (10, .aload_n 2, 1, 11, 0), (11, .aload_n 3, 1, 12, 0), (12, .invokevirtual 41, 3, 15, 0), (15, .iconst 1, 1, 16, 0), (16, .aload_n 0, 1, 17, 0), (17, .getfield 45, 3, 20, 0), (20, .ishl, 1, 21, 0), (21, .istore 6, 2, 23, 0), (23, .iconst 1, 1, 24, 0), (24, .istore 7, 2, 26, 0), (26, .iload 7, 2, 28, 0), (28, .iload 6, 2, 30, 0), (30, .if_icmp .ge 19, 3, 33, 49), (33, .aload_n 0, 1, 34, 0), (34, .getfield 28, 3, 37, 0), (37, .iload 7, 2, 39, 0), (39, .ldc2_w 46, 3, 42, 0), (42, .lastore, 1, 43, 0), (43, .iinc 7 1, 3, 46, 0), (46, .goto (-20), 3, 49, 26), (49, .aload_n 0, 1, 50, 0), (50, .getfield 28, 3, 53, 0), (53, .iconst 0, 1, 54, 0), (54, .lconst 0, 1, 55, 0), (55, .lastore, 1, 56, 0), (56, .iconst 0, 1, 57, 0), (57, .istore 7, 2, 59, 0), (59, .iload 7, 2, 61, 0), (61, .bipush 6, 2, 63, 0), (63, .if_icmp .ge 109, 3, 66, 172), (66, .iconst 0, 1, 67, 0), (67, .istore 8, 2, 69, 0), (69, .iconst 0, 1, 70, 0), (70, .istore 9, 2, 72, 0), (72, .iconst 0, 1, 73, 0), (73, .istore 10, 2, 75, 0), (75, .iload 10, 2, 77, 0), (77, .aload_n 2, 1, 78, 0), (78, .getfield 31, 3, 81, 0), (81, .if_icmp .ge 57, 3, 84, 138), (84, .aload_n 0, 1, 85, 0), (85, .getfield 9, 3, 88, 0), (88, .iload 10, 2, 90, 0), (90, .iaload, 1, 91, 0), (91, .iconst (-1), 1, 92, 0), (92, .if_icmp .ne 40, 3, 95, 132), (95, .aload_n 2, 1, 96, 0), (96, .getfield 48, 3, 99, 0), (99, .iload 10, 2, 101, 0), (101, .iaload, 1, 102, 0), (102, .iload 7, 2, 104, 0), (104, .if_icmp .ne 28, 3, 107, 132), (107, .iload 8, 2, 109, 0), (109, .aload_n 3, 1, 110, 0)]
def cd_X4_lay_1 : List En := [(110, .iload 10, 2, 112, 0), (112, .invokevirtual 51, 3, 115, 0), (115, .iadd, 1, 116, 0), (116, .istore 8, 2, 118, 0), (118, .iload 9, 2, 120, 0), (120, .iconst 1, 1, 121, 0), (121, .aload_n 2, 1, 122, 0), (122, .getfield 57, 3, 125, 0), (125, .iload 10, 2, 127, 0), (127, .iaload, 1, 128, 0), (128, .ishl, 1, 129, 0), (129, .ior, 1, 130, 0), (130, .istore 9, 2, 132, 0), (132, .iinc 10 1, 3, 135, 0), (135, .goto (-60), 3, 138, 75), (138, .aload_n 0, 1, 139, 0), (139, .iload 7, 2, 141, 0), (141, .aload_n 2, 1, 142, 0), (142, .aload_n 3, 1, 143, 0), (143, .invokevirtual 60, 3, 146, 0), (146, .aload_n 0, 1, 147, 0), (147, .aload 4, 2, 149, 0), (149, .iload 7, 2, 151, 0), (151, .iaload, 1, 152, 0), (152, .iload 8, 2, 154, 0), (154, .isub, 1, 155, 0), (155, .iload 9, 2, 157, 0), (157, .aload 5, 2, 159, 0), (159, .invokevirtual 64, 3, 162, 0), (162, .aload_n 0, 1, 163, 0), (163, .invokevirtual 68, 3, 166, 0), (166, .iinc 7 1, 3, 169, 0), (169, .goto (-110), 3, 172, 59), (172, .return_, 1, 173, 0)]
theorem E_X4_lay_0 {e : En} (i : Nat) (h : nthq cd_X4_lay_0 i = some e) : dok prog_6_method_2_code e := dok_at (by decide +kernel) i h
theorem E_X4_lay_1 {e : En} (i : Nat) (h : nthq cd_X4_lay_1 i = some e) : dok prog_6_method_2_code e := dok_at (by decide +kernel) i h
def cd_X4_choose_0 : List En := [(0, .aload_n 0, 1, 1, 0), (1, .iconst 0, 1, 2, 0), (2, .putfield 45, 3, 5, 0), (5, .iconst 0, 1, 6, 0), (6, .istore_n 3, 1, 7, 0), (7, .iload_n 3, 1, 8, 0), (8, .iload_n 2, 1, 9, 0), (9, .if_icmp .ge 64, 3, 12, 73), (12, .aload_n 0, 1, 13, 0), (13, .getfield 9, 3, 16, 0), (16, .iload_n 3, 1, 17, 0), (17, .iconst (-1), 1, 18, 0), (18, .iastore, 1, 19, 0), (19, .iload_n 1, 1, 20, 0), (20, .iload_n 3, 1, 21, 0), (21, .ishr, 1, 22, 0), (22, .iconst 1, 1, 23, 0), (23, .iand, 1, 24, 0), (24, .iconst 1, 1, 25, 0), (25, .if_icmp .ne 42, 3, 28, 67), (28, .aload_n 0, 1, 29, 0), (29, .getfield 45, 3, 32, 0), (32, .bipush 8, 2, 34, 0), (34, .if_icmp .ge 33, 3, 37, 67), (37, .aload_n 0, 1, 38, 0), (38, .getfield 9, 3, 41, 0), (41, .iload_n 3, 1, 42, 0), (42, .aload_n 0, 1, 43, 0), (43, .getfield 45, 3, 46, 0), (46, .iastore, 1, 47, 0), (47, .aload_n 0, 1, 48, 0), (48, .getfield 15, 3, 51, 0), (51, .aload_n 0, 1, 52, 0), (52, .getfield 45, 3, 55, 0), (55, .iload_n 3, 1, 56, 0), (56, .iastore, 1, 57, 0), (57, .aload_n 0, 1, 58, 0), (58, .dup, 1, 59, 0), (59, .getfield 45, 3, 62, 0), (62, .iconst 1, 1, 63, 0), (63, .iadd, 1, 64, 0), (64, .putfield 45, 3, 67, 0), (67, .iinc 3 1, 3, 70, 0), (70, .goto (-63), 3, 73, 7), (73, .return_, 1, 74, 0)]
theorem E_X4_choose_0 {e : En} (i : Nat) (h : nthq cd_X4_choose_0 i = some e) : dok prog_6_method_3_code e := dok_at (by decide +kernel) i h
def cd_X4_gather_0 : List En := [(0, .aload_n 0, 1, 1, 0), (1, .getfield 18, 3, 4, 0), (4, .iconst 0, 1, 5, 0), (5, .iconst 0, 1, 6, 0), (6, .iastore, 1, 7, 0), (7, .aload_n 0, 1, 8, 0), (8, .getfield 21, 3, 11, 0), (11, .iconst 0, 1, 12, 0), (12, .iconst 0, 1, 13, 0), (13, .iastore, 1, 14, 0), (14, .iconst 0, 1, 15, 0), (15, .istore_n 3, 1, 16, 0), (16, .iload_n 3, 1, 17, 0), (17, .aload_n 0, 1, 18, 0), (18, .getfield 45, 3, 21, 0), (21, .if_icmp .ge 87, 3, 24, 108), (24, .aload_n 0, 1, 25, 0), (25, .getfield 15, 3, 28, 0), (28, .iload_n 3, 1, 29, 0), (29, .iaload, 1, 30, 0), (30, .istore 4, 2, 32, 0), (32, .iconst 0, 1, 33, 0), (33, .istore 5, 2, 35, 0), (35, .iload 5, 2, 37, 0), (37, .iconst 1, 1, 38, 0), (38, .iload_n 3, 1, 39, 0), (39, .ishl, 1, 40, 0), (40, .if_icmp .ge 62, 3, 43, 102), (43, .aload_n 0, 1, 44, 0), (44, .getfield 18, 3, 47, 0), (47, .iload 5, 2, 49, 0), (49, .iconst 1, 1, 50, 0), (50, .iload_n 3, 1, 51, 0), (51, .ishl, 1, 52, 0), (52, .ior, 1, 53, 0), (53, .aload_n 0, 1, 54, 0), (54, .getfield 18, 3, 57, 0), (57, .iload 5, 2, 59, 0), (59, .iaload, 1, 60, 0), (60, .aload_n 2, 1, 61, 0), (61, .iload 4, 2, 63, 0), (63, .invokevirtual 51, 3, 66, 0), (66, .iadd, 1, 67, 0), (67, .iastore, 1, 68, 0), (68, .aload_n 0, 1, 69, 0), (69, .getfield 21, 3, 72, 0), (72, .iload 5, 2, 74, 0), (74, .iconst 1, 1, 75, 0), (75, .iload_n 3, 1, 76, 0), (76, .ishl, 1, 77, 0), (77, .ior, 1, 78, 0), (78, .aload_n 0, 1, 79, 0), (79, .getfield 21, 3, 82, 0), (82, .iload 5, 2, 84, 0), (84, .iaload, 1, 85, 0), (85, .iconst 1, 1, 86, 0), (86, .aload_n 1, 1, 87, 0), (87, .getfield 57, 3, 90, 0), (90, .iload 4, 2, 92, 0), (92, .iaload, 1, 93, 0)]
def cd_X4_gather_1 : List En := [(93, .ishl, 1, 94, 0), (94, .ior, 1, 95, 0), (95, .iastore, 1, 96, 0), (96, .iinc 5 1, 3, 99, 0), (99, .goto (-64), 3, 102, 35), (102, .iinc 3 1, 3, 105, 0), (105, .goto (-89), 3, 108, 16), (108, .return_, 1, 109, 0)]
theorem E_X4_gather_0 {e : En} (i : Nat) (h : nthq cd_X4_gather_0 i = some e) : dok prog_6_method_4_code e := dok_at (by decide +kernel) i h
theorem E_X4_gather_1 {e : En} (i : Nat) (h : nthq cd_X4_gather_1 i = some e) : dok prog_6_method_4_code e := dok_at (by decide +kernel) i h
def cd_X4_priceOn_0 : List En := [(0, .aload_n 0, 1, 1, 0), (1, .getfield 24, 3, 4, 0), (4, .iconst 0, 1, 5, 0), (5, .lconst 0, 1, 6, 0), (6, .lastore, 1, 7, 0), (7, .iconst 0, 1, 8, 0), (8, .istore 4, 2, 10, 0), (10, .iload 4, 2, 12, 0), (12, .aload_n 0, 1, 13, 0), (13, .getfield 45, 3, 16, 0), (16, .if_icmp .ge 97, 3, 19, 113), (19, .aload_n 0, 1, 20, 0), (20, .getfield 15, 3, 23, 0), (23, .iload 4, 2, 25, 0), (25, .iaload, 1, 26, 0), (26, .istore 5, 2, 28, 0), (28, .iload_n 1, 1, 29, 0), (29, .i2l, 1, 30, 0), (30, .getstatic 71, 3, 33, 0), (33, .iload 4, 2, 35, 0), (35, .iaload, 1, 36, 0), (36, .i2l, 1, 37, 0), (37, .lmul, 1, 38, 0), (38, .lstore 6, 2, 40, 0), (40, .aload_n 2, 1, 41, 0), (41, .getfield 48, 3, 44, 0), (44, .iload 5, 2, 46, 0), (46, .iaload, 1, 47, 0), (47, .iload_n 1, 1, 48, 0), (48, .if_icmp .eq 19, 3, 51, 67), (51, .lload 6, 2, 53, 0), (53, .aload_n 3, 1, 54, 0), (54, .iload 5, 2, 56, 0), (56, .invokevirtual 51, 3, 59, 0), (59, .i2l, 1, 60, 0), (60, .ldc2_w 74, 3, 63, 0), (63, .lmul, 1, 64, 0), (64, .ladd, 1, 65, 0), (65, .lstore 6, 2, 67, 0), (67, .iconst 0, 1, 68, 0), (68, .istore 8, 2, 70, 0), (70, .iload 8, 2, 72, 0), (72, .iconst 1, 1, 73, 0), (73, .iload 4, 2, 75, 0), (75, .ishl, 1, 76, 0), (76, .if_icmp .ge 31, 3, 79, 107), (79, .aload_n 0, 1, 80, 0), (80, .getfield 24, 3, 83, 0), (83, .iload 8, 2, 85, 0), (85, .iconst 1, 1, 86, 0), (86, .iload 4, 2, 88, 0), (88, .ishl, 1, 89, 0), (89, .ior, 1, 90, 0), (90, .aload_n 0, 1, 91, 0), (91, .getfield 24, 3, 94, 0), (94, .iload 8, 2, 96, 0), (96, .laload, 1, 97, 0), (97, .lload 6, 2, 99, 0), (99, .ladd, 1, 100, 0), (100, .lastore, 1, 101, 0)]
def cd_X4_priceOn_1 : List En := [(101, .iinc 8 1, 3, 104, 0), (104, .goto (-34), 3, 107, 70), (107, .iinc 4 1, 3, 110, 0), (110, .goto (-100), 3, 113, 10), (113, .return_, 1, 114, 0)]
theorem E_X4_priceOn_0 {e : En} (i : Nat) (h : nthq cd_X4_priceOn_0 i = some e) : dok prog_6_method_5_code e := dok_at (by decide +kernel) i h
theorem E_X4_priceOn_1 {e : En} (i : Nat) (h : nthq cd_X4_priceOn_1 i = some e) : dok prog_6_method_5_code e := dok_at (by decide +kernel) i h
def cd_X4_shut_0 : List En := [(0, .iconst 1, 1, 1, 0), (1, .istore 4, 2, 3, 0), (3, .iload 4, 2, 5, 0), (5, .iconst 1, 1, 6, 0), (6, .aload_n 0, 1, 7, 0), (7, .getfield 45, 3, 10, 0), (10, .ishl, 1, 11, 0), (11, .if_icmp .ge 54, 3, 14, 65), (14, .aload_n 0, 1, 15, 0), (15, .getfield 18, 3, 18, 0), (18, .iload 4, 2, 20, 0), (20, .iaload, 1, 21, 0), (21, .iload_n 1, 1, 22, 0), (22, .if_icmp .gt 27, 3, 25, 49), (25, .aload_n 0, 1, 26, 0), (26, .aload_n 0, 1, 27, 0), (27, .getfield 21, 3, 30, 0), (30, .iload 4, 2, 32, 0), (32, .iaload, 1, 33, 0), (33, .aload_n 0, 1, 34, 0), (34, .getfield 21, 3, 37, 0), (37, .iload 4, 2, 39, 0), (39, .iaload, 1, 40, 0), (40, .iload_n 2, 1, 41, 0), (41, .ior, 1, 42, 0), (42, .aload_n 3, 1, 43, 0), (43, .invokevirtual 76, 3, 46, 0), (46, .ifCond .eq 13, 3, 49, 59), (49, .aload_n 0, 1, 50, 0), (50, .getfield 24, 3, 53, 0), (53, .iload 4, 2, 55, 0), (55, .ldc2_w 46, 3, 58, 0), (58, .lastore, 1, 59, 0), (59, .iinc 4 1, 3, 62, 0), (62, .goto (-59), 3, 65, 3), (65, .return_, 1, 66, 0)]
theorem E_X4_shut_0 {e : En} (i : Nat) (h : nthq cd_X4_shut_0 i = some e) : dok prog_6_method_6_code e := dok_at (by decide +kernel) i h
def cd_X4_isParted_0 : List En := [(0, .iconst 0, 1, 1, 0), (1, .istore 4, 2, 3, 0), (3, .iload 4, 2, 5, 0), (5, .iconst 4, 1, 6, 0), (6, .if_icmp .ge 30, 3, 9, 36), (9, .iload_n 1, 1, 10, 0), (10, .iload 4, 2, 12, 0), (12, .ishr, 1, 13, 0), (13, .iconst 1, 1, 14, 0), (14, .iand, 1, 15, 0), (15, .iconst 1, 1, 16, 0), (16, .if_icmp .ne 14, 3, 19, 30), (19, .aload_n 3, 1, 20, 0), (20, .iload 4, 2, 22, 0), (22, .iaload, 1, 23, 0), (23, .iload_n 2, 1, 24, 0), (24, .iand, 1, 25, 0), (25, .ifCond .eq 5, 3, 28, 30), (28, .iconst 1, 1, 29, 0), (29, .ireturn, 1, 30, 0), (30, .iinc 4 1, 3, 33, 0), (33, .goto (-30), 3, 36, 3), (36, .iconst 0, 1, 37, 0), (37, .ireturn, 1, 38, 0)]
theorem E_X4_isParted_0 {e : En} (i : Nat) (h : nthq cd_X4_isParted_0 i = some e) : dok prog_6_method_7_code e := dok_at (by decide +kernel) i h
def cd_X4_openFloor_0 : List En := [(0, .iconst 1, 1, 1, 0), (1, .aload_n 0, 1, 2, 0), (2, .getfield 45, 3, 5, 0), (5, .ishl, 1, 6, 0), (6, .iconst 1, 1, 7, 0), (7, .isub, 1, 8, 0), (8, .istore_n 1, 1, 9, 0), (9, .iload_n 1, 1, 10, 0), (10, .ifCond .le 78, 3, 13, 88), (13, .iload_n 1, 1, 14, 0), (14, .istore_n 2, 1, 15, 0), (15, .iconst 1, 1, 16, 0), (16, .iload_n 1, 1, 17, 0), (17, .invokestatic 80, 3, 20, 0), (20, .ishl, 1, 21, 0), (21, .istore_n 3, 1, 22, 0), (22, .iload_n 3, 1, 23, 0), (23, .iconst 1, 1, 24, 0), (24, .if_icmp .le 58, 3, 27, 82), (27, .aload_n 0, 1, 28, 0), (28, .getfield 24, 3, 31, 0), (31, .iload_n 2, 1, 32, 0), (32, .laload, 1, 33, 0), (33, .ldc2_w 46, 3, 36, 0), (36, .lcmp, 1, 37, 0), (37, .ifCond .ge 33, 3, 40, 70), (40, .aload_n 0, 1, 41, 0), (41, .getfield 28, 3, 44, 0), (44, .iload_n 1, 1, 45, 0), (45, .aload_n 0, 1, 46, 0), (46, .getfield 28, 3, 49, 0), (49, .iload_n 1, 1, 50, 0), (50, .laload, 1, 51, 0), (51, .aload_n 0, 1, 52, 0), (52, .getfield 28, 3, 55, 0), (55, .iload_n 1, 1, 56, 0), (56, .iload_n 2, 1, 57, 0), (57, .ixor, 1, 58, 0), (58, .laload, 1, 59, 0), (59, .aload_n 0, 1, 60, 0), (60, .getfield 24, 3, 63, 0), (63, .iload_n 2, 1, 64, 0), (64, .laload, 1, 65, 0), (65, .ladd, 1, 66, 0), (66, .invokestatic 85, 3, 69, 0), (69, .lastore, 1, 70, 0), (70, .iload_n 2, 1, 71, 0), (71, .iconst 1, 1, 72, 0), (72, .isub, 1, 73, 0), (73, .iload_n 1, 1, 74, 0), (74, .iand, 1, 75, 0), (75, .istore_n 2, 1, 76, 0), (76, .iinc 3 (-1), 3, 79, 0), (79, .goto (-57), 3, 82, 22), (82, .iinc 1 (-1), 3, 85, 0), (85, .goto (-76), 3, 88, 9), (88, .return_, 1, 89, 0)]
theorem E_X4_openFloor_0 {e : En} (i : Nat) (h : nthq cd_X4_openFloor_0 i = some e) : dok prog_6_method_8_code e := dok_at (by decide +kernel) i h
def cd_X4_isFound_0 : List En := [(0, .aload_n 0, 1, 1, 0), (1, .getfield 28, 3, 4, 0), (4, .iconst 1, 1, 5, 0), (5, .aload_n 0, 1, 6, 0), (6, .getfield 45, 3, 9, 0), (9, .ishl, 1, 10, 0), (10, .iconst 1, 1, 11, 0), (11, .isub, 1, 12, 0), (12, .laload, 1, 13, 0), (13, .ldc2_w 46, 3, 16, 0), (16, .lcmp, 1, 17, 0), (17, .ifCond .ge 7, 3, 20, 24), (20, .iconst 1, 1, 21, 0), (21, .goto 4, 3, 24, 25), (24, .iconst 0, 1, 25, 0), (25, .ireturn, 1, 26, 0)]
theorem E_X4_isFound_0 {e : En} (i : Nat) (h : nthq cd_X4_isFound_0 i = some e) : dok prog_6_method_9_code e := dok_at (by decide +kernel) i h
def cd_X4_moved_0 : List En := [(0, .aload_n 0, 1, 1, 0), (1, .getfield 28, 3, 4, 0), (4, .iconst 1, 1, 5, 0), (5, .aload_n 0, 1, 6, 0), (6, .getfield 45, 3, 9, 0), (9, .ishl, 1, 10, 0), (10, .iconst 1, 1, 11, 0), (11, .isub, 1, 12, 0), (12, .laload, 1, 13, 0), (13, .ldc2_w 74, 3, 16, 0), (16, .ldiv, 1, 17, 0), (17, .l2i, 1, 18, 0), (18, .ireturn, 1, 19, 0)]
theorem E_X4_moved_0 {e : En} (i : Nat) (h : nthq cd_X4_moved_0 i = some e) : dok prog_6_method_10_code e := dok_at (by decide +kernel) i h
def cd_X4_floorOf_0 : List En := [(0, .aload_n 0, 1, 1, 0), (1, .getfield 9, 3, 4, 0), (4, .iload_n 1, 1, 5, 0), (5, .iaload, 1, 6, 0), (6, .iconst (-1), 1, 7, 0), (7, .if_icmp .ne 5, 3, 10, 12), (10, .iconst (-1), 1, 11, 0), (11, .ireturn, 1, 12, 0), (12, .aload_n 0, 1, 13, 0), (13, .getfield 28, 3, 16, 0), (16, .iconst 1, 1, 17, 0), (17, .aload_n 0, 1, 18, 0), (18, .getfield 45, 3, 21, 0), (21, .ishl, 1, 22, 0), (22, .iconst 1, 1, 23, 0), (23, .isub, 1, 24, 0), (24, .laload, 1, 25, 0), (25, .getstatic 71, 3, 28, 0), (28, .aload_n 0, 1, 29, 0), (29, .getfield 9, 3, 32, 0), (32, .iload_n 1, 1, 33, 0), (33, .iaload, 1, 34, 0), (34, .iaload, 1, 35, 0), (35, .i2l, 1, 36, 0), (36, .ldiv, 1, 37, 0), (37, .ldc2_w 91, 3, 40, 0), (40, .lrem, 1, 41, 0), (41, .l2i, 1, 42, 0), (42, .ireturn, 1, 43, 0)]
theorem E_X4_floorOf_0 {e : En} (i : Nat) (h : nthq cd_X4_floorOf_0 i = some e) : dok prog_6_method_11_code e := dok_at (by decide +kernel) i h
def cd_X5_init_0 : List En := [(0, .aload_n 0, 1, 1, 0), (1, .invokespecial 3, 3, 4, 0), (4, .aload_n 0, 1, 5, 0), (5, .sipush 160, 3, 8, 0), (8, .newarray .int, 2, 10, 0), (10, .putfield 11, 3, 13, 0), (13, .aload_n 0, 1, 14, 0), (14, .bipush 10, 2, 16, 0), (16, .newarray .int, 2, 18, 0), (18, .putfield 15, 3, 21, 0), (21, .aload_n 0, 1, 22, 0), (22, .bipush 10, 2, 24, 0), (24, .newarray .int, 2, 26, 0), (26, .putfield 18, 3, 29, 0), (29, .aload_n 0, 1, 30, 0), (30, .iconst (-1), 1, 31, 0), (31, .putfield 21, 3, 34, 0), (34, .return_, 1, 35, 0)]
theorem E_X5_init_0 {e : En} (i : Nat) (h : nthq cd_X5_init_0 i = some e) : dok prog_7_method_1_code e := dok_at (by decide +kernel) i h
def cd_X5_add_0 : List En := [(0, .aload_n 0, 1, 1, 0), (1, .getfield 25, 3, 4, 0), (4, .sipush 160, 3, 7, 0), (7, .if_icmp .ge 23, 3, 10, 30), (10, .aload_n 0, 1, 11, 0), (11, .getfield 11, 3, 14, 0), (14, .aload_n 0, 1, 15, 0), (15, .getfield 25, 3, 18, 0), (18, .iload_n 1, 1, 19, 0), (19, .iastore, 1, 20, 0), (20, .aload_n 0, 1, 21, 0), (21, .dup, 1, 22, 0), (22, .getfield 25, 3, 25, 0), (25, .iconst 1, 1, 26, 0), (26, .iadd, 1, 27, 0), (27, .putfield 25, 3, 30, 0), (30, .return_, 1, 31, 0)]
theorem E_X5_add_0 {e : En} (i : Nat) (h : nthq cd_X5_add_0 i = some e) : dok prog_7_method_2_code e := dok_at (by decide +kernel) i h
def cd_X5_read_0 : List En := [(0, .aload_n 0, 1, 1, 0), (1, .iconst 0, 1, 2, 0), (2, .putfield 28, 3, 5, 0), (5, .aload_n 0, 1, 6, 0), (6, .iconst 0, 1, 7, 0), (7, .putfield 31, 3, 10, 0), (10, .aload_n 0, 1, 11, 0), (11, .iconst 0, 1, 12, 0), (12, .putfield 34, 3, 15, 0), (15, .aload_n 0, 1, 16, 0), (16, .iconst (-1), 1, 17, 0), (17, .putfield 21, 3, 20, 0), (20, .aload_n 0, 1, 21, 0), (21, .invokevirtual 37, 3, 24, 0), (24, .iconst 0, 1, 25, 0), (25, .istore_n 2, 1, 26, 0), (26, .iload_n 2, 1, 27, 0), (27, .bipush 10, 2, 29, 0), (29, .if_icmp .gt 36, 3, 32, 65), (32, .aload_n 0, 1, 33, 0), (33, .getfield 28, 3, 36, 0), (36, .aload_n 0, 1, 37, 0), (37, .getfield 25, 3, 40, 0), (40, .if_icmp .ge 25, 3, 43, 65), (43, .aload_n 0, 1, 44, 0), (44, .getfield 34, 3, 47, 0), (47, .ifCond .ne 18, 3, 50, 65), (50, .aload_n 0, 1, 51, 0), (51, .iload_n 1, 1, 52, 0), (52, .invokevirtual 40, 3, 55, 0), (55, .aload_n 0, 1, 56, 0), (56, .invokevirtual 37, 3, 59, 0), (59, .iinc 2 1, 3, 62, 0), (62, .goto (-36), 3, 65, 26), (65, .aload_n 0, 1, 66, 0), (66, .iconst 0, 1, 67, 0), (67, .putfield 25, 3, 70, 0), (70, .return_, 1, 71, 0)]
theorem E_X5_read_0 {e : En} (i : Nat) (h : nthq cd_X5_read_0 i = some e) : dok prog_7_method_3_code e := dok_at (by decide +kernel) i h
def cd_X5_readClause_0 : List En := [(0, .aload_n 0, 1, 1, 0), (1, .bipush 9, 2, 3, 0), (3, .bipush 12, 2, 5, 0), (5, .invokevirtual 44, 3, 8, 0), (8, .istore_n 2, 1, 9, 0), (9, .aload_n 0, 1, 10, 0), (10, .getfield 34, 3, 13, 0), (13, .ifCond .ne 21, 3, 16, 34), (16, .aload_n 0, 1, 17, 0), (17, .getfield 31, 3, 20, 0), (20, .bipush 10, 2, 22, 0), (22, .if_icmp .lt 12, 3, 25, 34), (25, .aload_n 0, 1, 26, 0), (26, .iconst 5, 1, 27, 0), (27, .aload_n 0, 1, 28, 0), (28, .getfield 48, 3, 31, 0), (31, .invokevirtual 51, 3, 34, 0), (34, .aload_n 0, 1, 35, 0), (35, .getfield 34, 3, 38, 0), (38, .ifCond .eq 4, 3, 41, 42), (41, .return_, 1, 42, 0), (42, .iload_n 2, 1, 43, 0), (43, .tableswitch 52 0 2 #[25, 32, 39], 25, 68, 0), (68, .aload_n 0, 1, 69, 0), (69, .invokevirtual 55, 3, 72, 0), (72, .goto 34, 3, 75, 106), (75, .aload_n 0, 1, 76, 0), (76, .invokevirtual 58, 3, 79, 0), (79, .goto 27, 3, 82, 106), (82, .aload_n 0, 1, 83, 0), (83, .bipush 9, 2, 85, 0), (85, .aload_n 0, 1, 86, 0), (86, .invokevirtual 61, 3, 89, 0), (89, .invokevirtual 65, 3, 92, 0), (92, .goto 14, 3, 95, 106), (95, .aload_n 0, 1, 96, 0), (96, .bipush 10, 2, 98, 0), (98, .aload_n 0, 1, 99, 0), (99, .iload_n 1, 1, 100, 0), (100, .invokevirtual 68, 3, 103, 0), (103, .invokevirtual 65, 3, 106, 0), (106, .return_, 1, 107, 0)]
theorem E_X5_readClause_0 {e : En} (i : Nat) (h : nthq cd_X5_readClause_0 i = some e) : dok prog_7_method_4_code e := dok_at (by decide +kernel) i h
def cd_X5_readLet_0 : List En := [(0, .aload_n 0, 1, 1, 0), (1, .iconst 0, 1, 2, 0), (2, .iconst 4, 1, 3, 0), (3, .invokevirtual 44, 3, 6, 0), (6, .istore_n 1, 1, 7, 0), (7, .iload_n 1, 1, 8, 0), (8, .iconst (-1), 1, 9, 0), (9, .if_icmp .eq 17, 3, 12, 26), (12, .aload_n 0, 1, 13, 0), (13, .iload_n 1, 1, 14, 0), (14, .aload_n 0, 1, 15, 0), (15, .getstatic 72, 3, 18, 0), (18, .iload_n 1, 1, 19, 0), (19, .iaload, 1, 20, 0), (20, .invokevirtual 75, 3, 23, 0), (23, .invokevirtual 65, 3, 26, 0), (26, .return_, 1, 27, 0)]
theorem E_X5_readLet_0 {e : En} (i : Nat) (h : nthq cd_X5_readLet_0 i = some e) : dok prog_7_method_5_code e := dok_at (by decide +kernel) i h
def cd_X5_readDry_0 : List En := [(0, .aload_n 0, 1, 1, 0), (1, .iconst 3, 1, 2, 0), (2, .invokevirtual 75, 3, 5, 0), (5, .istore_n 1, 1, 6, 0), (6, .aload_n 0, 1, 7, 0), (7, .getfield 34, 3, 10, 0), (10, .ifCond .ne 12, 3, 13, 22), (13, .aload_n 0, 1, 14, 0), (14, .bipush 13, 2, 16, 0), (16, .bipush 13, 2, 18, 0), (18, .invokevirtual 44, 3, 21, 0), (21, .pop, 1, 22, 0), (22, .aload_n 0, 1, 23, 0), (23, .getfield 34, 3, 26, 0), (26, .ifCond .ne 17, 3, 29, 43), (29, .aload_n 0, 1, 30, 0), (30, .iconst 5, 1, 31, 0), (31, .iload_n 1, 1, 32, 0), (32, .iadd, 1, 33, 0), (33, .aload_n 0, 1, 34, 0), (34, .sipush 999, 3, 37, 0), (37, .invokevirtual 75, 3, 40, 0), (40, .invokevirtual 65, 3, 43, 0), (43, .return_, 1, 44, 0)]
theorem E_X5_readDry_0 {e : En} (i : Nat) (h : nthq cd_X5_readDry_0 i = some e) : dok prog_7_method_6_code e := dok_at (by decide +kernel) i h
def cd_X5_takeTerm_0 : List En := [(0, .aload_n 0, 1, 1, 0), (1, .sipush 9999, 3, 4, 0), (4, .invokevirtual 75, 3, 7, 0), (7, .istore_n 2, 1, 8, 0), (8, .aload_n 0, 1, 9, 0), (9, .getfield 34, 3, 12, 0), (12, .ifCond .ne 17, 3, 15, 29), (15, .iload_n 2, 1, 16, 0), (16, .iload_n 1, 1, 17, 0), (17, .if_icmp .lt 12, 3, 20, 29), (20, .aload_n 0, 1, 21, 0), (21, .iconst 3, 1, 22, 0), (22, .aload_n 0, 1, 23, 0), (23, .getfield 48, 3, 26, 0), (26, .invokevirtual 51, 3, 29, 0), (29, .iload_n 2, 1, 30, 0), (30, .ireturn, 1, 31, 0)]
theorem E_X5_takeTerm_0 {e : En} (i : Nat) (h : nthq cd_X5_takeTerm_0 i = some e) : dok prog_7_method_7_code e := dok_at (by decide +kernel) i h
def cd_X5_takeKeys_0 : List En := [(0, .iconst 0, 1, 1, 0), (1, .istore_n 1, 1, 2, 0), (2, .iconst 0, 1, 3, 0), (3, .istore_n 2, 1, 4, 0), (4, .iconst 1, 1, 5, 0), (5, .istore_n 3, 1, 6, 0), (6, .iconst 0, 1, 7, 0), (7, .istore 4, 2, 9, 0), (9, .iload 4, 2, 11, 0), (11, .iconst 4, 1, 12, 0), (12, .if_icmp .gt 87, 3, 15, 99), (15, .iload_n 3, 1, 16, 0), (16, .ifCond .eq 83, 3, 19, 99), (19, .aload_n 0, 1, 20, 0), (20, .getfield 34, 3, 23, 0), (23, .ifCond .ne 76, 3, 26, 99), (26, .aload_n 0, 1, 27, 0), (27, .iconst 5, 1, 28, 0), (28, .bipush 8, 2, 30, 0), (30, .invokevirtual 44, 3, 33, 0), (33, .istore 5, 2, 35, 0), (35, .iload 5, 2, 37, 0), (37, .iconst (-1), 1, 38, 0), (38, .if_icmp .eq 22, 3, 41, 60), (41, .iload_n 2, 1, 42, 0), (42, .iload 5, 2, 44, 0), (44, .ishr, 1, 45, 0), (45, .iconst 1, 1, 46, 0), (46, .iand, 1, 47, 0), (47, .iconst 1, 1, 48, 0), (48, .if_icmp .ne 12, 3, 51, 60), (51, .aload_n 0, 1, 52, 0), (52, .iconst 4, 1, 53, 0), (53, .aload_n 0, 1, 54, 0), (54, .getfield 48, 3, 57, 0), (57, .invokevirtual 51, 3, 60, 0), (60, .aload_n 0, 1, 61, 0), (61, .getfield 34, 3, 64, 0), (64, .ifCond .ne 29, 3, 67, 93), (67, .iload_n 2, 1, 68, 0), (68, .iconst 1, 1, 69, 0), (69, .iload 5, 2, 71, 0), (71, .ishl, 1, 72, 0), (72, .ior, 1, 73, 0), (73, .istore_n 2, 1, 74, 0), (74, .iload_n 1, 1, 75, 0), (75, .iload 5, 2, 77, 0), (77, .iconst 1, 1, 78, 0), (78, .iadd, 1, 79, 0), (79, .iconst 3, 1, 80, 0), (80, .iload 4, 2, 82, 0), (82, .imul, 1, 83, 0), (83, .ishl, 1, 84, 0), (84, .ior, 1, 85, 0), (85, .istore_n 1, 1, 86, 0), (86, .aload_n 0, 1, 87, 0), (87, .bipush 44, 2, 89, 0), (89, .invokevirtual 78, 3, 92, 0), (92, .istore_n 3, 1, 93, 0), (93, .iinc 4 1, 3, 96, 0)]
def cd_X5_takeKeys_1 : List En := [(96, .goto (-87), 3, 99, 9), (99, .iload_n 1, 1, 100, 0), (100, .ireturn, 1, 101, 0)]
theorem E_X5_takeKeys_0 {e : En} (i : Nat) (h : nthq cd_X5_takeKeys_0 i = some e) : dok prog_7_method_8_code e := dok_at (by decide +kernel) i h
theorem E_X5_takeKeys_1 {e : En} (i : Nat) (h : nthq cd_X5_takeKeys_1 i = some e) : dok prog_7_method_8_code e := dok_at (by decide +kernel) i h
def cd_X5_keep_0 : List En := [(0, .aload_n 0, 1, 1, 0), (1, .getfield 34, 3, 4, 0), (4, .ifCond .eq 4, 3, 7, 8), (7, .return_, 1, 8, 0), (8, .aload_n 0, 1, 9, 0), (9, .bipush 59, 2, 11, 0), (11, .invokevirtual 78, 3, 14, 0), (14, .ifCond .ne 13, 3, 17, 27), (17, .aload_n 0, 1, 18, 0), (18, .iconst 1, 1, 19, 0), (19, .aload_n 0, 1, 20, 0), (20, .getfield 28, 3, 23, 0), (23, .invokevirtual 51, 3, 26, 0), (26, .return_, 1, 27, 0), (27, .aload_n 0, 1, 28, 0), (28, .getfield 15, 3, 31, 0), (31, .aload_n 0, 1, 32, 0), (32, .getfield 31, 3, 35, 0), (35, .iload_n 1, 1, 36, 0), (36, .iastore, 1, 37, 0), (37, .aload_n 0, 1, 38, 0), (38, .getfield 18, 3, 41, 0), (41, .aload_n 0, 1, 42, 0), (42, .getfield 31, 3, 45, 0), (45, .iload_n 2, 1, 46, 0), (46, .iastore, 1, 47, 0), (47, .aload_n 0, 1, 48, 0), (48, .dup, 1, 49, 0), (49, .getfield 31, 3, 52, 0), (52, .iconst 1, 1, 53, 0), (53, .iadd, 1, 54, 0), (54, .putfield 31, 3, 57, 0), (57, .return_, 1, 58, 0)]
theorem E_X5_keep_0 {e : En} (i : Nat) (h : nthq cd_X5_keep_0 i = some e) : dok prog_7_method_9_code e := dok_at (by decide +kernel) i h
def cd_X5_takeIf_0 : List En := [(0, .aload_n 0, 1, 1, 0), (1, .invokevirtual 37, 3, 4, 0), (4, .aload_n 0, 1, 5, 0), (5, .getfield 28, 3, 8, 0), (8, .aload_n 0, 1, 9, 0), (9, .getfield 25, 3, 12, 0), (12, .if_icmp .ge 28, 3, 15, 40), (15, .aload_n 0, 1, 16, 0), (16, .getfield 11, 3, 19, 0), (19, .aload_n 0, 1, 20, 0), (20, .getfield 28, 3, 23, 0), (23, .iaload, 1, 24, 0), (24, .iload_n 1, 1, 25, 0), (25, .if_icmp .ne 15, 3, 28, 40), (28, .aload_n 0, 1, 29, 0), (29, .dup, 1, 30, 0), (30, .getfield 28, 3, 33, 0), (33, .iconst 1, 1, 34, 0), (34, .iadd, 1, 35, 0), (35, .putfield 28, 3, 38, 0), (38, .iconst 1, 1, 39, 0), (39, .ireturn, 1, 40, 0), (40, .iconst 0, 1, 41, 0), (41, .ireturn, 1, 42, 0)]
theorem E_X5_takeIf_0 {e : En} (i : Nat) (h : nthq cd_X5_takeIf_0 i = some e) : dok prog_7_method_10_code e := dok_at (by decide +kernel) i h
def cd_X5_takeWord_0 : List En := [(0, .aload_n 0, 1, 1, 0), (1, .invokevirtual 37, 3, 4, 0), (4, .aload_n 0, 1, 5, 0), (5, .aload_n 0, 1, 6, 0), (6, .getfield 28, 3, 9, 0), (9, .putfield 48, 3, 12, 0), (12, .aload_n 0, 1, 13, 0), (13, .getfield 28, 3, 16, 0), (16, .istore_n 3, 1, 17, 0), (17, .iload_n 3, 1, 18, 0), (18, .aload_n 0, 1, 19, 0), (19, .getfield 25, 3, 22, 0), (22, .if_icmp .ge 31, 3, 25, 53), (25, .aload_n 0, 1, 26, 0), (26, .getfield 11, 3, 29, 0), (29, .iload_n 3, 1, 30, 0), (30, .iaload, 1, 31, 0), (31, .bipush 97, 2, 33, 0), (33, .if_icmp .lt 20, 3, 36, 53), (36, .aload_n 0, 1, 37, 0), (37, .getfield 11, 3, 40, 0), (40, .iload_n 3, 1, 41, 0), (41, .iaload, 1, 42, 0), (42, .bipush 122, 2, 44, 0), (44, .if_icmp .gt 9, 3, 47, 53), (47, .iinc 3 1, 3, 50, 0), (50, .goto (-33), 3, 53, 17), (53, .iload_n 1, 1, 54, 0), (54, .istore 4, 2, 56, 0), (56, .iload 4, 2, 58, 0), (58, .iload_n 2, 1, 59, 0), (59, .if_icmp .gt 32, 3, 62, 91), (62, .aload_n 0, 1, 63, 0), (63, .iload 4, 2, 65, 0), (65, .invokestatic 82, 3, 68, 0), (68, .iload_n 3, 1, 69, 0), (69, .invokevirtual 86, 3, 72, 0), (72, .ifCond .eq 13, 3, 75, 85), (75, .aload_n 0, 1, 76, 0), (76, .iload_n 3, 1, 77, 0), (77, .putfield 28, 3, 80, 0), (80, .iload 4, 2, 82, 0), (82, .iload_n 1, 1, 83, 0), (83, .isub, 1, 84, 0), (84, .ireturn, 1, 85, 0), (85, .iinc 4 1, 3, 88, 0), (88, .goto (-32), 3, 91, 56), (91, .aload_n 0, 1, 92, 0), (92, .iconst 1, 1, 93, 0), (93, .aload_n 0, 1, 94, 0), (94, .getfield 28, 3, 97, 0), (97, .invokevirtual 51, 3, 100, 0), (100, .iconst (-1), 1, 101, 0), (101, .ireturn, 1, 102, 0)]
theorem E_X5_takeWord_0 {e : En} (i : Nat) (h : nthq cd_X5_takeWord_0 i = some e) : dok prog_7_method_11_code e := dok_at (by decide +kernel) i h
def cd_X5_isSpelled_0 : List En := [(0, .aload_n 1, 1, 1, 0), (1, .invokevirtual 90, 3, 4, 0), (4, .iload_n 2, 1, 5, 0), (5, .aload_n 0, 1, 6, 0), (6, .getfield 28, 3, 9, 0), (9, .isub, 1, 10, 0), (10, .if_icmp .eq 5, 3, 13, 15), (13, .iconst 0, 1, 14, 0), (14, .ireturn, 1, 15, 0), (15, .iconst 0, 1, 16, 0), (16, .istore_n 3, 1, 17, 0), (17, .iload_n 3, 1, 18, 0), (18, .aload_n 1, 1, 19, 0), (19, .invokevirtual 90, 3, 22, 0), (22, .if_icmp .ge 30, 3, 25, 52), (25, .aload_n 1, 1, 26, 0), (26, .iload_n 3, 1, 27, 0), (27, .invokevirtual 94, 3, 30, 0), (30, .aload_n 0, 1, 31, 0), (31, .getfield 11, 3, 34, 0), (34, .aload_n 0, 1, 35, 0), (35, .getfield 28, 3, 38, 0), (38, .iload_n 3, 1, 39, 0), (39, .iadd, 1, 40, 0), (40, .iaload, 1, 41, 0), (41, .if_icmp .eq 5, 3, 44, 46), (44, .iconst 0, 1, 45, 0), (45, .ireturn, 1, 46, 0), (46, .iinc 3 1, 3, 49, 0), (49, .goto (-32), 3, 52, 17), (52, .iconst 1, 1, 53, 0), (53, .ireturn, 1, 54, 0)]
theorem E_X5_isSpelled_0 {e : En} (i : Nat) (h : nthq cd_X5_isSpelled_0 i = some e) : dok prog_7_method_12_code e := dok_at (by decide +kernel) i h
def cd_X5_takeNumber_0 : List En := [(0, .aload_n 0, 1, 1, 0), (1, .invokevirtual 37, 3, 4, 0), (4, .aload_n 0, 1, 5, 0), (5, .aload_n 0, 1, 6, 0), (6, .getfield 28, 3, 9, 0), (9, .putfield 48, 3, 12, 0), (12, .aload_n 0, 1, 13, 0), (13, .getfield 28, 3, 16, 0), (16, .istore_n 2, 1, 17, 0), (17, .iconst 0, 1, 18, 0), (18, .istore_n 3, 1, 19, 0), (19, .iload_n 2, 1, 20, 0), (20, .aload_n 0, 1, 21, 0), (21, .getfield 25, 3, 24, 0), (24, .if_icmp .ge 56, 3, 27, 80), (27, .aload_n 0, 1, 28, 0), (28, .getfield 11, 3, 31, 0), (31, .iload_n 2, 1, 32, 0), (32, .iaload, 1, 33, 0), (33, .bipush 48, 2, 35, 0), (35, .if_icmp .lt 45, 3, 38, 80), (38, .aload_n 0, 1, 39, 0), (39, .getfield 11, 3, 42, 0), (42, .iload_n 2, 1, 43, 0), (43, .iaload, 1, 44, 0), (44, .bipush 57, 2, 46, 0), (46, .if_icmp .gt 34, 3, 49, 80), (49, .iload_n 2, 1, 50, 0), (50, .aload_n 0, 1, 51, 0), (51, .getfield 48, 3, 54, 0), (54, .isub, 1, 55, 0), (55, .iconst 4, 1, 56, 0), (56, .if_icmp .ge 18, 3, 59, 74), (59, .iload_n 3, 1, 60, 0), (60, .bipush 10, 2, 62, 0), (62, .imul, 1, 63, 0), (63, .aload_n 0, 1, 64, 0), (64, .getfield 11, 3, 67, 0), (67, .iload_n 2, 1, 68, 0), (68, .iaload, 1, 69, 0), (69, .iadd, 1, 70, 0), (70, .bipush 48, 2, 72, 0), (72, .isub, 1, 73, 0), (73, .istore_n 3, 1, 74, 0), (74, .iinc 2 1, 3, 77, 0), (77, .goto (-58), 3, 80, 19), (80, .iload_n 2, 1, 81, 0), (81, .aload_n 0, 1, 82, 0), (82, .getfield 48, 3, 85, 0), (85, .if_icmp .ne 15, 3, 88, 100), (88, .aload_n 0, 1, 89, 0), (89, .iconst 1, 1, 90, 0), (90, .aload_n 0, 1, 91, 0), (91, .getfield 48, 3, 94, 0), (94, .invokevirtual 51, 3, 97, 0), (97, .goto 27, 3, 100, 124), (100, .iload_n 2, 1, 101, 0), (101, .aload_n 0, 1, 102, 0), (102, .getfield 48, 3, 105, 0), (105, .isub, 1, 106, 0)]
def cd_X5_takeNumber_1 : List En := [(106, .iconst 4, 1, 107, 0), (107, .if_icmp .gt 8, 3, 110, 115), (110, .iload_n 3, 1, 111, 0), (111, .iload_n 1, 1, 112, 0), (112, .if_icmp .le 12, 3, 115, 124), (115, .aload_n 0, 1, 116, 0), (116, .iconst 2, 1, 117, 0), (117, .aload_n 0, 1, 118, 0), (118, .getfield 48, 3, 121, 0), (121, .invokevirtual 51, 3, 124, 0), (124, .aload_n 0, 1, 125, 0), (125, .iload_n 2, 1, 126, 0), (126, .putfield 28, 3, 129, 0), (129, .iload_n 3, 1, 130, 0), (130, .ireturn, 1, 131, 0)]
theorem E_X5_takeNumber_0 {e : En} (i : Nat) (h : nthq cd_X5_takeNumber_0 i = some e) : dok prog_7_method_13_code e := dok_at (by decide +kernel) i h
theorem E_X5_takeNumber_1 {e : En} (i : Nat) (h : nthq cd_X5_takeNumber_1 i = some e) : dok prog_7_method_13_code e := dok_at (by decide +kernel) i h
def cd_X5_skipBlanks_0 : List En := [(0, .aload_n 0, 1, 1, 0), (1, .getfield 28, 3, 4, 0), (4, .aload_n 0, 1, 5, 0), (5, .getfield 25, 3, 8, 0), (8, .if_icmp .ge 30, 3, 11, 38), (11, .aload_n 0, 1, 12, 0), (12, .getfield 11, 3, 15, 0), (15, .aload_n 0, 1, 16, 0), (16, .getfield 28, 3, 19, 0), (19, .iaload, 1, 20, 0), (20, .bipush 32, 2, 22, 0), (22, .if_icmp .ne 16, 3, 25, 38), (25, .aload_n 0, 1, 26, 0), (26, .dup, 1, 27, 0), (27, .getfield 28, 3, 30, 0), (30, .iconst 1, 1, 31, 0), (31, .iadd, 1, 32, 0), (32, .putfield 28, 3, 35, 0), (35, .goto (-35), 3, 38, 0), (38, .return_, 1, 39, 0)]
theorem E_X5_skipBlanks_0 {e : En} (i : Nat) (h : nthq cd_X5_skipBlanks_0 i = some e) : dok prog_7_method_14_code e := dok_at (by decide +kernel) i h
def cd_X5_fail_0 : List En := [(0, .aload_n 0, 1, 1, 0), (1, .iload_n 1, 1, 2, 0), (2, .putfield 34, 3, 5, 0), (5, .aload_n 0, 1, 6, 0), (6, .iload_n 2, 1, 7, 0), (7, .putfield 21, 3, 10, 0), (10, .return_, 1, 11, 0)]
theorem E_X5_fail_0 {e : En} (i : Nat) (h : nthq cd_X5_fail_0 i = some e) : dok prog_7_method_15_code e := dok_at (by decide +kernel) i h
def cd_X5_spelling_0 : List En := [(0, .iload_n 0, 1, 1, 0), (1, .tableswitch 106 0 12 #[67, 70, 73, 76, 79, 82, 85, 88, 91, 94, 97, 100, 103], 67, 68, 0), (68, .ldc 98, 2, 70, 0), (70, .areturn, 1, 71, 0), (71, .ldc 100, 2, 73, 0), (73, .areturn, 1, 74, 0), (74, .ldc 102, 2, 76, 0), (76, .areturn, 1, 77, 0), (77, .ldc 104, 2, 79, 0), (79, .areturn, 1, 80, 0), (80, .ldc 106, 2, 82, 0), (82, .areturn, 1, 83, 0), (83, .ldc 98, 2, 85, 0), (85, .areturn, 1, 86, 0), (86, .ldc 108, 2, 88, 0), (88, .areturn, 1, 89, 0), (89, .ldc 110, 2, 91, 0), (91, .areturn, 1, 92, 0), (92, .ldc 112, 2, 94, 0), (94, .areturn, 1, 95, 0), (95, .ldc 114, 2, 97, 0), (97, .areturn, 1, 98, 0), (98, .ldc 116, 2, 100, 0), (100, .areturn, 1, 101, 0), (101, .ldc 118, 2, 103, 0), (103, .areturn, 1, 104, 0), (104, .ldc 120, 2, 106, 0), (106, .areturn, 1, 107, 0), (107, .ldc 122, 2, 109, 0), (109, .areturn, 1, 110, 0)]
theorem E_X5_spelling_0 {e : En} (i : Nat) (h : nthq cd_X5_spelling_0 i = some e) : dok prog_7_method_16_code e := dok_at (by decide +kernel) i h
def cd_X6_init_0 : List En := [(0, .aload_n 0, 1, 1, 0), (1, .invokespecial 3, 3, 4, 0), (4, .aload_n 0, 1, 5, 0), (5, .bipush 24, 2, 7, 0), (7, .newarray .int, 2, 9, 0), (9, .putfield 11, 3, 12, 0), (12, .aload_n 0, 1, 13, 0), (13, .bipush 24, 2, 15, 0), (15, .newarray .int, 2, 17, 0), (17, .putfield 15, 3, 20, 0), (20, .aload_n 0, 1, 21, 0), (21, .bipush 24, 2, 23, 0), (23, .newarray .int, 2, 25, 0), (25, .putfield 18, 3, 28, 0), (28, .aload_n 0, 1, 29, 0), (29, .bipush 24, 2, 31, 0), (31, .newarray .int, 2, 33, 0), (33, .putfield 21, 3, 36, 0), (36, .aload_n 0, 1, 37, 0), (37, .bipush 8, 2, 39, 0), (39, .newarray .int, 2, 41, 0), (41, .putfield 24, 3, 44, 0), (44, .aload_n 0, 1, 45, 0), (45, .sipush 256, 3, 48, 0), (48, .newarray .int, 2, 50, 0), (50, .putfield 27, 3, 53, 0), (53, .aload_n 0, 1, 54, 0), (54, .sipush 256, 3, 57, 0), (57, .newarray .int, 2, 59, 0), (59, .putfield 30, 3, 62, 0), (62, .return_, 1, 63, 0)]
theorem E_X6_init_0 {e : En} (i : Nat) (h : nthq cd_X6_init_0 i = some e) : dok prog_8_method_1_code e := dok_at (by decide +kernel) i h
def cd_X6_add_0 : List En := [(0, .aload_n 0, 1, 1, 0), (1, .getfield 11, 3, 4, 0), (4, .aload_n 0, 1, 5, 0), (5, .getfield 33, 3, 8, 0), (8, .iload_n 1, 1, 9, 0), (9, .iastore, 1, 10, 0), (10, .aload_n 0, 1, 11, 0), (11, .getfield 15, 3, 14, 0), (14, .aload_n 0, 1, 15, 0), (15, .getfield 33, 3, 18, 0), (18, .iload_n 2, 1, 19, 0), (19, .iastore, 1, 20, 0), (20, .aload_n 0, 1, 21, 0), (21, .getfield 18, 3, 24, 0), (24, .aload_n 0, 1, 25, 0), (25, .getfield 33, 3, 28, 0), (28, .iload_n 3, 1, 29, 0), (29, .iastore, 1, 30, 0), (30, .aload_n 0, 1, 31, 0), (31, .getfield 21, 3, 34, 0), (34, .aload_n 0, 1, 35, 0), (35, .getfield 33, 3, 38, 0), (38, .iload 4, 2, 40, 0), (40, .iastore, 1, 41, 0), (41, .aload_n 0, 1, 42, 0), (42, .dup, 1, 43, 0), (43, .getfield 33, 3, 46, 0), (46, .iconst 1, 1, 47, 0), (47, .iadd, 1, 48, 0), (48, .putfield 33, 3, 51, 0), (51, .aload_n 0, 1, 52, 0), (52, .getfield 33, 3, 55, 0), (55, .ireturn, 1, 56, 0)]
theorem E_X6_add_0 {e : En} (i : Nat) (h : nthq cd_X6_add_0 i = some e) : dok prog_8_method_2_code e := dok_at (by decide +kernel) i h
def cd_X6_netOf_0 : List En := [(0, .iconst 0, 1, 1, 0), (1, .istore_n 3, 1, 2, 0), (2, .iconst 0, 1, 3, 0), (3, .istore 4, 2, 5, 0), (5, .iload 4, 2, 7, 0), (7, .aload_n 0, 1, 8, 0), (8, .getfield 33, 3, 11, 0), (11, .if_icmp .ge 70, 3, 14, 81), (14, .aload_n 0, 1, 15, 0), (15, .getfield 18, 3, 18, 0), (18, .iload 4, 2, 20, 0), (20, .iaload, 1, 21, 0), (21, .iload_n 2, 1, 22, 0), (22, .if_icmp .ne 53, 3, 25, 75), (25, .iload_n 3, 1, 26, 0), (26, .aload_n 0, 1, 27, 0), (27, .getfield 15, 3, 30, 0), (30, .iload 4, 2, 32, 0), (32, .iaload, 1, 33, 0), (33, .iload_n 1, 1, 34, 0), (34, .if_icmp .ne 13, 3, 37, 47), (37, .aload_n 0, 1, 38, 0), (38, .getfield 21, 3, 41, 0), (41, .iload 4, 2, 43, 0), (43, .iaload, 1, 44, 0), (44, .goto 4, 3, 47, 48), (47, .iconst 0, 1, 48, 0), (48, .iadd, 1, 49, 0), (49, .istore_n 3, 1, 50, 0), (50, .iload_n 3, 1, 51, 0), (51, .aload_n 0, 1, 52, 0), (52, .getfield 11, 3, 55, 0), (55, .iload 4, 2, 57, 0), (57, .iaload, 1, 58, 0), (58, .iload_n 1, 1, 59, 0), (59, .if_icmp .ne 13, 3, 62, 72), (62, .aload_n 0, 1, 63, 0), (63, .getfield 21, 3, 66, 0), (66, .iload 4, 2, 68, 0), (68, .iaload, 1, 69, 0), (69, .goto 4, 3, 72, 73), (72, .iconst 0, 1, 73, 0), (73, .isub, 1, 74, 0), (74, .istore_n 3, 1, 75, 0), (75, .iinc 4 1, 3, 78, 0), (78, .goto (-73), 3, 81, 5), (81, .iload_n 3, 1, 82, 0), (82, .ireturn, 1, 83, 0)]
theorem E_X6_netOf_0 {e : En} (i : Nat) (h : nthq cd_X6_netOf_0 i = some e) : dok prog_8_method_3_code e := dok_at (by decide +kernel) i h
def cd_X6_fewestHandings_0 : List En := [(0, .iconst 0, 1, 1, 0), (1, .istore_n 2, 1, 2, 0), (2, .iconst 0, 1, 3, 0), (3, .istore_n 3, 1, 4, 0), (4, .iload_n 3, 1, 5, 0), (5, .bipush 8, 2, 7, 0), (7, .if_icmp .ge 33, 3, 10, 40), (10, .aload_n 0, 1, 11, 0), (11, .iload_n 3, 1, 12, 0), (12, .iload_n 1, 1, 13, 0), (13, .invokevirtual 37, 3, 16, 0), (16, .istore 4, 2, 18, 0), (18, .iload 4, 2, 20, 0), (20, .ifCond .eq 14, 3, 23, 34), (23, .aload_n 0, 1, 24, 0), (24, .getfield 24, 3, 27, 0), (27, .iload_n 2, 1, 28, 0), (28, .iload 4, 2, 30, 0), (30, .iastore, 1, 31, 0), (31, .iinc 2 1, 3, 34, 0), (34, .iinc 3 1, 3, 37, 0), (37, .goto (-33), 3, 40, 4), (40, .iload_n 2, 1, 41, 0), (41, .aload_n 0, 1, 42, 0), (42, .iload_n 2, 1, 43, 0), (43, .invokevirtual 41, 3, 46, 0), (46, .isub, 1, 47, 0), (47, .ireturn, 1, 48, 0)]
theorem E_X6_fewestHandings_0 {e : En} (i : Nat) (h : nthq cd_X6_fewestHandings_0 i = some e) : dok prog_8_method_4_code e := dok_at (by decide +kernel) i h
def cd_X6_mostGroups_0 : List En := [(0, .iconst 1, 1, 1, 0), (1, .iload_n 1, 1, 2, 0), (2, .ishl, 1, 3, 0), (3, .istore_n 2, 1, 4, 0), (4, .aload_n 0, 1, 5, 0), (5, .getfield 27, 3, 8, 0), (8, .iconst 0, 1, 9, 0), (9, .iconst 0, 1, 10, 0), (10, .iastore, 1, 11, 0), (11, .aload_n 0, 1, 12, 0), (12, .getfield 30, 3, 15, 0), (15, .iconst 0, 1, 16, 0), (16, .iconst 0, 1, 17, 0), (17, .iastore, 1, 18, 0), (18, .iconst 1, 1, 19, 0), (19, .istore_n 3, 1, 20, 0), (20, .iload_n 3, 1, 21, 0), (21, .iload_n 2, 1, 22, 0), (22, .if_icmp .ge 106, 3, 25, 128), (25, .iconst 0, 1, 26, 0), (26, .istore 4, 2, 28, 0), (28, .iconst 0, 1, 29, 0), (29, .istore 5, 2, 31, 0), (31, .iconst 0, 1, 32, 0), (32, .istore 6, 2, 34, 0), (34, .iload 6, 2, 36, 0), (36, .iload_n 1, 1, 37, 0), (37, .if_icmp .ge 58, 3, 40, 95), (40, .iload_n 3, 1, 41, 0), (41, .iload 6, 2, 43, 0), (43, .ishr, 1, 44, 0), (44, .iconst 1, 1, 45, 0), (45, .iand, 1, 46, 0), (46, .iconst 1, 1, 47, 0), (47, .if_icmp .ne 42, 3, 50, 89), (50, .aload_n 0, 1, 51, 0), (51, .getfield 27, 3, 54, 0), (54, .iload_n 3, 1, 55, 0), (55, .iconst 1, 1, 56, 0), (56, .iload 6, 2, 58, 0), (58, .ishl, 1, 59, 0), (59, .ixor, 1, 60, 0), (60, .iaload, 1, 61, 0), (61, .aload_n 0, 1, 62, 0), (62, .getfield 24, 3, 65, 0), (65, .iload 6, 2, 67, 0), (67, .iaload, 1, 68, 0), (68, .iadd, 1, 69, 0), (69, .istore 5, 2, 71, 0), (71, .iload 4, 2, 73, 0), (73, .aload_n 0, 1, 74, 0), (74, .getfield 30, 3, 77, 0), (77, .iload_n 3, 1, 78, 0), (78, .iconst 1, 1, 79, 0), (79, .iload 6, 2, 81, 0), (81, .ishl, 1, 82, 0), (82, .ixor, 1, 83, 0), (83, .iaload, 1, 84, 0), (84, .invokestatic 45, 3, 87, 0), (87, .istore 4, 2, 89, 0)]
def cd_X6_mostGroups_1 : List En := [(89, .iinc 6 1, 3, 92, 0), (92, .goto (-58), 3, 95, 34), (95, .aload_n 0, 1, 96, 0), (96, .getfield 27, 3, 99, 0), (99, .iload_n 3, 1, 100, 0), (100, .iload 5, 2, 102, 0), (102, .iastore, 1, 103, 0), (103, .aload_n 0, 1, 104, 0), (104, .getfield 30, 3, 107, 0), (107, .iload_n 3, 1, 108, 0), (108, .iload 4, 2, 110, 0), (110, .iload 5, 2, 112, 0), (112, .ifCond .ne 7, 3, 115, 119), (115, .iconst 1, 1, 116, 0), (116, .goto 4, 3, 119, 120), (119, .iconst 0, 1, 120, 0), (120, .iadd, 1, 121, 0), (121, .iastore, 1, 122, 0), (122, .iinc 3 1, 3, 125, 0), (125, .goto (-105), 3, 128, 20), (128, .aload_n 0, 1, 129, 0), (129, .getfield 30, 3, 132, 0), (132, .iload_n 2, 1, 133, 0), (133, .iconst 1, 1, 134, 0), (134, .isub, 1, 135, 0), (135, .iaload, 1, 136, 0), (136, .ireturn, 1, 137, 0)]
theorem E_X6_mostGroups_0 {e : En} (i : Nat) (h : nthq cd_X6_mostGroups_0 i = some e) : dok prog_8_method_5_code e := dok_at (by decide +kernel) i h
theorem E_X6_mostGroups_1 {e : En} (i : Nat) (h : nthq cd_X6_mostGroups_1 i = some e) : dok prog_8_method_5_code e := dok_at (by decide +kernel) i h
def cd_X7_init_0 : List En := [(0, .aload_n 0, 1, 1, 0), (1, .invokespecial 3, 3, 4, 0), (4, .aload_n 0, 1, 5, 0), (5, .bipush 120, 2, 7, 0), (7, .newarray .boolean, 2, 9, 0), (9, .putfield 9, 3, 12, 0), (12, .aload_n 0, 1, 13, 0), (13, .bipush 120, 2, 15, 0), (15, .newarray .boolean, 2, 17, 0), (17, .putfield 15, 3, 20, 0), (20, .aload_n 0, 1, 21, 0), (21, .bipush 120, 2, 23, 0), (23, .newarray .int, 2, 25, 0), (25, .putfield 18, 3, 28, 0), (28, .aload_n 0, 1, 29, 0), (29, .bipush 120, 2, 31, 0), (31, .newarray .int, 2, 33, 0), (33, .putfield 22, 3, 36, 0), (36, .aload_n 0, 1, 37, 0), (37, .bipush 120, 2, 39, 0), (39, .newarray .int, 2, 41, 0), (41, .putfield 25, 3, 44, 0), (44, .aload_n 0, 1, 45, 0), (45, .bipush 120, 2, 47, 0), (47, .newarray .int, 2, 49, 0), (49, .putfield 28, 3, 52, 0), (52, .aload_n 0, 1, 53, 0), (53, .bipush 120, 2, 55, 0), (55, .newarray .int, 2, 57, 0), (57, .putfield 31, 3, 60, 0), (60, .aload_n 0, 1, 61, 0), (61, .bipush 120, 2, 63, 0), (63, .newarray .int, 2, 65, 0), (65, .putfield 34, 3, 68, 0), (68, .aload_n 0, 1, 69, 0), (69, .bipush 120, 2, 71, 0), (71, .newarray .int, 2, 73, 0), (73, .putfield 37, 3, 76, 0), (76, .aload_n 0, 1, 77, 0), (77, .bipush 12, 2, 79, 0), (79, .newarray .int, 2, 81, 0), (81, .putfield 40, 3, 84, 0), (84, .aload_n 0, 1, 85, 0), (85, .bipush 12, 2, 87, 0), (87, .newarray .int, 2, 89, 0), (89, .putfield 43, 3, 92, 0), (92, .aload_n 0, 1, 93, 0), (93, .bipush 12, 2, 95, 0), (95, .newarray .int, 2, 97, 0), (97, .putfield 46, 3, 100, 0), (100, .aload_n 0, 1, 101, 0), (101, .aload_n 1, 1, 102, 0), (102, .putfield 49, 3, 105, 0), (105, .aload_n 0, 1, 106, 0), (106, .aload_n 2, 1, 107, 0), (107, .putfield 53, 3, 110, 0), (110, .aload_n 0, 1, 111, 0), (111, .aload_n 3, 1, 112, 0), (112, .putfield 57, 3, 115, 0), (115, .return_, 1, 116, 0)]
theorem E_X7_init_0 {e : En} (i : Nat) (h : nthq cd_X7_init_0 i = some e) : dok prog_9_method_1_code e := dok_at (by decide +kernel) i h
def cd_X7_tell_0 : List En := [(0, .aload_n 0, 1, 1, 0), (1, .invokevirtual 61, 3, 4, 0), (4, .aload_n 0, 1, 5, 0), (5, .getfield 53, 3, 8, 0), (8, .iload_n 2, 1, 9, 0), (9, .invokevirtual 64, 3, 12, 0), (12, .iconst 0, 1, 13, 0), (13, .istore_n 3, 1, 14, 0), (14, .iload_n 3, 1, 15, 0), (15, .aload_n 0, 1, 16, 0), (16, .getfield 53, 3, 19, 0), (19, .getfield 70, 3, 22, 0), (22, .if_icmp .ge 67, 3, 25, 89), (25, .aload_n 0, 1, 26, 0), (26, .getfield 53, 3, 29, 0), (29, .getfield 74, 3, 32, 0), (32, .iload_n 3, 1, 33, 0), (33, .iaload, 1, 34, 0), (34, .istore 4, 2, 36, 0), (36, .aload_n 0, 1, 37, 0), (37, .getfield 53, 3, 40, 0), (40, .iload 4, 2, 42, 0), (42, .invokevirtual 77, 3, 45, 0), (45, .ifCond .eq 38, 3, 48, 83), (48, .aload_n 0, 1, 49, 0), (49, .getfield 53, 3, 52, 0), (52, .getfield 81, 3, 55, 0), (55, .iload 4, 2, 57, 0), (57, .iaload, 1, 58, 0), (58, .iload_n 1, 1, 59, 0), (59, .if_icmp .gt 24, 3, 62, 83), (62, .aload_n 0, 1, 63, 0), (63, .getfield 15, 3, 66, 0), (66, .iload 4, 2, 68, 0), (68, .aload_n 0, 1, 69, 0), (69, .iload 4, 2, 71, 0), (71, .invokevirtual 84, 3, 74, 0), (74, .ifCond .ne 7, 3, 77, 81), (77, .iconst 1, 1, 78, 0), (78, .goto 4, 3, 81, 82), (81, .iconst 0, 1, 82, 0), (82, .bastore, 1, 83, 0), (83, .iinc 3 1, 3, 86, 0), (86, .goto (-72), 3, 89, 14), (89, .return_, 1, 90, 0)]
theorem E_X7_tell_0 {e : En} (i : Nat) (h : nthq cd_X7_tell_0 i = some e) : dok prog_9_method_2_code e := dok_at (by decide +kernel) i h
def cd_X7_clear_0 : List En := [(0, .iconst 0, 1, 1, 0), (1, .istore_n 1, 1, 2, 0), (2, .iload_n 1, 1, 3, 0), (3, .aload_n 0, 1, 4, 0), (4, .getfield 53, 3, 7, 0), (7, .getfield 70, 3, 10, 0), (10, .if_icmp .ge 23, 3, 13, 33), (13, .aload_n 0, 1, 14, 0), (14, .getfield 9, 3, 17, 0), (17, .iload_n 1, 1, 18, 0), (18, .iconst 0, 1, 19, 0), (19, .bastore, 1, 20, 0), (20, .aload_n 0, 1, 21, 0), (21, .getfield 15, 3, 24, 0), (24, .iload_n 1, 1, 25, 0), (25, .iconst 0, 1, 26, 0), (26, .bastore, 1, 27, 0), (27, .iinc 1 1, 3, 30, 0), (30, .goto (-28), 3, 33, 2), (33, .iconst 0, 1, 34, 0), (34, .istore_n 1, 1, 35, 0), (35, .iload_n 1, 1, 36, 0), (36, .aload_n 0, 1, 37, 0), (37, .getfield 49, 3, 40, 0), (40, .getfield 87, 3, 43, 0), (43, .if_icmp .ge 30, 3, 46, 73), (46, .aload_n 0, 1, 47, 0), (47, .getfield 40, 3, 50, 0), (50, .iload_n 1, 1, 51, 0), (51, .iconst 0, 1, 52, 0), (52, .iastore, 1, 53, 0), (53, .aload_n 0, 1, 54, 0), (54, .getfield 43, 3, 57, 0), (57, .iload_n 1, 1, 58, 0), (58, .iconst 0, 1, 59, 0), (59, .iastore, 1, 60, 0), (60, .aload_n 0, 1, 61, 0), (61, .getfield 46, 3, 64, 0), (64, .iload_n 1, 1, 65, 0), (65, .iconst 0, 1, 66, 0), (66, .iastore, 1, 67, 0), (67, .iinc 1 1, 3, 70, 0), (70, .goto (-35), 3, 73, 35), (73, .aload_n 0, 1, 74, 0), (74, .iconst 0, 1, 75, 0), (75, .putfield 90, 3, 78, 0), (78, .return_, 1, 79, 0)]
theorem E_X7_clear_0 {e : En} (i : Nat) (h : nthq cd_X7_clear_0 i = some e) : dok prog_9_method_3_code e := dok_at (by decide +kernel) i h
def cd_X7_isDone_0 : List En := [(0, .aload_n 0, 1, 1, 0), (1, .getfield 53, 3, 4, 0), (4, .getfield 93, 3, 7, 0), (7, .iload_n 1, 1, 8, 0), (8, .iaload, 1, 9, 0), (9, .istore_n 2, 1, 10, 0), (10, .aload_n 0, 1, 11, 0), (11, .getfield 53, 3, 14, 0), (14, .getfield 96, 3, 17, 0), (17, .iload_n 1, 1, 18, 0), (18, .iaload, 1, 19, 0), (19, .istore_n 3, 1, 20, 0), (20, .iload_n 2, 1, 21, 0), (21, .ifCond .eq 19, 3, 24, 40), (24, .iload_n 2, 1, 25, 0), (25, .bipush 8, 2, 27, 0), (27, .if_icmp .eq 13, 3, 30, 40), (30, .iload_n 2, 1, 31, 0), (31, .bipush 10, 2, 33, 0), (33, .if_icmp .eq 7, 3, 36, 40), (36, .iconst 1, 1, 37, 0), (37, .goto 4, 3, 40, 41), (40, .iconst 0, 1, 41, 0), (41, .istore 4, 2, 43, 0), (43, .iload 4, 2, 45, 0), (45, .ifCond .eq 14, 3, 48, 59), (48, .aload_n 0, 1, 49, 0), (49, .getfield 9, 3, 52, 0), (52, .iload_n 3, 1, 53, 0), (53, .baload, 1, 54, 0), (54, .ifCond .ne 5, 3, 57, 59), (57, .iconst 0, 1, 58, 0), (58, .ireturn, 1, 59, 0), (59, .iload_n 2, 1, 60, 0), (60, .tableswitch 124 0 9 #[56, 63, 70, 77, 84, 90, 97, 103, 110, 117], 56, 116, 0), (116, .aload_n 0, 1, 117, 0), (117, .iload_n 3, 1, 118, 0), (118, .iload_n 1, 1, 119, 0), (119, .invokevirtual 99, 3, 122, 0), (122, .ireturn, 1, 123, 0), (123, .aload_n 0, 1, 124, 0), (124, .iload_n 3, 1, 125, 0), (125, .iload_n 1, 1, 126, 0), (126, .invokevirtual 103, 3, 129, 0), (129, .ireturn, 1, 130, 0), (130, .aload_n 0, 1, 131, 0), (131, .iload_n 3, 1, 132, 0), (132, .iload_n 1, 1, 133, 0), (133, .invokevirtual 106, 3, 136, 0), (136, .ireturn, 1, 137, 0), (137, .aload_n 0, 1, 138, 0), (138, .iload_n 3, 1, 139, 0), (139, .iload_n 1, 1, 140, 0), (140, .invokevirtual 109, 3, 143, 0), (143, .ireturn, 1, 144, 0), (144, .aload_n 0, 1, 145, 0), (145, .iload_n 3, 1, 146, 0), (146, .invokevirtual 112, 3, 149, 0), (149, .ireturn, 1, 150, 0), (150, .aload_n 0, 1, 151, 0)]
def cd_X7_isDone_1 : List En := [(151, .iload_n 3, 1, 152, 0), (152, .iload_n 1, 1, 153, 0), (153, .invokevirtual 115, 3, 156, 0), (156, .ireturn, 1, 157, 0), (157, .aload_n 0, 1, 158, 0), (158, .iload_n 3, 1, 159, 0), (159, .invokevirtual 118, 3, 162, 0), (162, .ireturn, 1, 163, 0), (163, .aload_n 0, 1, 164, 0), (164, .iload_n 3, 1, 165, 0), (165, .iload_n 1, 1, 166, 0), (166, .invokevirtual 121, 3, 169, 0), (169, .ireturn, 1, 170, 0), (170, .aload_n 0, 1, 171, 0), (171, .iload_n 3, 1, 172, 0), (172, .iload_n 1, 1, 173, 0), (173, .invokevirtual 124, 3, 176, 0), (176, .ireturn, 1, 177, 0), (177, .aload_n 0, 1, 178, 0), (178, .iload_n 3, 1, 179, 0), (179, .iload_n 1, 1, 180, 0), (180, .invokevirtual 127, 3, 183, 0), (183, .ireturn, 1, 184, 0), (184, .iconst 1, 1, 185, 0), (185, .ireturn, 1, 186, 0)]
theorem E_X7_isDone_0 {e : En} (i : Nat) (h : nthq cd_X7_isDone_0 i = some e) : dok prog_9_method_4_code e := dok_at (by decide +kernel) i h
theorem E_X7_isDone_1 {e : En} (i : Nat) (h : nthq cd_X7_isDone_1 i = some e) : dok prog_9_method_4_code e := dok_at (by decide +kernel) i h
def cd_X7_issue_0 : List En := [(0, .aload_n 0, 1, 1, 0), (1, .iload_n 2, 1, 2, 0), (2, .iload_n 1, 1, 3, 0), (3, .aload_n 0, 1, 4, 0), (4, .getfield 53, 3, 7, 0), (7, .getfield 130, 3, 10, 0), (10, .iload_n 2, 1, 11, 0), (11, .iaload, 1, 12, 0), (12, .aload_n 0, 1, 13, 0), (13, .getfield 53, 3, 16, 0), (16, .getfield 133, 3, 19, 0), (19, .iload_n 2, 1, 20, 0), (20, .iaload, 1, 21, 0), (21, .aload_n 0, 1, 22, 0), (22, .getfield 53, 3, 25, 0), (25, .getfield 133, 3, 28, 0), (28, .iload_n 2, 1, 29, 0), (29, .iaload, 1, 30, 0), (30, .invokevirtual 136, 3, 33, 0), (33, .aload_n 0, 1, 34, 0), (34, .getfield 46, 3, 37, 0), (37, .iload_n 1, 1, 38, 0), (38, .dup2, 1, 39, 0), (39, .iaload, 1, 40, 0), (40, .aload_n 0, 1, 41, 0), (41, .getfield 53, 3, 44, 0), (44, .getfield 130, 3, 47, 0), (47, .iload_n 2, 1, 48, 0), (48, .iaload, 1, 49, 0), (49, .iadd, 1, 50, 0), (50, .iastore, 1, 51, 0), (51, .aload_n 0, 1, 52, 0), (52, .iload_n 1, 1, 53, 0), (53, .invokevirtual 140, 3, 56, 0), (56, .ifCond .le 13, 3, 59, 69), (59, .aload_n 0, 1, 60, 0), (60, .dup, 1, 61, 0), (61, .getfield 90, 3, 64, 0), (64, .iconst 1, 1, 65, 0), (65, .iadd, 1, 66, 0), (66, .putfield 90, 3, 69, 0), (69, .iconst 1, 1, 70, 0), (70, .ireturn, 1, 71, 0)]
theorem E_X7_issue_0 {e : En} (i : Nat) (h : nthq cd_X7_issue_0 i = some e) : dok prog_9_method_5_code e := dok_at (by decide +kernel) i h
def cd_X7_make_0 : List En := [(0, .aload_n 0, 1, 1, 0), (1, .getfield 9, 3, 4, 0), (4, .iload_n 1, 1, 5, 0), (5, .iconst 1, 1, 6, 0), (6, .bastore, 1, 7, 0), (7, .aload_n 0, 1, 8, 0), (8, .getfield 18, 3, 11, 0), (11, .iload_n 1, 1, 12, 0), (12, .iload_n 2, 1, 13, 0), (13, .iastore, 1, 14, 0), (14, .aload_n 0, 1, 15, 0), (15, .getfield 22, 3, 18, 0), (18, .iload_n 1, 1, 19, 0), (19, .iload_n 3, 1, 20, 0), (20, .iastore, 1, 21, 0), (21, .aload_n 0, 1, 22, 0), (22, .getfield 25, 3, 25, 0), (25, .iload_n 1, 1, 26, 0), (26, .iload 4, 2, 28, 0), (28, .iastore, 1, 29, 0), (29, .aload_n 0, 1, 30, 0), (30, .getfield 28, 3, 33, 0), (33, .iload_n 1, 1, 34, 0), (34, .iload 5, 2, 36, 0), (36, .iastore, 1, 37, 0), (37, .aload_n 0, 1, 38, 0), (38, .getfield 31, 3, 41, 0), (41, .iload_n 1, 1, 42, 0), (42, .iconst (-1), 1, 43, 0), (43, .iastore, 1, 44, 0), (44, .aload_n 0, 1, 45, 0), (45, .getfield 34, 3, 48, 0), (48, .iload_n 1, 1, 49, 0), (49, .iconst 0, 1, 50, 0), (50, .iastore, 1, 51, 0), (51, .aload_n 0, 1, 52, 0), (52, .getfield 37, 3, 55, 0), (55, .iload_n 1, 1, 56, 0), (56, .iconst (-1), 1, 57, 0), (57, .iastore, 1, 58, 0), (58, .return_, 1, 59, 0)]
theorem E_X7_make_0 {e : En} (i : Nat) (h : nthq cd_X7_make_0 i = some e) : dok prog_9_method_6_code e := dok_at (by decide +kernel) i h
def cd_X7_burn_0 : List En := [(0, .aload_n 0, 1, 1, 0), (1, .getfield 53, 3, 4, 0), (4, .getfield 130, 3, 7, 0), (7, .iload_n 2, 1, 8, 0), (8, .iaload, 1, 9, 0), (9, .aload_n 0, 1, 10, 0), (10, .iload_n 1, 1, 11, 0), (11, .invokevirtual 144, 3, 14, 0), (14, .if_icmp .le 5, 3, 17, 19), (17, .iconst 0, 1, 18, 0), (18, .ireturn, 1, 19, 0), (19, .aload_n 0, 1, 20, 0), (20, .getfield 43, 3, 23, 0), (23, .iload_n 1, 1, 24, 0), (24, .dup2, 1, 25, 0), (25, .iaload, 1, 26, 0), (26, .aload_n 0, 1, 27, 0), (27, .getfield 53, 3, 30, 0), (30, .getfield 130, 3, 33, 0), (33, .iload_n 2, 1, 34, 0), (34, .iaload, 1, 35, 0), (35, .iadd, 1, 36, 0), (36, .iastore, 1, 37, 0), (37, .iconst 1, 1, 38, 0), (38, .ireturn, 1, 39, 0)]
theorem E_X7_burn_0 {e : En} (i : Nat) (h : nthq cd_X7_burn_0 i = some e) : dok prog_9_method_7_code e := dok_at (by decide +kernel) i h
def cd_X7_pass_0 : List En := [(0, .aload_n 0, 1, 1, 0), (1, .getfield 53, 3, 4, 0), (4, .getfield 147, 3, 7, 0), (7, .iload_n 2, 1, 8, 0), (8, .iaload, 1, 9, 0), (9, .istore_n 3, 1, 10, 0), (10, .aload_n 0, 1, 11, 0), (11, .getfield 53, 3, 14, 0), (14, .getfield 130, 3, 17, 0), (17, .iload_n 2, 1, 18, 0), (18, .iaload, 1, 19, 0), (19, .iconst 1, 1, 20, 0), (20, .if_icmp .ne 7, 3, 23, 27), (23, .iconst 1, 1, 24, 0), (24, .goto 4, 3, 27, 28), (27, .iconst 0, 1, 28, 0), (28, .istore 4, 2, 30, 0), (30, .aload_n 0, 1, 31, 0), (31, .getfield 53, 3, 34, 0), (34, .getfield 81, 3, 37, 0), (37, .iload_n 2, 1, 38, 0), (38, .iaload, 1, 39, 0), (39, .istore 5, 2, 41, 0), (41, .aload_n 0, 1, 42, 0), (42, .getfield 25, 3, 45, 0), (45, .iload_n 1, 1, 46, 0), (46, .iaload, 1, 47, 0), (47, .iload_n 3, 1, 48, 0), (48, .if_icmp .ne 27, 3, 51, 75), (51, .aload_n 0, 1, 52, 0), (52, .getfield 37, 3, 55, 0), (55, .iload_n 1, 1, 56, 0), (56, .iaload, 1, 57, 0), (57, .iconst (-1), 1, 58, 0), (58, .if_icmp .eq 19, 3, 61, 77), (61, .aload_n 0, 1, 62, 0), (62, .getfield 57, 3, 65, 0), (65, .iconst 2, 1, 66, 0), (66, .iload 5, 2, 68, 0), (68, .invokevirtual 150, 3, 71, 0), (71, .iconst 1, 1, 72, 0), (72, .if_icmp .ne 5, 3, 75, 77), (75, .iconst 0, 1, 76, 0), (76, .ireturn, 1, 77, 0), (77, .aload_n 0, 1, 78, 0), (78, .getfield 28, 3, 81, 0), (81, .iload_n 1, 1, 82, 0), (82, .iaload, 1, 83, 0), (83, .iload_n 3, 1, 84, 0), (84, .if_icmp .eq 22, 3, 87, 106), (87, .iload 4, 2, 89, 0), (89, .ifCond .eq 32, 3, 92, 121), (92, .aload_n 0, 1, 93, 0), (93, .getfield 57, 3, 96, 0), (96, .iconst 1, 1, 97, 0), (97, .iload 5, 2, 99, 0), (99, .invokevirtual 150, 3, 102, 0), (102, .iconst 1, 1, 103, 0), (103, .if_icmp .ne 18, 3, 106, 121), (106, .aload_n 0, 1, 107, 0)]
def cd_X7_pass_1 : List En := [(107, .getfield 28, 3, 110, 0), (110, .iload_n 1, 1, 111, 0), (111, .aload_n 0, 1, 112, 0), (112, .getfield 53, 3, 115, 0), (115, .getfield 133, 3, 118, 0), (118, .iload_n 2, 1, 119, 0), (119, .iaload, 1, 120, 0), (120, .iastore, 1, 121, 0), (121, .aload_n 0, 1, 122, 0), (122, .getfield 25, 3, 125, 0), (125, .iload_n 1, 1, 126, 0), (126, .aload_n 0, 1, 127, 0), (127, .getfield 53, 3, 130, 0), (130, .getfield 133, 3, 133, 0), (133, .iload_n 2, 1, 134, 0), (134, .iaload, 1, 135, 0), (135, .iastore, 1, 136, 0), (136, .iload 4, 2, 138, 0), (138, .ifCond .eq 10, 3, 141, 148), (141, .aload_n 0, 1, 142, 0), (142, .getfield 37, 3, 145, 0), (145, .iload_n 1, 1, 146, 0), (146, .iconst (-1), 1, 147, 0), (147, .iastore, 1, 148, 0), (148, .iconst 1, 1, 149, 0), (149, .ireturn, 1, 150, 0)]
theorem E_X7_pass_0 {e : En} (i : Nat) (h : nthq cd_X7_pass_0 i = some e) : dok prog_9_method_8_code e := dok_at (by decide +kernel) i h
theorem E_X7_pass_1 {e : En} (i : Nat) (h : nthq cd_X7_pass_1 i = some e) : dok prog_9_method_8_code e := dok_at (by decide +kernel) i h
def cd_X7_divide_0 : List En := [(0, .aload_n 0, 1, 1, 0), (1, .getfield 22, 3, 4, 0), (4, .iload_n 1, 1, 5, 0), (5, .iaload, 1, 6, 0), (6, .aload_n 0, 1, 7, 0), (7, .getfield 53, 3, 10, 0), (10, .getfield 130, 3, 13, 0), (13, .iload_n 2, 1, 14, 0), (14, .iaload, 1, 15, 0), (15, .if_icmp .le 11, 3, 18, 26), (18, .aload_n 0, 1, 19, 0), (19, .iload_n 1, 1, 20, 0), (20, .invokevirtual 156, 3, 23, 0), (23, .ifCond .eq 5, 3, 26, 28), (26, .iconst 0, 1, 27, 0), (27, .ireturn, 1, 28, 0), (28, .aload_n 0, 1, 29, 0), (29, .getfield 22, 3, 32, 0), (32, .iload_n 1, 1, 33, 0), (33, .dup2, 1, 34, 0), (34, .iaload, 1, 35, 0), (35, .aload_n 0, 1, 36, 0), (36, .getfield 53, 3, 39, 0), (39, .getfield 130, 3, 42, 0), (42, .iload_n 2, 1, 43, 0), (43, .iaload, 1, 44, 0), (44, .isub, 1, 45, 0), (45, .iastore, 1, 46, 0), (46, .aload_n 0, 1, 47, 0), (47, .iload_n 2, 1, 48, 0), (48, .aload_n 0, 1, 49, 0), (49, .getfield 18, 3, 52, 0), (52, .iload_n 1, 1, 53, 0), (53, .iaload, 1, 54, 0), (54, .aload_n 0, 1, 55, 0), (55, .getfield 53, 3, 58, 0), (58, .getfield 130, 3, 61, 0), (61, .iload_n 2, 1, 62, 0), (62, .iaload, 1, 63, 0), (63, .aload_n 0, 1, 64, 0), (64, .getfield 25, 3, 67, 0), (67, .iload_n 1, 1, 68, 0), (68, .iaload, 1, 69, 0), (69, .aload_n 0, 1, 70, 0), (70, .getfield 28, 3, 73, 0), (73, .iload_n 1, 1, 74, 0), (74, .iaload, 1, 75, 0), (75, .invokevirtual 136, 3, 78, 0), (78, .iconst 1, 1, 79, 0), (79, .ireturn, 1, 80, 0)]
theorem E_X7_divide_0 {e : En} (i : Nat) (h : nthq cd_X7_divide_0 i = some e) : dok prog_9_method_9_code e := dok_at (by decide +kernel) i h
def cd_X7_isBound_0 : List En := [(0, .aload_n 0, 1, 1, 0), (1, .getfield 31, 3, 4, 0), (4, .iload_n 1, 1, 5, 0), (5, .iaload, 1, 6, 0), (6, .iconst (-1), 1, 7, 0), (7, .if_icmp .ne 13, 3, 10, 20), (10, .aload_n 0, 1, 11, 0), (11, .getfield 37, 3, 14, 0), (14, .iload_n 1, 1, 15, 0), (15, .iaload, 1, 16, 0), (16, .iconst (-1), 1, 17, 0), (17, .if_icmp .eq 7, 3, 20, 24), (20, .iconst 1, 1, 21, 0), (21, .goto 4, 3, 24, 25), (24, .iconst 0, 1, 25, 0), (25, .ireturn, 1, 26, 0)]
theorem E_X7_isBound_0 {e : En} (i : Nat) (h : nthq cd_X7_isBound_0 i = some e) : dok prog_9_method_10_code e := dok_at (by decide +kernel) i h
def cd_X7_lend_0 : List En := [(0, .aload_n 0, 1, 1, 0), (1, .getfield 31, 3, 4, 0), (4, .iload_n 1, 1, 5, 0), (5, .iaload, 1, 6, 0), (6, .iconst (-1), 1, 7, 0), (7, .if_icmp .ne 18, 3, 10, 25), (10, .aload_n 0, 1, 11, 0), (11, .getfield 25, 3, 14, 0), (14, .iload_n 1, 1, 15, 0), (15, .iaload, 1, 16, 0), (16, .aload_n 0, 1, 17, 0), (17, .getfield 28, 3, 20, 0), (20, .iload_n 1, 1, 21, 0), (21, .iaload, 1, 22, 0), (22, .if_icmp .eq 5, 3, 25, 27), (25, .iconst 0, 1, 26, 0), (26, .ireturn, 1, 27, 0), (27, .aload_n 0, 1, 28, 0), (28, .getfield 31, 3, 31, 0), (31, .iload_n 1, 1, 32, 0), (32, .aload_n 0, 1, 33, 0), (33, .getfield 53, 3, 36, 0), (36, .getfield 133, 3, 39, 0), (39, .iload_n 2, 1, 40, 0), (40, .iaload, 1, 41, 0), (41, .iastore, 1, 42, 0), (42, .aload_n 0, 1, 43, 0), (43, .getfield 34, 3, 46, 0), (46, .iload_n 1, 1, 47, 0), (47, .aload_n 0, 1, 48, 0), (48, .getfield 53, 3, 51, 0), (51, .getfield 130, 3, 54, 0), (54, .iload_n 2, 1, 55, 0), (55, .iaload, 1, 56, 0), (56, .iastore, 1, 57, 0), (57, .iconst 1, 1, 58, 0), (58, .ireturn, 1, 59, 0)]
theorem E_X7_lend_0 {e : En} (i : Nat) (h : nthq cd_X7_lend_0 i = some e) : dok prog_9_method_11_code e := dok_at (by decide +kernel) i h
def cd_X7_repay_0 : List En := [(0, .aload_n 0, 1, 1, 0), (1, .getfield 31, 3, 4, 0), (4, .iload_n 1, 1, 5, 0), (5, .iaload, 1, 6, 0), (6, .iconst (-1), 1, 7, 0), (7, .if_icmp .ne 5, 3, 10, 12), (10, .iconst 0, 1, 11, 0), (11, .ireturn, 1, 12, 0), (12, .aload_n 0, 1, 13, 0), (13, .getfield 31, 3, 16, 0), (16, .iload_n 1, 1, 17, 0), (17, .iconst (-1), 1, 18, 0), (18, .iastore, 1, 19, 0), (19, .aload_n 0, 1, 20, 0), (20, .getfield 34, 3, 23, 0), (23, .iload_n 1, 1, 24, 0), (24, .iconst 0, 1, 25, 0), (25, .iastore, 1, 26, 0), (26, .iconst 1, 1, 27, 0), (27, .ireturn, 1, 28, 0)]
theorem E_X7_repay_0 {e : En} (i : Nat) (h : nthq cd_X7_repay_0 i = some e) : dok prog_9_method_12_code e := dok_at (by decide +kernel) i h
def cd_X7_stop_0 : List En := [(0, .aload_n 0, 1, 1, 0), (1, .getfield 37, 3, 4, 0), (4, .iload_n 1, 1, 5, 0), (5, .iaload, 1, 6, 0), (6, .iconst (-1), 1, 7, 0), (7, .if_icmp .eq 5, 3, 10, 12), (10, .iconst 0, 1, 11, 0), (11, .ireturn, 1, 12, 0), (12, .aload_n 0, 1, 13, 0), (13, .getfield 37, 3, 16, 0), (16, .iload_n 1, 1, 17, 0), (17, .aload_n 0, 1, 18, 0), (18, .getfield 53, 3, 21, 0), (21, .getfield 133, 3, 24, 0), (24, .iload_n 2, 1, 25, 0), (25, .iaload, 1, 26, 0), (26, .iastore, 1, 27, 0), (27, .iconst 1, 1, 28, 0), (28, .ireturn, 1, 29, 0)]
theorem E_X7_stop_0 {e : En} (i : Nat) (h : nthq cd_X7_stop_0 i = some e) : dok prog_9_method_13_code e := dok_at (by decide +kernel) i h
def cd_X7_free_0 : List En := [(0, .aload_n 0, 1, 1, 0), (1, .getfield 37, 3, 4, 0), (4, .iload_n 1, 1, 5, 0), (5, .iaload, 1, 6, 0), (6, .iconst (-1), 1, 7, 0), (7, .if_icmp .ne 5, 3, 10, 12), (10, .iconst 0, 1, 11, 0), (11, .ireturn, 1, 12, 0), (12, .aload_n 0, 1, 13, 0), (13, .getfield 37, 3, 16, 0), (16, .iload_n 1, 1, 17, 0), (17, .iconst (-1), 1, 18, 0), (18, .iastore, 1, 19, 0), (19, .iconst 1, 1, 20, 0), (20, .ireturn, 1, 21, 0)]
theorem E_X7_free_0 {e : En} (i : Nat) (h : nthq cd_X7_free_0 i = some e) : dok prog_9_method_14_code e := dok_at (by decide +kernel) i h
def cd_X7_handOut_0 : List En := [(0, .aload_n 0, 1, 1, 0), (1, .getfield 18, 3, 4, 0), (4, .iload_n 1, 1, 5, 0), (5, .iaload, 1, 6, 0), (6, .istore_n 3, 1, 7, 0), (7, .aload_n 0, 1, 8, 0), (8, .getfield 53, 3, 11, 0), (11, .getfield 130, 3, 14, 0), (14, .iload_n 2, 1, 15, 0), (15, .iaload, 1, 16, 0), (16, .istore 4, 2, 18, 0), (18, .aload_n 0, 1, 19, 0), (19, .getfield 22, 3, 22, 0), (22, .iload_n 1, 1, 23, 0), (23, .iaload, 1, 24, 0), (24, .iload 4, 2, 26, 0), (26, .if_icmp .lt 21, 3, 29, 47), (29, .aload_n 0, 1, 30, 0), (30, .iload_n 3, 1, 31, 0), (31, .invokevirtual 144, 3, 34, 0), (34, .iload 4, 2, 36, 0), (36, .if_icmp .lt 11, 3, 39, 47), (39, .aload_n 0, 1, 40, 0), (40, .iload_n 1, 1, 41, 0), (41, .invokevirtual 156, 3, 44, 0), (44, .ifCond .eq 5, 3, 47, 49), (47, .iconst 0, 1, 48, 0), (48, .ireturn, 1, 49, 0), (49, .aload_n 0, 1, 50, 0), (50, .getfield 22, 3, 53, 0), (53, .iload_n 1, 1, 54, 0), (54, .dup2, 1, 55, 0), (55, .iaload, 1, 56, 0), (56, .iload 4, 2, 58, 0), (58, .isub, 1, 59, 0), (59, .iastore, 1, 60, 0), (60, .aload_n 0, 1, 61, 0), (61, .getfield 46, 3, 64, 0), (64, .iload_n 3, 1, 65, 0), (65, .dup2, 1, 66, 0), (66, .iaload, 1, 67, 0), (67, .iload 4, 2, 69, 0), (69, .isub, 1, 70, 0), (70, .iastore, 1, 71, 0), (71, .aload_n 0, 1, 72, 0), (72, .getfield 40, 3, 75, 0), (75, .iload_n 3, 1, 76, 0), (76, .dup2, 1, 77, 0), (77, .iaload, 1, 78, 0), (78, .iload 4, 2, 80, 0), (80, .iadd, 1, 81, 0), (81, .iastore, 1, 82, 0), (82, .iconst 1, 1, 83, 0), (83, .ireturn, 1, 84, 0)]
theorem E_X7_handOut_0 {e : En} (i : Nat) (h : nthq cd_X7_handOut_0 i = some e) : dok prog_9_method_15_code e := dok_at (by decide +kernel) i h
def cd_X7_steal_0 : List En := [(0, .aload_n 0, 1, 1, 0), (1, .getfield 25, 3, 4, 0), (4, .iload_n 1, 1, 5, 0), (5, .iaload, 1, 6, 0), (6, .aload_n 0, 1, 7, 0), (7, .getfield 53, 3, 10, 0), (10, .getfield 133, 3, 13, 0), (13, .iload_n 2, 1, 14, 0), (14, .iaload, 1, 15, 0), (15, .if_icmp .ne 5, 3, 18, 20), (18, .iconst 0, 1, 19, 0), (19, .ireturn, 1, 20, 0), (20, .aload_n 0, 1, 21, 0), (21, .getfield 25, 3, 24, 0), (24, .iload_n 1, 1, 25, 0), (25, .aload_n 0, 1, 26, 0), (26, .getfield 53, 3, 29, 0), (29, .getfield 133, 3, 32, 0), (32, .iload_n 2, 1, 33, 0), (33, .iaload, 1, 34, 0), (34, .iastore, 1, 35, 0), (35, .iconst 1, 1, 36, 0), (36, .ireturn, 1, 37, 0)]
theorem E_X7_steal_0 {e : En} (i : Nat) (h : nthq cd_X7_steal_0 i = some e) : dok prog_9_method_16_code e := dok_at (by decide +kernel) i h
def cd_X7_thereOf_0 : List En := [(0, .aload_n 0, 1, 1, 0), (1, .getfield 49, 3, 4, 0), (4, .getfield 159, 3, 7, 0), (7, .iload_n 1, 1, 8, 0), (8, .iaload, 1, 9, 0), (9, .aload_n 0, 1, 10, 0), (10, .getfield 40, 3, 13, 0), (13, .iload_n 1, 1, 14, 0), (14, .iaload, 1, 15, 0), (15, .isub, 1, 16, 0), (16, .aload_n 0, 1, 17, 0), (17, .getfield 43, 3, 20, 0), (20, .iload_n 1, 1, 21, 0), (21, .iaload, 1, 22, 0), (22, .isub, 1, 23, 0), (23, .ireturn, 1, 24, 0)]
theorem E_X7_thereOf_0 {e : En} (i : Nat) (h : nthq cd_X7_thereOf_0 i = some e) : dok prog_9_method_17_code e := dok_at (by decide +kernel) i h
def cd_X7_overOf_0 : List En := [(0, .iconst 0, 1, 1, 0), (1, .aload_n 0, 1, 2, 0), (2, .getfield 46, 3, 5, 0), (5, .iload_n 1, 1, 6, 0), (6, .iaload, 1, 7, 0), (7, .aload_n 0, 1, 8, 0), (8, .iload_n 1, 1, 9, 0), (9, .invokevirtual 144, 3, 12, 0), (12, .isub, 1, 13, 0), (13, .invokestatic 160, 3, 16, 0), (16, .ireturn, 1, 17, 0)]
theorem E_X7_overOf_0 {e : En} (i : Nat) (h : nthq cd_X7_overOf_0 i = some e) : dok prog_9_method_18_code e := dok_at (by decide +kernel) i h
def cd_X7_vainCount_0 : List En := [(0, .iconst 0, 1, 1, 0), (1, .istore_n 1, 1, 2, 0), (2, .iconst 0, 1, 3, 0), (3, .istore_n 2, 1, 4, 0), (4, .iload_n 2, 1, 5, 0), (5, .aload_n 0, 1, 6, 0), (6, .getfield 53, 3, 9, 0), (9, .getfield 70, 3, 12, 0), (12, .if_icmp .ge 26, 3, 15, 38), (15, .iload_n 1, 1, 16, 0), (16, .aload_n 0, 1, 17, 0), (17, .getfield 15, 3, 20, 0), (20, .iload_n 2, 1, 21, 0), (21, .baload, 1, 22, 0), (22, .ifCond .eq 7, 3, 25, 29), (25, .iconst 1, 1, 26, 0), (26, .goto 4, 3, 29, 30), (29, .iconst 0, 1, 30, 0), (30, .iadd, 1, 31, 0), (31, .istore_n 1, 1, 32, 0), (32, .iinc 2 1, 3, 35, 0), (35, .goto (-31), 3, 38, 4), (38, .iload_n 1, 1, 39, 0), (39, .ireturn, 1, 40, 0)]
theorem E_X7_vainCount_0 {e : En} (i : Nat) (h : nthq cd_X7_vainCount_0 i = some e) : dok prog_9_method_19_code e := dok_at (by decide +kernel) i h
def cd_X7_papersWithCasks_0 : List En := [(0, .iconst 0, 1, 1, 0), (1, .istore_n 2, 1, 2, 0), (2, .iconst 0, 1, 3, 0), (3, .istore_n 3, 1, 4, 0), (4, .iload_n 3, 1, 5, 0), (5, .aload_n 0, 1, 6, 0), (6, .getfield 53, 3, 9, 0), (9, .getfield 70, 3, 12, 0), (12, .if_icmp .ge 45, 3, 15, 57), (15, .aload_n 0, 1, 16, 0), (16, .getfield 9, 3, 19, 0), (19, .iload_n 3, 1, 20, 0), (20, .baload, 1, 21, 0), (21, .ifCond .eq 30, 3, 24, 51), (24, .aload_n 0, 1, 25, 0), (25, .getfield 22, 3, 28, 0), (28, .iload_n 3, 1, 29, 0), (29, .iaload, 1, 30, 0), (30, .ifCond .le 21, 3, 33, 51), (33, .iload_n 1, 1, 34, 0), (34, .iconst (-1), 1, 35, 0), (35, .if_icmp .eq 13, 3, 38, 48), (38, .aload_n 0, 1, 39, 0), (39, .getfield 18, 3, 42, 0), (42, .iload_n 3, 1, 43, 0), (43, .iaload, 1, 44, 0), (44, .iload_n 1, 1, 45, 0), (45, .if_icmp .ne 6, 3, 48, 51), (48, .iinc 2 1, 3, 51, 0), (51, .iinc 3 1, 3, 54, 0), (54, .goto (-50), 3, 57, 4), (57, .iload_n 2, 1, 58, 0), (58, .ireturn, 1, 59, 0)]
theorem E_X7_papersWithCasks_0 {e : En} (i : Nat) (h : nthq cd_X7_papersWithCasks_0 i = some e) : dok prog_9_method_20_code e := dok_at (by decide +kernel) i h
def cd_X7_casksOf_0 : List En := [(0, .iconst 0, 1, 1, 0), (1, .istore 4, 2, 3, 0), (3, .iconst 0, 1, 4, 0), (4, .istore 5, 2, 6, 0), (6, .iload 5, 2, 8, 0), (8, .aload_n 0, 1, 9, 0), (9, .getfield 53, 3, 12, 0), (12, .getfield 70, 3, 15, 0), (15, .if_icmp .ge 75, 3, 18, 90), (18, .aload_n 0, 1, 19, 0), (19, .getfield 9, 3, 22, 0), (22, .iload 5, 2, 24, 0), (24, .baload, 1, 25, 0), (25, .ifCond .eq 59, 3, 28, 84), (28, .aload_n 0, 1, 29, 0), (29, .getfield 49, 3, 32, 0), (32, .getfield 165, 3, 35, 0), (35, .aload_n 0, 1, 36, 0), (36, .getfield 18, 3, 39, 0), (39, .iload 5, 2, 41, 0), (41, .iaload, 1, 42, 0), (42, .iaload, 1, 43, 0), (43, .iload_n 2, 1, 44, 0), (44, .if_icmp .ne 40, 3, 47, 84), (47, .iload_n 3, 1, 48, 0), (48, .ifCond .eq 13, 3, 51, 61), (51, .aload_n 0, 1, 52, 0), (52, .getfield 28, 3, 55, 0), (55, .iload 5, 2, 57, 0), (57, .iaload, 1, 58, 0), (58, .goto 10, 3, 61, 68), (61, .aload_n 0, 1, 62, 0), (62, .getfield 25, 3, 65, 0), (65, .iload 5, 2, 67, 0), (67, .iaload, 1, 68, 0), (68, .iload_n 1, 1, 69, 0), (69, .if_icmp .ne 15, 3, 72, 84), (72, .iload 4, 2, 74, 0), (74, .aload_n 0, 1, 75, 0), (75, .getfield 22, 3, 78, 0), (78, .iload 5, 2, 80, 0), (80, .iaload, 1, 81, 0), (81, .iadd, 1, 82, 0), (82, .istore 4, 2, 84, 0), (84, .iinc 5 1, 3, 87, 0), (87, .goto (-81), 3, 90, 6), (90, .iload 4, 2, 92, 0), (92, .ireturn, 1, 93, 0)]
theorem E_X7_casksOf_0 {e : En} (i : Nat) (h : nthq cd_X7_casksOf_0 i = some e) : dok prog_9_method_21_code e := dok_at (by decide +kernel) i h
def cd_X7_lentOn_0 : List En := [(0, .iconst 0, 1, 1, 0), (1, .istore_n 2, 1, 2, 0), (2, .iconst 0, 1, 3, 0), (3, .istore_n 3, 1, 4, 0), (4, .iload_n 3, 1, 5, 0), (5, .aload_n 0, 1, 6, 0), (6, .getfield 53, 3, 9, 0), (9, .getfield 70, 3, 12, 0), (12, .if_icmp .ge 37, 3, 15, 49), (15, .aload_n 0, 1, 16, 0), (16, .getfield 9, 3, 19, 0), (19, .iload_n 3, 1, 20, 0), (20, .baload, 1, 21, 0), (21, .ifCond .eq 22, 3, 24, 43), (24, .aload_n 0, 1, 25, 0), (25, .getfield 18, 3, 28, 0), (28, .iload_n 3, 1, 29, 0), (29, .iaload, 1, 30, 0), (30, .iload_n 1, 1, 31, 0), (31, .if_icmp .ne 12, 3, 34, 43), (34, .iload_n 2, 1, 35, 0), (35, .aload_n 0, 1, 36, 0), (36, .getfield 34, 3, 39, 0), (39, .iload_n 3, 1, 40, 0), (40, .iaload, 1, 41, 0), (41, .iadd, 1, 42, 0), (42, .istore_n 2, 1, 43, 0), (43, .iinc 3 1, 3, 46, 0), (46, .goto (-42), 3, 49, 4), (49, .iload_n 2, 1, 50, 0), (50, .ireturn, 1, 51, 0)]
theorem E_X7_lentOn_0 {e : En} (i : Nat) (h : nthq cd_X7_lentOn_0 i = some e) : dok prog_9_method_22_code e := dok_at (by decide +kernel) i h
def cd_X7_unlike_0 : List En := [(0, .iconst 0, 1, 1, 0), (1, .istore_n 2, 1, 2, 0), (2, .iconst 0, 1, 3, 0), (3, .istore_n 3, 1, 4, 0), (4, .iload_n 3, 1, 5, 0), (5, .aload_n 0, 1, 6, 0), (6, .getfield 53, 3, 9, 0), (9, .getfield 70, 3, 12, 0), (12, .if_icmp .ge 69, 3, 15, 81), (15, .aload_n 0, 1, 16, 0), (16, .getfield 9, 3, 19, 0), (19, .iload_n 3, 1, 20, 0), (20, .baload, 1, 21, 0), (21, .ifCond .eq 16, 3, 24, 37), (24, .aload_n 1, 1, 25, 0), (25, .getfield 9, 3, 28, 0), (28, .iload_n 3, 1, 29, 0), (29, .baload, 1, 30, 0), (30, .ifCond .eq 7, 3, 33, 37), (33, .iconst 1, 1, 34, 0), (34, .goto 4, 3, 37, 38), (37, .iconst 0, 1, 38, 0), (38, .istore 4, 2, 40, 0), (40, .iload 4, 2, 42, 0), (42, .ifCond .eq 15, 3, 45, 57), (45, .aload_n 0, 1, 46, 0), (46, .aload_n 1, 1, 47, 0), (47, .iload_n 3, 1, 48, 0), (48, .invokevirtual 168, 3, 51, 0), (51, .ifCond .eq 24, 3, 54, 75), (54, .goto 18, 3, 57, 72), (57, .aload_n 0, 1, 58, 0), (58, .getfield 9, 3, 61, 0), (61, .iload_n 3, 1, 62, 0), (62, .baload, 1, 63, 0), (63, .aload_n 1, 1, 64, 0), (64, .getfield 9, 3, 67, 0), (67, .iload_n 3, 1, 68, 0), (68, .baload, 1, 69, 0), (69, .if_icmp .eq 6, 3, 72, 75), (72, .iinc 2 1, 3, 75, 0), (75, .iinc 3 1, 3, 78, 0), (78, .goto (-74), 3, 81, 4), (81, .iload_n 2, 1, 82, 0), (82, .ireturn, 1, 83, 0)]
theorem E_X7_unlike_0 {e : En} (i : Nat) (h : nthq cd_X7_unlike_0 i = some e) : dok prog_9_method_23_code e := dok_at (by decide +kernel) i h
def cd_X7_isHadOtherwise_0 : List En := [(0, .aload_n 0, 1, 1, 0), (1, .getfield 25, 3, 4, 0), (4, .iload_n 2, 1, 5, 0), (5, .iaload, 1, 6, 0), (6, .aload_n 1, 1, 7, 0), (7, .getfield 25, 3, 10, 0), (10, .iload_n 2, 1, 11, 0), (11, .iaload, 1, 12, 0), (12, .if_icmp .ne 18, 3, 15, 30), (15, .aload_n 0, 1, 16, 0), (16, .getfield 28, 3, 19, 0), (19, .iload_n 2, 1, 20, 0), (20, .iaload, 1, 21, 0), (21, .aload_n 1, 1, 22, 0), (22, .getfield 28, 3, 25, 0), (25, .iload_n 2, 1, 26, 0), (26, .iaload, 1, 27, 0), (27, .if_icmp .eq 7, 3, 30, 34), (30, .iconst 1, 1, 31, 0), (31, .goto 4, 3, 34, 35), (34, .iconst 0, 1, 35, 0), (35, .ireturn, 1, 36, 0)]
theorem E_X7_isHadOtherwise_0 {e : En} (i : Nat) (h : nthq cd_X7_isHadOtherwise_0 i = some e) : dok prog_9_method_24_code e := dok_at (by decide +kernel) i h
def cd_X8_init_0 : List En := [(0, .aload_n 0, 1, 1, 0), (1, .invokespecial 3, 3, 4, 0), (4, .aload_n 0, 1, 5, 0), (5, .bipush 8, 2, 7, 0), (7, .newarray .int, 2, 9, 0), (9, .putfield 11, 3, 12, 0), (12, .aload_n 0, 1, 13, 0), (13, .bipush 8, 2, 15, 0), (15, .newarray .int, 2, 17, 0), (17, .putfield 15, 3, 20, 0), (20, .aload_n 0, 1, 21, 0), (21, .bipush 8, 2, 23, 0), (23, .bipush 10, 2, 25, 0), (25, .multianewarray 20 2, 4, 29, 0), (29, .putfield 22, 3, 32, 0), (32, .aload_n 0, 1, 33, 0), (33, .bipush 8, 2, 35, 0), (35, .bipush 10, 2, 37, 0), (37, .multianewarray 20 2, 4, 41, 0), (41, .putfield 25, 3, 44, 0), (44, .aload_n 0, 1, 45, 0), (45, .bipush 8, 2, 47, 0), (47, .newarray .int, 2, 49, 0), (49, .putfield 28, 3, 52, 0), (52, .aload_n 0, 1, 53, 0), (53, .bipush 8, 2, 55, 0), (55, .newarray .boolean, 2, 57, 0), (57, .putfield 31, 3, 60, 0), (60, .aload_n 0, 1, 61, 0), (61, .bipush 10, 2, 63, 0), (63, .newarray .int, 2, 65, 0), (65, .putfield 35, 3, 68, 0), (68, .aload_n 0, 1, 69, 0), (69, .iconst (-1), 1, 70, 0), (70, .putfield 38, 3, 73, 0), (73, .return_, 1, 74, 0)]
theorem E_X8_init_0 {e : En} (i : Nat) (h : nthq cd_X8_init_0 i = some e) : dok prog_10_method_1_code e := dok_at (by decide +kernel) i h
def cd_X8_add_0 : List En := [(0, .aload_n 0, 1, 1, 0), (1, .getfield 42, 3, 4, 0), (4, .istore_n 3, 1, 5, 0), (5, .aload_n 0, 1, 6, 0), (6, .getfield 11, 3, 9, 0), (9, .iload_n 3, 1, 10, 0), (10, .iload_n 1, 1, 11, 0), (11, .iastore, 1, 12, 0), (12, .aload_n 0, 1, 13, 0), (13, .getfield 15, 3, 16, 0), (16, .iload_n 3, 1, 17, 0), (17, .aload_n 2, 1, 18, 0), (18, .getfield 45, 3, 21, 0), (21, .iastore, 1, 22, 0), (22, .iconst 0, 1, 23, 0), (23, .istore 4, 2, 25, 0), (25, .iload 4, 2, 27, 0), (27, .aload_n 2, 1, 28, 0), (28, .getfield 45, 3, 31, 0), (31, .if_icmp .ge 41, 3, 34, 72), (34, .aload_n 0, 1, 35, 0), (35, .getfield 22, 3, 38, 0), (38, .iload_n 3, 1, 39, 0), (39, .aaload, 1, 40, 0), (40, .iload 4, 2, 42, 0), (42, .aload_n 2, 1, 43, 0), (43, .getfield 47, 3, 46, 0), (46, .iload 4, 2, 48, 0), (48, .iaload, 1, 49, 0), (49, .iastore, 1, 50, 0), (50, .aload_n 0, 1, 51, 0), (51, .getfield 25, 3, 54, 0), (54, .iload_n 3, 1, 55, 0), (55, .aaload, 1, 56, 0), (56, .iload 4, 2, 58, 0), (58, .aload_n 2, 1, 59, 0), (59, .getfield 49, 3, 62, 0), (62, .iload 4, 2, 64, 0), (64, .iaload, 1, 65, 0), (65, .iastore, 1, 66, 0), (66, .iinc 4 1, 3, 69, 0), (69, .goto (-44), 3, 72, 25), (72, .iload_n 3, 1, 73, 0), (73, .istore 4, 2, 75, 0), (75, .iload 4, 2, 77, 0), (77, .ifCond .le 43, 3, 80, 120), (80, .aload_n 0, 1, 81, 0), (81, .getfield 11, 3, 84, 0), (84, .aload_n 0, 1, 85, 0), (85, .getfield 28, 3, 88, 0), (88, .iload 4, 2, 90, 0), (90, .iconst 1, 1, 91, 0), (91, .isub, 1, 92, 0), (92, .iaload, 1, 93, 0), (93, .iaload, 1, 94, 0), (94, .iload_n 1, 1, 95, 0), (95, .if_icmp .le 25, 3, 98, 120), (98, .aload_n 0, 1, 99, 0), (99, .getfield 28, 3, 102, 0), (102, .iload 4, 2, 104, 0)]
def cd_X8_add_1 : List En := [(104, .aload_n 0, 1, 105, 0), (105, .getfield 28, 3, 108, 0), (108, .iload 4, 2, 110, 0), (110, .iconst 1, 1, 111, 0), (111, .isub, 1, 112, 0), (112, .iaload, 1, 113, 0), (113, .iastore, 1, 114, 0), (114, .iinc 4 (-1), 3, 117, 0), (117, .goto (-42), 3, 120, 75), (120, .aload_n 0, 1, 121, 0), (121, .getfield 28, 3, 124, 0), (124, .iload 4, 2, 126, 0), (126, .iload_n 3, 1, 127, 0), (127, .iastore, 1, 128, 0), (128, .aload_n 0, 1, 129, 0), (129, .dup, 1, 130, 0), (130, .getfield 42, 3, 133, 0), (133, .iconst 1, 1, 134, 0), (134, .iadd, 1, 135, 0), (135, .putfield 42, 3, 138, 0), (138, .aload_n 0, 1, 139, 0), (139, .iconst (-1), 1, 140, 0), (140, .putfield 38, 3, 143, 0), (143, .iload_n 3, 1, 144, 0), (144, .ireturn, 1, 145, 0)]
theorem E_X8_add_0 {e : En} (i : Nat) (h : nthq cd_X8_add_0 i = some e) : dok prog_10_method_2_code e := dok_at (by decide +kernel) i h
theorem E_X8_add_1 {e : En} (i : Nat) (h : nthq cd_X8_add_1 i = some e) : dok prog_10_method_2_code e := dok_at (by decide +kernel) i h
def cd_X8_on_0 : List En := [(0, .aload_n 0, 1, 1, 0), (1, .getfield 38, 3, 4, 0), (4, .iload_n 2, 1, 5, 0), (5, .if_icmp .eq 8, 3, 8, 13), (8, .aload_n 0, 1, 9, 0), (9, .iload_n 2, 1, 10, 0), (10, .invokevirtual 51, 3, 13, 0), (13, .aload_n 0, 1, 14, 0), (14, .getfield 35, 3, 17, 0), (17, .iload_n 1, 1, 18, 0), (18, .iaload, 1, 19, 0), (19, .ireturn, 1, 20, 0)]
theorem E_X8_on_0 {e : En} (i : Nat) (h : nthq cd_X8_on_0 i = some e) : dok prog_10_method_3_code e := dok_at (by decide +kernel) i h
def cd_X8_keyOn_0 : List En := [(0, .aload_n 0, 1, 1, 0), (1, .bipush 9, 2, 3, 0), (3, .iload_n 2, 1, 4, 0), (4, .invokevirtual 55, 3, 7, 0), (7, .iconst 3, 1, 8, 0), (8, .iload_n 1, 1, 9, 0), (9, .imul, 1, 10, 0), (10, .ishr, 1, 11, 0), (11, .bipush 7, 2, 13, 0), (13, .iand, 1, 14, 0), (14, .iconst 1, 1, 15, 0), (15, .isub, 1, 16, 0), (16, .ireturn, 1, 17, 0)]
theorem E_X8_keyOn_0 {e : En} (i : Nat) (h : nthq cd_X8_keyOn_0 i = some e) : dok prog_10_method_4_code e := dok_at (by decide +kernel) i h
def cd_X8_keysOn_0 : List En := [(0, .iconst 0, 1, 1, 0), (1, .istore_n 2, 1, 2, 0), (2, .iconst 0, 1, 3, 0), (3, .istore_n 3, 1, 4, 0), (4, .iload_n 3, 1, 5, 0), (5, .iconst 4, 1, 6, 0), (6, .if_icmp .ge 27, 3, 9, 33), (9, .iload_n 2, 1, 10, 0), (10, .aload_n 0, 1, 11, 0), (11, .iload_n 3, 1, 12, 0), (12, .iload_n 1, 1, 13, 0), (13, .invokevirtual 59, 3, 16, 0), (16, .iconst (-1), 1, 17, 0), (17, .if_icmp .ne 7, 3, 20, 24), (20, .iconst 0, 1, 21, 0), (21, .goto 4, 3, 24, 25), (24, .iconst 1, 1, 25, 0), (25, .iadd, 1, 26, 0), (26, .istore_n 2, 1, 27, 0), (27, .iinc 3 1, 3, 30, 0), (30, .goto (-26), 3, 33, 4), (33, .iload_n 2, 1, 34, 0), (34, .ireturn, 1, 35, 0)]
theorem E_X8_keysOn_0 {e : En} (i : Nat) (h : nthq cd_X8_keysOn_0 i = some e) : dok prog_10_method_5_code e := dok_at (by decide +kernel) i h
def cd_X8_hold_0 : List En := [(0, .aload_n 0, 1, 1, 0), (1, .iload_n 1, 1, 2, 0), (2, .invokevirtual 62, 3, 5, 0), (5, .iconst 0, 1, 6, 0), (6, .istore_n 2, 1, 7, 0), (7, .iload_n 2, 1, 8, 0), (8, .bipush 9, 2, 10, 0), (10, .if_icmp .gt 20, 3, 13, 30), (13, .aload_n 0, 1, 14, 0), (14, .getfield 35, 3, 17, 0), (17, .iload_n 2, 1, 18, 0), (18, .getstatic 65, 3, 21, 0), (21, .iload_n 2, 1, 22, 0), (22, .iaload, 1, 23, 0), (23, .iastore, 1, 24, 0), (24, .iinc 2 1, 3, 27, 0), (27, .goto (-20), 3, 30, 7), (30, .iconst 0, 1, 31, 0), (31, .istore_n 2, 1, 32, 0), (32, .iload_n 2, 1, 33, 0), (33, .aload_n 0, 1, 34, 0), (34, .getfield 42, 3, 37, 0), (37, .if_icmp .ge 40, 3, 40, 77), (40, .aload_n 0, 1, 41, 0), (41, .getfield 28, 3, 44, 0), (44, .iload_n 2, 1, 45, 0), (45, .iaload, 1, 46, 0), (46, .istore_n 3, 1, 47, 0), (47, .aload_n 0, 1, 48, 0), (48, .getfield 11, 3, 51, 0), (51, .iload_n 3, 1, 52, 0), (52, .iaload, 1, 53, 0), (53, .iload_n 1, 1, 54, 0), (54, .if_icmp .gt 17, 3, 57, 71), (57, .aload_n 0, 1, 58, 0), (58, .getfield 31, 3, 61, 0), (61, .iload_n 3, 1, 62, 0), (62, .baload, 1, 63, 0), (63, .ifCond .ne 8, 3, 66, 71), (66, .aload_n 0, 1, 67, 0), (67, .iload_n 3, 1, 68, 0), (68, .invokevirtual 68, 3, 71, 0), (71, .iinc 2 1, 3, 74, 0), (74, .goto (-42), 3, 77, 32), (77, .aload_n 0, 1, 78, 0), (78, .iload_n 1, 1, 79, 0), (79, .putfield 38, 3, 82, 0), (82, .return_, 1, 83, 0)]
theorem E_X8_hold_0 {e : En} (i : Nat) (h : nthq cd_X8_hold_0 i = some e) : dok prog_10_method_6_code e := dok_at (by decide +kernel) i h
def cd_X8_strike_0 : List En := [(0, .iconst 0, 1, 1, 0), (1, .istore_n 2, 1, 2, 0), (2, .iload_n 2, 1, 3, 0), (3, .aload_n 0, 1, 4, 0), (4, .getfield 42, 3, 7, 0), (7, .if_icmp .ge 16, 3, 10, 23), (10, .aload_n 0, 1, 11, 0), (11, .getfield 31, 3, 14, 0), (14, .iload_n 2, 1, 15, 0), (15, .iconst 0, 1, 16, 0), (16, .bastore, 1, 17, 0), (17, .iinc 2 1, 3, 20, 0), (20, .goto (-18), 3, 23, 2), (23, .aload_n 0, 1, 24, 0), (24, .getfield 42, 3, 27, 0), (27, .iconst 1, 1, 28, 0), (28, .isub, 1, 29, 0), (29, .istore_n 2, 1, 30, 0), (30, .iload_n 2, 1, 31, 0), (31, .ifCond .lt 87, 3, 34, 118), (34, .aload_n 0, 1, 35, 0), (35, .getfield 11, 3, 38, 0), (38, .iload_n 2, 1, 39, 0), (39, .iaload, 1, 40, 0), (40, .iload_n 1, 1, 41, 0), (41, .if_icmp .gt 16, 3, 44, 57), (44, .aload_n 0, 1, 45, 0), (45, .getfield 31, 3, 48, 0), (48, .iload_n 2, 1, 49, 0), (49, .baload, 1, 50, 0), (50, .ifCond .ne 7, 3, 53, 57), (53, .iconst 1, 1, 54, 0), (54, .goto 4, 3, 57, 58), (57, .iconst 0, 1, 58, 0), (58, .istore_n 3, 1, 59, 0), (59, .iconst 0, 1, 60, 0), (60, .istore 4, 2, 62, 0), (62, .iload_n 3, 1, 63, 0), (63, .ifCond .eq 49, 3, 66, 112), (66, .iload 4, 2, 68, 0), (68, .aload_n 0, 1, 69, 0), (69, .getfield 15, 3, 72, 0), (72, .iload_n 2, 1, 73, 0), (73, .iaload, 1, 74, 0), (74, .if_icmp .ge 38, 3, 77, 112), (77, .aload_n 0, 1, 78, 0), (78, .getfield 22, 3, 81, 0), (81, .iload_n 2, 1, 82, 0), (82, .aaload, 1, 83, 0), (83, .iload 4, 2, 85, 0), (85, .iaload, 1, 86, 0), (86, .bipush 10, 2, 88, 0), (88, .if_icmp .ne 18, 3, 91, 106), (91, .aload_n 0, 1, 92, 0), (92, .getfield 31, 3, 95, 0), (95, .aload_n 0, 1, 96, 0), (96, .getfield 25, 3, 99, 0), (99, .iload_n 2, 1, 100, 0), (100, .aaload, 1, 101, 0), (101, .iload 4, 2, 103, 0)]
def cd_X8_strike_1 : List En := [(103, .iaload, 1, 104, 0), (104, .iconst 1, 1, 105, 0), (105, .bastore, 1, 106, 0), (106, .iinc 4 1, 3, 109, 0), (109, .goto (-47), 3, 112, 62), (112, .iinc 2 (-1), 3, 115, 0), (115, .goto (-85), 3, 118, 30), (118, .return_, 1, 119, 0)]
theorem E_X8_strike_0 {e : En} (i : Nat) (h : nthq cd_X8_strike_0 i = some e) : dok prog_10_method_7_code e := dok_at (by decide +kernel) i h
theorem E_X8_strike_1 {e : En} (i : Nat) (h : nthq cd_X8_strike_1 i = some e) : dok prog_10_method_7_code e := dok_at (by decide +kernel) i h
def cd_X8_rule_0 : List En := [(0, .iconst 0, 1, 1, 0), (1, .istore_n 2, 1, 2, 0), (2, .iload_n 2, 1, 3, 0), (3, .aload_n 0, 1, 4, 0), (4, .getfield 15, 3, 7, 0), (7, .iload_n 1, 1, 8, 0), (8, .iaload, 1, 9, 0), (9, .if_icmp .ge 43, 3, 12, 52), (12, .aload_n 0, 1, 13, 0), (13, .getfield 22, 3, 16, 0), (16, .iload_n 1, 1, 17, 0), (17, .aaload, 1, 18, 0), (18, .iload_n 2, 1, 19, 0), (19, .iaload, 1, 20, 0), (20, .bipush 10, 2, 22, 0), (22, .if_icmp .eq 24, 3, 25, 46), (25, .aload_n 0, 1, 26, 0), (26, .getfield 35, 3, 29, 0), (29, .aload_n 0, 1, 30, 0), (30, .getfield 22, 3, 33, 0), (33, .iload_n 1, 1, 34, 0), (34, .aaload, 1, 35, 0), (35, .iload_n 2, 1, 36, 0), (36, .iaload, 1, 37, 0), (37, .aload_n 0, 1, 38, 0), (38, .getfield 25, 3, 41, 0), (41, .iload_n 1, 1, 42, 0), (42, .aaload, 1, 43, 0), (43, .iload_n 2, 1, 44, 0), (44, .iaload, 1, 45, 0), (45, .iastore, 1, 46, 0), (46, .iinc 2 1, 3, 49, 0), (49, .goto (-47), 3, 52, 2), (52, .return_, 1, 53, 0)]
theorem E_X8_rule_0 {e : En} (i : Nat) (h : nthq cd_X8_rule_0 i = some e) : dok prog_10_method_8_code e := dok_at (by decide +kernel) i h
def cd_X9_init_0 : List En := [(0, .aload_n 0, 1, 1, 0), (1, .invokespecial 1, 3, 4, 0), (4, .aload_n 0, 1, 5, 0), (5, .bipush 40, 2, 7, 0), (7, .newarray .int, 2, 9, 0), (9, .putfield 9, 3, 12, 0), (12, .aload_n 0, 1, 13, 0), (13, .bipush 40, 2, 15, 0), (15, .newarray .int, 2, 17, 0), (17, .putfield 13, 3, 20, 0), (20, .aload_n 0, 1, 21, 0), (21, .bipush 40, 2, 23, 0), (23, .newarray .int, 2, 25, 0), (25, .putfield 16, 3, 28, 0), (28, .aload_n 0, 1, 29, 0), (29, .bipush 40, 2, 31, 0), (31, .newarray .int, 2, 33, 0), (33, .putfield 19, 3, 36, 0), (36, .return_, 1, 37, 0)]
theorem E_X9_init_0 {e : En} (i : Nat) (h : nthq cd_X9_init_0 i = some e) : dok prog_11_method_1_code e := dok_at (by decide +kernel) i h
def cd_X9_add_0 : List En := [(0, .aload_n 0, 1, 1, 0), (1, .getfield 9, 3, 4, 0), (4, .aload_n 0, 1, 5, 0), (5, .getfield 22, 3, 8, 0), (8, .iload_n 1, 1, 9, 0), (9, .iastore, 1, 10, 0), (10, .aload_n 0, 1, 11, 0), (11, .getfield 13, 3, 14, 0), (14, .aload_n 0, 1, 15, 0), (15, .getfield 22, 3, 18, 0), (18, .iload_n 2, 1, 19, 0), (19, .iastore, 1, 20, 0), (20, .aload_n 0, 1, 21, 0), (21, .getfield 16, 3, 24, 0), (24, .aload_n 0, 1, 25, 0), (25, .getfield 22, 3, 28, 0), (28, .iload_n 3, 1, 29, 0), (29, .iastore, 1, 30, 0), (30, .aload_n 0, 1, 31, 0), (31, .getfield 19, 3, 34, 0), (34, .aload_n 0, 1, 35, 0), (35, .getfield 22, 3, 38, 0), (38, .iload 4, 2, 40, 0), (40, .iastore, 1, 41, 0), (41, .aload_n 0, 1, 42, 0), (42, .dup, 1, 43, 0), (43, .getfield 22, 3, 46, 0), (46, .iconst 1, 1, 47, 0), (47, .iadd, 1, 48, 0), (48, .putfield 22, 3, 51, 0), (51, .aload_n 0, 1, 52, 0), (52, .getfield 22, 3, 55, 0), (55, .ireturn, 1, 56, 0)]
theorem E_X9_add_0 {e : En} (i : Nat) (h : nthq cd_X9_add_0 i = some e) : dok prog_11_method_2_code e := dok_at (by decide +kernel) i h
def cd_X10_init_0 : List En := [(0, .aload_n 0, 1, 1, 0), (1, .invokespecial 1, 3, 4, 0), (4, .aload_n 0, 1, 5, 0), (5, .iconst 0, 1, 6, 0), (6, .putfield 7, 3, 9, 0), (9, .aload_n 0, 1, 10, 0), (10, .new 13, 3, 13, 0), (13, .dup, 1, 14, 0), (14, .invokespecial 15, 3, 17, 0), (17, .putfield 16, 3, 20, 0), (20, .aload_n 0, 1, 21, 0), (21, .new 20, 3, 24, 0), (24, .dup, 1, 25, 0), (25, .invokespecial 22, 3, 28, 0), (28, .putfield 23, 3, 31, 0), (31, .aload_n 0, 1, 32, 0), (32, .new 27, 3, 35, 0), (35, .dup, 1, 36, 0), (36, .invokespecial 29, 3, 39, 0), (39, .putfield 30, 3, 42, 0), (42, .aload_n 0, 1, 43, 0), (43, .new 34, 3, 46, 0), (46, .dup, 1, 47, 0), (47, .invokespecial 36, 3, 50, 0), (50, .putfield 37, 3, 53, 0), (53, .aload_n 0, 1, 54, 0), (54, .new 41, 3, 57, 0), (57, .dup, 1, 58, 0), (58, .aload_n 0, 1, 59, 0), (59, .getfield 16, 3, 62, 0), (62, .aload_n 0, 1, 63, 0), (63, .getfield 23, 3, 66, 0), (66, .aload_n 0, 1, 67, 0), (67, .getfield 30, 3, 70, 0), (70, .invokespecial 43, 3, 73, 0), (73, .putfield 46, 3, 76, 0), (76, .aload_n 0, 1, 77, 0), (77, .new 41, 3, 80, 0), (80, .dup, 1, 81, 0), (81, .aload_n 0, 1, 82, 0), (82, .getfield 16, 3, 85, 0), (85, .aload_n 0, 1, 86, 0), (86, .getfield 23, 3, 89, 0), (89, .aload_n 0, 1, 90, 0), (90, .getfield 30, 3, 93, 0), (93, .invokespecial 43, 3, 96, 0), (96, .putfield 50, 3, 99, 0), (99, .aload_n 0, 1, 100, 0), (100, .new 53, 3, 103, 0), (103, .dup, 1, 104, 0), (104, .invokespecial 55, 3, 107, 0), (107, .putfield 56, 3, 110, 0), (110, .aload_n 0, 1, 111, 0), (111, .new 60, 3, 114, 0), (114, .dup, 1, 115, 0), (115, .invokespecial 62, 3, 118, 0), (118, .putfield 63, 3, 121, 0), (121, .aload_n 0, 1, 122, 0), (122, .bipush 8, 2, 124, 0), (124, .bipush 12, 2, 126, 0)]
def cd_X10_init_1 : List En := [(126, .multianewarray 67 2, 4, 130, 0), (130, .putfield 69, 3, 133, 0), (133, .aload_n 0, 1, 134, 0), (134, .new 72, 3, 137, 0), (137, .dup, 1, 138, 0), (138, .invokespecial 74, 3, 141, 0), (141, .putfield 75, 3, 144, 0), (144, .aload_n 0, 1, 145, 0), (145, .new 79, 3, 148, 0), (148, .dup, 1, 149, 0), (149, .invokespecial 81, 3, 152, 0), (152, .putfield 82, 3, 155, 0), (155, .aload_n 0, 1, 156, 0), (156, .bipush 6, 2, 158, 0), (158, .newarray .int, 2, 160, 0), (160, .putfield 86, 3, 163, 0), (163, .iconst 0, 1, 164, 0), (164, .istore_n 1, 1, 165, 0), (165, .iload_n 1, 1, 166, 0), (166, .bipush 6, 2, 168, 0), (168, .if_icmp .ge 18, 3, 171, 186), (171, .aload_n 0, 1, 172, 0), (172, .getfield 86, 3, 175, 0), (175, .iload_n 1, 1, 176, 0), (176, .sipush 200, 3, 179, 0), (179, .iastore, 1, 180, 0), (180, .iinc 1 1, 3, 183, 0), (183, .goto (-18), 3, 186, 165), (186, .aload_n 0, 1, 187, 0), (187, .iconst 4, 1, 188, 0), (188, .newarray .int, 2, 190, 0), (190, .putfield 90, 3, 193, 0), (193, .aload_n 0, 1, 194, 0), (194, .new 93, 3, 197, 0), (197, .dup, 1, 198, 0), (198, .invokespecial 95, 3, 201, 0), (201, .putfield 96, 3, 204, 0), (204, .return_, 1, 205, 0)]
theorem E_X10_init_0 {e : En} (i : Nat) (h : nthq cd_X10_init_0 i = some e) : dok prog_1_method_1_code e := dok_at (by decide +kernel) i h
theorem E_X10_init_1 {e : En} (i : Nat) (h : nthq cd_X10_init_1 i = some e) : dok prog_1_method_1_code e := dok_at (by decide +kernel) i h
def cd_X10_go_0 : List En := [(0, .iload_n 1, 1, 1, 0), (1, .iconst 0, 1, 2, 0), (2, .sipush 999, 3, 5, 0), (5, .invokestatic 100, 3, 8, 0), (8, .ifCond .ne 7, 3, 11, 15), (11, .sipush (-1002), 3, 14, 0), (14, .ireturn, 1, 15, 0), (15, .aload_n 0, 1, 16, 0), (16, .getfield 7, 3, 19, 0), (19, .iload_n 1, 1, 20, 0), (20, .iadd, 1, 21, 0), (21, .sipush 2000, 3, 24, 0), (24, .if_icmp .le 7, 3, 27, 31), (27, .sipush (-1003), 3, 30, 0), (30, .ireturn, 1, 31, 0), (31, .aload_n 0, 1, 32, 0), (32, .dup, 1, 33, 0), (33, .getfield 7, 3, 36, 0), (36, .iload_n 1, 1, 37, 0), (37, .iadd, 1, 38, 0), (38, .putfield 7, 3, 41, 0), (41, .aload_n 0, 1, 42, 0), (42, .getfield 7, 3, 45, 0), (45, .ireturn, 1, 46, 0)]
theorem E_X10_go_0 {e : En} (i : Nat) (h : nthq cd_X10_go_0 i = some e) : dok prog_1_method_2_code e := dok_at (by decide +kernel) i h
def cd_X10_lot_0 : List En := [(0, .iload 4, 2, 2, 0), (2, .invokestatic 104, 3, 5, 0), (5, .ifCond .eq 11, 3, 8, 16), (8, .iload 5, 2, 10, 0), (10, .invokestatic 108, 3, 13, 0), (13, .ifCond .ne 7, 3, 16, 20), (16, .sipush (-1001), 3, 19, 0), (19, .ireturn, 1, 20, 0), (20, .iload_n 1, 1, 21, 0), (21, .invokestatic 111, 3, 24, 0), (24, .ifCond .eq 25, 3, 27, 49), (27, .iload_n 2, 1, 28, 0), (28, .iconst 1, 1, 29, 0), (29, .sipush 200, 3, 32, 0), (32, .invokestatic 100, 3, 35, 0), (35, .ifCond .eq 14, 3, 38, 49), (38, .iload_n 3, 1, 39, 0), (39, .iconst 1, 1, 40, 0), (40, .sipush 999, 3, 43, 0), (43, .invokestatic 100, 3, 46, 0), (46, .ifCond .ne 7, 3, 49, 53), (49, .sipush (-1002), 3, 52, 0), (52, .ireturn, 1, 53, 0), (53, .aload_n 0, 1, 54, 0), (54, .getfield 16, 3, 57, 0), (57, .getfield 114, 3, 60, 0), (60, .bipush 12, 2, 62, 0), (62, .if_icmp .lt 7, 3, 65, 69), (65, .sipush (-1004), 3, 68, 0), (68, .ireturn, 1, 69, 0), (69, .aload_n 0, 1, 70, 0), (70, .getfield 16, 3, 73, 0), (73, .iload_n 1, 1, 74, 0), (74, .iload_n 2, 1, 75, 0), (75, .iload_n 3, 1, 76, 0), (76, .iload 5, 2, 78, 0), (78, .aload_n 0, 1, 79, 0), (79, .getfield 7, 3, 82, 0), (82, .invokevirtual 117, 3, 85, 0), (85, .ireturn, 1, 86, 0)]
theorem E_X10_lot_0 {e : En} (i : Nat) (h : nthq cd_X10_lot_0 i = some e) : dok prog_1_method_3_code e := dok_at (by decide +kernel) i h
def cd_X10_room_0 : List En := [(0, .iload_n 1, 1, 1, 0), (1, .invokestatic 108, 3, 4, 0), (4, .ifCond .ne 7, 3, 7, 11), (7, .sipush (-1001), 3, 10, 0), (10, .ireturn, 1, 11, 0), (11, .iload_n 2, 1, 12, 0), (12, .iconst 0, 1, 13, 0), (13, .sipush 999, 3, 16, 0), (16, .invokestatic 100, 3, 19, 0), (19, .ifCond .ne 7, 3, 22, 26), (22, .sipush (-1002), 3, 25, 0), (25, .ireturn, 1, 26, 0), (26, .aload_n 0, 1, 27, 0), (27, .getfield 86, 3, 30, 0), (30, .iload_n 1, 1, 31, 0), (31, .iaload, 1, 32, 0), (32, .istore_n 3, 1, 33, 0), (33, .aload_n 0, 1, 34, 0), (34, .getfield 86, 3, 37, 0), (37, .iload_n 1, 1, 38, 0), (38, .iload_n 2, 1, 39, 0), (39, .iastore, 1, 40, 0), (40, .iload_n 3, 1, 41, 0), (41, .ireturn, 1, 42, 0)]
theorem E_X10_room_0 {e : En} (i : Nat) (h : nthq cd_X10_room_0 i = some e) : dok prog_1_method_4_code e := dok_at (by decide +kernel) i h
def cd_X10_move_0 : List En := [(0, .aload_n 0, 1, 1, 0), (1, .getfield 16, 3, 4, 0), (4, .iload_n 1, 1, 5, 0), (5, .invokevirtual 121, 3, 8, 0), (8, .ifCond .eq 10, 3, 11, 18), (11, .iload_n 2, 1, 12, 0), (12, .invokestatic 108, 3, 15, 0), (15, .ifCond .ne 7, 3, 18, 22), (18, .sipush (-1001), 3, 21, 0), (21, .ireturn, 1, 22, 0), (22, .aload_n 0, 1, 23, 0), (23, .getfield 16, 3, 26, 0), (26, .getfield 124, 3, 29, 0), (29, .iload_n 1, 1, 30, 0), (30, .iaload, 1, 31, 0), (31, .istore_n 3, 1, 32, 0), (32, .iload_n 3, 1, 33, 0), (33, .iload_n 2, 1, 34, 0), (34, .if_icmp .ne 7, 3, 37, 41), (37, .sipush (-1003), 3, 40, 0), (40, .ireturn, 1, 41, 0), (41, .aload_n 0, 1, 42, 0), (42, .getfield 16, 3, 45, 0), (45, .getfield 124, 3, 48, 0), (48, .iload_n 1, 1, 49, 0), (49, .iload_n 2, 1, 50, 0), (50, .iastore, 1, 51, 0), (51, .iload_n 3, 1, 52, 0), (52, .ireturn, 1, 53, 0)]
theorem E_X10_move_0 {e : En} (i : Nat) (h : nthq cd_X10_move_0 i = some e) : dok prog_1_method_5_code e := dok_at (by decide +kernel) i h
def cd_X10_line_0 : List En := [(0, .iload_n 1, 1, 1, 0), (1, .iconst 0, 1, 2, 0), (2, .bipush 10, 2, 4, 0), (4, .invokestatic 100, 3, 7, 0), (7, .ifCond .ne 7, 3, 10, 14), (10, .sipush (-1002), 3, 13, 0), (13, .ireturn, 1, 14, 0), (14, .getstatic 127, 3, 17, 0), (17, .iload_n 1, 1, 18, 0), (18, .iaload, 1, 19, 0), (19, .iconst 1, 1, 20, 0), (20, .if_icmp .ne 7, 3, 23, 27), (23, .iconst 1, 1, 24, 0), (24, .goto 4, 3, 27, 28), (27, .iconst 0, 1, 28, 0), (28, .istore 7, 2, 30, 0), (30, .iload_n 1, 1, 31, 0), (31, .iconst 1, 1, 32, 0), (32, .if_icmp .ne 7, 3, 35, 39), (35, .iconst 1, 1, 36, 0), (36, .goto 4, 3, 39, 40), (39, .iconst 0, 1, 40, 0), (40, .istore 8, 2, 42, 0), (42, .getstatic 130, 3, 45, 0), (45, .iload_n 1, 1, 46, 0), (46, .iaload, 1, 47, 0), (47, .iconst (-1), 1, 48, 0), (48, .if_icmp .eq 7, 3, 51, 55), (51, .iconst 1, 1, 52, 0), (52, .goto 4, 3, 55, 56), (55, .iconst 0, 1, 56, 0), (56, .istore 9, 2, 58, 0), (58, .aload_n 0, 1, 59, 0), (59, .iload_n 1, 1, 60, 0), (60, .iload_n 3, 1, 61, 0), (61, .invokevirtual 133, 3, 64, 0), (64, .ifCond .eq 29, 3, 67, 93), (67, .iload 7, 2, 69, 0), (69, .ifCond .eq 11, 3, 72, 80), (72, .iload 4, 2, 74, 0), (74, .invokestatic 104, 3, 77, 0), (77, .ifCond .eq 16, 3, 80, 93), (80, .iload 8, 2, 82, 0), (82, .ifCond .eq 15, 3, 85, 97), (85, .iload 5, 2, 87, 0), (87, .invokestatic 104, 3, 90, 0), (90, .ifCond .ne 7, 3, 93, 97), (93, .sipush (-1001), 3, 96, 0), (96, .ireturn, 1, 97, 0), (97, .iload_n 2, 1, 98, 0), (98, .iconst 0, 1, 99, 0), (99, .aload_n 0, 1, 100, 0), (100, .getfield 7, 3, 103, 0), (103, .invokestatic 100, 3, 106, 0), (106, .ifCond .eq 26, 3, 109, 132), (109, .iload 9, 2, 111, 0), (111, .ifCond .eq 25, 3, 114, 136), (114, .iload 6, 2, 116, 0), (116, .getstatic 130, 3, 119, 0), (119, .iload_n 1, 1, 120, 0)]
def cd_X10_line_1 : List En := [(120, .iaload, 1, 121, 0), (121, .getstatic 137, 3, 124, 0), (124, .iload_n 1, 1, 125, 0), (125, .iaload, 1, 126, 0), (126, .invokestatic 100, 3, 129, 0), (129, .ifCond .ne 7, 3, 132, 136), (132, .sipush (-1002), 3, 135, 0), (135, .ireturn, 1, 136, 0), (136, .aload_n 0, 1, 137, 0), (137, .getfield 23, 3, 140, 0), (140, .getfield 140, 3, 143, 0), (143, .bipush 120, 2, 145, 0), (145, .if_icmp .lt 7, 3, 148, 152), (148, .sipush (-1004), 3, 151, 0), (151, .ireturn, 1, 152, 0), (152, .aload_n 0, 1, 153, 0), (153, .getfield 23, 3, 156, 0), (156, .iload_n 1, 1, 157, 0), (157, .iload_n 2, 1, 158, 0), (158, .aload_n 0, 1, 159, 0), (159, .getfield 7, 3, 162, 0), (162, .iload_n 3, 1, 163, 0), (163, .iload 7, 2, 165, 0), (165, .ifCond .eq 8, 3, 168, 173), (168, .iload 4, 2, 170, 0), (170, .goto 4, 3, 173, 174), (173, .iconst (-1), 1, 174, 0), (174, .iload 8, 2, 176, 0), (176, .ifCond .eq 8, 3, 179, 184), (179, .iload 5, 2, 181, 0), (181, .goto 4, 3, 184, 185), (184, .iconst (-1), 1, 185, 0), (185, .iload 9, 2, 187, 0), (187, .ifCond .eq 8, 3, 190, 195), (190, .iload 6, 2, 192, 0), (192, .goto 4, 3, 195, 196), (195, .iconst (-1), 1, 196, 0), (196, .invokevirtual 141, 3, 199, 0), (199, .ireturn, 1, 200, 0)]
theorem E_X10_line_0 {e : En} (i : Nat) (h : nthq cd_X10_line_0 i = some e) : dok prog_1_method_6_code e := dok_at (by decide +kernel) i h
theorem E_X10_line_1 {e : En} (i : Nat) (h : nthq cd_X10_line_1 i = some e) : dok prog_1_method_6_code e := dok_at (by decide +kernel) i h
def cd_X10_told_0 : List En := [(0, .aload_n 0, 1, 1, 0), (1, .getfield 23, 3, 4, 0), (4, .iload_n 1, 1, 5, 0), (5, .invokevirtual 144, 3, 8, 0), (8, .ifCond .ne 7, 3, 11, 15), (11, .sipush (-1001), 3, 14, 0), (14, .ireturn, 1, 15, 0), (15, .iload_n 2, 1, 16, 0), (16, .tableswitch 184 0 8 #[52, 62, 72, 82, 92, 102, 112, 122, 151], 52, 68, 0), (68, .aload_n 0, 1, 69, 0), (69, .getfield 23, 3, 72, 0), (72, .getfield 145, 3, 75, 0), (75, .iload_n 1, 1, 76, 0), (76, .iaload, 1, 77, 0), (77, .ireturn, 1, 78, 0), (78, .aload_n 0, 1, 79, 0), (79, .getfield 23, 3, 82, 0), (82, .getfield 148, 3, 85, 0), (85, .iload_n 1, 1, 86, 0), (86, .iaload, 1, 87, 0), (87, .ireturn, 1, 88, 0), (88, .aload_n 0, 1, 89, 0), (89, .getfield 23, 3, 92, 0), (92, .getfield 151, 3, 95, 0), (95, .iload_n 1, 1, 96, 0), (96, .iaload, 1, 97, 0), (97, .ireturn, 1, 98, 0), (98, .aload_n 0, 1, 99, 0), (99, .getfield 23, 3, 102, 0), (102, .getfield 154, 3, 105, 0), (105, .iload_n 1, 1, 106, 0), (106, .iaload, 1, 107, 0), (107, .ireturn, 1, 108, 0), (108, .aload_n 0, 1, 109, 0), (109, .getfield 23, 3, 112, 0), (112, .getfield 157, 3, 115, 0), (115, .iload_n 1, 1, 116, 0), (116, .iaload, 1, 117, 0), (117, .ireturn, 1, 118, 0), (118, .aload_n 0, 1, 119, 0), (119, .getfield 23, 3, 122, 0), (122, .getfield 160, 3, 125, 0), (125, .iload_n 1, 1, 126, 0), (126, .iaload, 1, 127, 0), (127, .ireturn, 1, 128, 0), (128, .aload_n 0, 1, 129, 0), (129, .getfield 23, 3, 132, 0), (132, .getfield 163, 3, 135, 0), (135, .iload_n 1, 1, 136, 0), (136, .iaload, 1, 137, 0), (137, .ireturn, 1, 138, 0), (138, .aload_n 0, 1, 139, 0), (139, .getfield 23, 3, 142, 0), (142, .aload_n 0, 1, 143, 0), (143, .getfield 7, 3, 146, 0), (146, .invokevirtual 166, 3, 149, 0), (149, .aload_n 0, 1, 150, 0), (150, .getfield 23, 3, 153, 0), (153, .getfield 170, 3, 156, 0), (156, .iload_n 1, 1, 157, 0)]
def cd_X10_told_1 : List En := [(157, .baload, 1, 158, 0), (158, .ifCond .eq 7, 3, 161, 165), (161, .iconst 1, 1, 162, 0), (162, .goto 4, 3, 165, 166), (165, .iconst 0, 1, 166, 0), (166, .ireturn, 1, 167, 0), (167, .aload_n 0, 1, 168, 0), (168, .getfield 46, 3, 171, 0), (171, .aload_n 0, 1, 172, 0), (172, .getfield 7, 3, 175, 0), (175, .aload_n 0, 1, 176, 0), (176, .getfield 7, 3, 179, 0), (179, .invokevirtual 174, 3, 182, 0), (182, .aload_n 0, 1, 183, 0), (183, .getfield 46, 3, 186, 0), (186, .getfield 178, 3, 189, 0), (189, .iload_n 1, 1, 190, 0), (190, .baload, 1, 191, 0), (191, .ifCond .eq 7, 3, 194, 198), (194, .iconst 1, 1, 195, 0), (195, .goto 4, 3, 198, 199), (198, .iconst 0, 1, 199, 0), (199, .ireturn, 1, 200, 0), (200, .sipush (-1002), 3, 203, 0), (203, .ireturn, 1, 204, 0)]
theorem E_X10_told_0 {e : En} (i : Nat) (h : nthq cd_X10_told_0 i = some e) : dok prog_1_method_7_code e := dok_at (by decide +kernel) i h
theorem E_X10_told_1 {e : En} (i : Nat) (h : nthq cd_X10_told_1 i = some e) : dok prog_1_method_7_code e := dok_at (by decide +kernel) i h
def cd_X10_book_0 : List En := [(0, .iload_n 1, 1, 1, 0), (1, .iconst 0, 1, 2, 0), (2, .aload_n 0, 1, 3, 0), (3, .getfield 7, 3, 6, 0), (6, .invokestatic 100, 3, 9, 0), (9, .ifCond .ne 7, 3, 12, 16), (12, .sipush (-1002), 3, 15, 0), (15, .ireturn, 1, 16, 0), (16, .aload_n 0, 1, 17, 0), (17, .getfield 23, 3, 20, 0), (20, .iload_n 1, 1, 21, 0), (21, .invokevirtual 166, 3, 24, 0), (24, .aload_n 0, 1, 25, 0), (25, .getfield 23, 3, 28, 0), (28, .iload_n 2, 1, 29, 0), (29, .invokevirtual 181, 3, 32, 0), (32, .ireturn, 1, 33, 0)]
theorem E_X10_book_0 {e : En} (i : Nat) (h : nthq cd_X10_book_0 i = some e) : dok prog_1_method_8_code e := dok_at (by decide +kernel) i h
def cd_X10_count_0 : List En := [(0, .iload_n 1, 1, 1, 0), (1, .tableswitch 213 0 11 #[63, 68, 76, 84, 103, 126, 150, 173, 181, 189, 197, 205], 63, 64, 0), (64, .aload_n 0, 1, 65, 0), (65, .getfield 7, 3, 68, 0), (68, .ireturn, 1, 69, 0), (69, .aload_n 0, 1, 70, 0), (70, .getfield 16, 3, 73, 0), (73, .getfield 114, 3, 76, 0), (76, .ireturn, 1, 77, 0), (77, .aload_n 0, 1, 78, 0), (78, .getfield 23, 3, 81, 0), (81, .getfield 140, 3, 84, 0), (84, .ireturn, 1, 85, 0), (85, .aload_n 0, 1, 86, 0), (86, .getfield 23, 3, 89, 0), (89, .aload_n 0, 1, 90, 0), (90, .getfield 7, 3, 93, 0), (93, .invokevirtual 166, 3, 96, 0), (96, .aload_n 0, 1, 97, 0), (97, .getfield 23, 3, 100, 0), (100, .invokevirtual 185, 3, 103, 0), (103, .ireturn, 1, 104, 0), (104, .aload_n 0, 1, 105, 0), (105, .getfield 46, 3, 108, 0), (108, .aload_n 0, 1, 109, 0), (109, .getfield 7, 3, 112, 0), (112, .aload_n 0, 1, 113, 0), (113, .getfield 7, 3, 116, 0), (116, .invokevirtual 174, 3, 119, 0), (119, .aload_n 0, 1, 120, 0), (120, .getfield 46, 3, 123, 0), (123, .invokevirtual 189, 3, 126, 0), (126, .ireturn, 1, 127, 0), (127, .aload_n 0, 1, 128, 0), (128, .getfield 46, 3, 131, 0), (131, .aload_n 0, 1, 132, 0), (132, .getfield 7, 3, 135, 0), (135, .aload_n 0, 1, 136, 0), (136, .getfield 7, 3, 139, 0), (139, .invokevirtual 174, 3, 142, 0), (142, .aload_n 0, 1, 143, 0), (143, .getfield 46, 3, 146, 0), (146, .iconst (-1), 1, 147, 0), (147, .invokevirtual 192, 3, 150, 0), (150, .ireturn, 1, 151, 0), (151, .aload_n 0, 1, 152, 0), (152, .getfield 46, 3, 155, 0), (155, .aload_n 0, 1, 156, 0), (156, .getfield 7, 3, 159, 0), (159, .aload_n 0, 1, 160, 0), (160, .getfield 7, 3, 163, 0), (163, .invokevirtual 174, 3, 166, 0), (166, .aload_n 0, 1, 167, 0), (167, .getfield 46, 3, 170, 0), (170, .getfield 195, 3, 173, 0), (173, .ireturn, 1, 174, 0), (174, .aload_n 0, 1, 175, 0), (175, .getfield 30, 3, 178, 0), (178, .getfield 198, 3, 181, 0), (181, .ireturn, 1, 182, 0)]
def cd_X10_count_1 : List En := [(182, .aload_n 0, 1, 183, 0), (183, .getfield 75, 3, 186, 0), (186, .getfield 199, 3, 189, 0), (189, .ireturn, 1, 190, 0), (190, .aload_n 0, 1, 191, 0), (191, .getfield 82, 3, 194, 0), (194, .getfield 200, 3, 197, 0), (197, .ireturn, 1, 198, 0), (198, .aload_n 0, 1, 199, 0), (199, .getfield 37, 3, 202, 0), (202, .getfield 201, 3, 205, 0), (205, .ireturn, 1, 206, 0), (206, .aload_n 0, 1, 207, 0), (207, .getfield 63, 3, 210, 0), (210, .getfield 204, 3, 213, 0), (213, .ireturn, 1, 214, 0), (214, .sipush (-1002), 3, 217, 0), (217, .ireturn, 1, 218, 0)]
theorem E_X10_count_0 {e : En} (i : Nat) (h : nthq cd_X10_count_0 i = some e) : dok prog_1_method_9_code e := dok_at (by decide +kernel) i h
theorem E_X10_count_1 {e : En} (i : Nat) (h : nthq cd_X10_count_1 i = some e) : dok prog_1_method_9_code e := dok_at (by decide +kernel) i h
def cd_X10_feed_0 : List En := [(0, .iload_n 1, 1, 1, 0), (1, .iconst 1, 1, 2, 0), (2, .bipush 8, 2, 4, 0), (4, .invokestatic 100, 3, 7, 0), (7, .ifCond .ne 7, 3, 10, 14), (10, .sipush (-1002), 3, 13, 0), (13, .ireturn, 1, 14, 0), (14, .aload_n 0, 1, 15, 0), (15, .getfield 37, 3, 18, 0), (18, .getfield 201, 3, 21, 0), (21, .iload_n 1, 1, 22, 0), (22, .iadd, 1, 23, 0), (23, .sipush 160, 3, 26, 0), (26, .if_icmp .le 7, 3, 29, 33), (29, .sipush (-1004), 3, 32, 0), (32, .ireturn, 1, 33, 0), (33, .iload_n 1, 1, 34, 0), (34, .iconst 1, 1, 35, 0), (35, .isub, 1, 36, 0), (36, .istore 4, 2, 38, 0), (38, .iload 4, 2, 40, 0), (40, .ifCond .lt 28, 3, 43, 68), (43, .aload_n 0, 1, 44, 0), (44, .getfield 37, 3, 47, 0), (47, .lload_n 2, 1, 48, 0), (48, .bipush 8, 2, 50, 0), (50, .iload 4, 2, 52, 0), (52, .imul, 1, 53, 0), (53, .lushr, 1, 54, 0), (54, .l2i, 1, 55, 0), (55, .sipush 255, 3, 58, 0), (58, .iand, 1, 59, 0), (59, .invokevirtual 205, 3, 62, 0), (62, .iinc 4 (-1), 3, 65, 0), (65, .goto (-27), 3, 68, 38), (68, .aload_n 0, 1, 69, 0), (69, .getfield 37, 3, 72, 0), (72, .getfield 201, 3, 75, 0), (75, .ireturn, 1, 76, 0)]
theorem E_X10_feed_0 {e : En} (i : Nat) (h : nthq cd_X10_feed_0 i = some e) : dok prog_1_method_10_code e := dok_at (by decide +kernel) i h
def cd_X10_term_0 : List En := [(0, .iload_n 1, 1, 1, 0), (1, .invokestatic 207, 3, 4, 0), (4, .ifCond .ne 7, 3, 7, 11), (7, .sipush (-1002), 3, 10, 0), (10, .ireturn, 1, 11, 0), (11, .aload_n 0, 1, 12, 0), (12, .getfield 30, 3, 15, 0), (15, .getfield 198, 3, 18, 0), (18, .bipush 8, 2, 20, 0), (20, .if_icmp .lt 7, 3, 23, 27), (23, .sipush (-1004), 3, 26, 0), (26, .ireturn, 1, 27, 0), (27, .aload_n 0, 1, 28, 0), (28, .getfield 37, 3, 31, 0), (31, .aload_n 0, 1, 32, 0), (32, .getfield 30, 3, 35, 0), (35, .getfield 198, 3, 38, 0), (38, .invokevirtual 210, 3, 41, 0), (41, .aload_n 0, 1, 42, 0), (42, .getfield 37, 3, 45, 0), (45, .getfield 213, 3, 48, 0), (48, .ifCond .eq 14, 3, 51, 62), (51, .bipush (-10), 2, 53, 0), (53, .aload_n 0, 1, 54, 0), (54, .getfield 37, 3, 57, 0), (57, .getfield 213, 3, 60, 0), (60, .isub, 1, 61, 0), (61, .ireturn, 1, 62, 0), (62, .aload_n 0, 1, 63, 0), (63, .getfield 30, 3, 66, 0), (66, .iload_n 1, 1, 67, 0), (67, .aload_n 0, 1, 68, 0), (68, .getfield 37, 3, 71, 0), (71, .invokevirtual 216, 3, 74, 0), (74, .ireturn, 1, 75, 0)]
theorem E_X10_term_0 {e : En} (i : Nat) (h : nthq cd_X10_term_0 i = some e) : dok prog_1_method_11_code e := dok_at (by decide +kernel) i h
def cd_X10_fault_0 : List En := [(0, .aload_n 0, 1, 1, 0), (1, .getfield 37, 3, 4, 0), (4, .getfield 219, 3, 7, 0), (7, .ireturn, 1, 8, 0)]
theorem E_X10_fault_0 {e : En} (i : Nat) (h : nthq cd_X10_fault_0 i = some e) : dok prog_1_method_12_code e := dok_at (by decide +kernel) i h
def cd_X10_force_0 : List En := [(0, .iload_n 1, 1, 1, 0), (1, .iconst 0, 1, 2, 0), (2, .bipush 13, 2, 4, 0), (4, .invokestatic 100, 3, 7, 0), (7, .ifCond .eq 10, 3, 10, 17), (10, .iload_n 2, 1, 11, 0), (11, .invokestatic 207, 3, 14, 0), (14, .ifCond .ne 7, 3, 17, 21), (17, .sipush (-1002), 3, 20, 0), (20, .ireturn, 1, 21, 0), (21, .iload_n 1, 1, 22, 0), (22, .bipush 9, 2, 24, 0), (24, .if_icmp .ge 13, 3, 27, 37), (27, .aload_n 0, 1, 28, 0), (28, .getfield 30, 3, 31, 0), (31, .iload_n 1, 1, 32, 0), (32, .iload_n 2, 1, 33, 0), (33, .invokevirtual 222, 3, 36, 0), (36, .ireturn, 1, 37, 0), (37, .iload_n 1, 1, 38, 0), (38, .bipush 9, 2, 40, 0), (40, .if_icmp .ne 14, 3, 43, 54), (43, .aload_n 0, 1, 44, 0), (44, .getfield 30, 3, 47, 0), (47, .iload_n 2, 1, 48, 0), (48, .invokevirtual 226, 3, 51, 0), (51, .goto 17, 3, 54, 68), (54, .aload_n 0, 1, 55, 0), (55, .getfield 30, 3, 58, 0), (58, .iload_n 1, 1, 59, 0), (59, .bipush 9, 2, 61, 0), (61, .isub, 1, 62, 0), (62, .iconst 1, 1, 63, 0), (63, .isub, 1, 64, 0), (64, .iload_n 2, 1, 65, 0), (65, .invokevirtual 229, 3, 68, 0), (68, .ireturn, 1, 69, 0)]
theorem E_X10_force_0 {e : En} (i : Nat) (h : nthq cd_X10_force_0 i = some e) : dok prog_1_method_13_code e := dok_at (by decide +kernel) i h
def cd_X10_paper_0 : List En := [(0, .aload_n 0, 1, 1, 0), (1, .getfield 23, 3, 4, 0), (4, .iload_n 1, 1, 5, 0), (5, .invokevirtual 232, 3, 8, 0), (8, .ifCond .ne 7, 3, 11, 15), (11, .sipush (-1001), 3, 14, 0), (14, .ireturn, 1, 15, 0), (15, .aload_n 0, 1, 16, 0), (16, .iload_n 2, 1, 17, 0), (17, .iload_n 3, 1, 18, 0), (18, .invokevirtual 235, 3, 21, 0), (21, .ifCond .eq 14, 3, 24, 35), (24, .iload 4, 2, 26, 0), (26, .iconst 0, 1, 27, 0), (27, .bipush 6, 2, 29, 0), (29, .invokestatic 100, 3, 32, 0), (32, .ifCond .ne 7, 3, 35, 39), (35, .sipush (-1002), 3, 38, 0), (38, .ireturn, 1, 39, 0), (39, .aload_n 0, 1, 40, 0), (40, .getfield 46, 3, 43, 0), (43, .iload_n 2, 1, 44, 0), (44, .iload_n 3, 1, 45, 0), (45, .invokevirtual 174, 3, 48, 0), (48, .aload_n 0, 1, 49, 0), (49, .getfield 46, 3, 52, 0), (52, .getfield 238, 3, 55, 0), (55, .iload_n 1, 1, 56, 0), (56, .baload, 1, 57, 0), (57, .ifCond .ne 7, 3, 60, 64), (60, .sipush (-1003), 3, 63, 0), (63, .ireturn, 1, 64, 0), (64, .iload 4, 2, 66, 0), (66, .tableswitch 98 0 5 #[38, 48, 58, 68, 78, 88], 38, 104, 0), (104, .aload_n 0, 1, 105, 0), (105, .getfield 46, 3, 108, 0), (108, .getfield 241, 3, 111, 0), (111, .iload_n 1, 1, 112, 0), (112, .iaload, 1, 113, 0), (113, .ireturn, 1, 114, 0), (114, .aload_n 0, 1, 115, 0), (115, .getfield 46, 3, 118, 0), (118, .getfield 244, 3, 121, 0), (121, .iload_n 1, 1, 122, 0), (122, .iaload, 1, 123, 0), (123, .ireturn, 1, 124, 0), (124, .aload_n 0, 1, 125, 0), (125, .getfield 46, 3, 128, 0), (128, .getfield 247, 3, 131, 0), (131, .iload_n 1, 1, 132, 0), (132, .iaload, 1, 133, 0), (133, .ireturn, 1, 134, 0), (134, .aload_n 0, 1, 135, 0), (135, .getfield 46, 3, 138, 0), (138, .getfield 250, 3, 141, 0), (141, .iload_n 1, 1, 142, 0), (142, .iaload, 1, 143, 0), (143, .ireturn, 1, 144, 0), (144, .aload_n 0, 1, 145, 0), (145, .getfield 46, 3, 148, 0)]
def cd_X10_paper_1 : List En := [(148, .getfield 253, 3, 151, 0), (151, .iload_n 1, 1, 152, 0), (152, .iaload, 1, 153, 0), (153, .ireturn, 1, 154, 0), (154, .aload_n 0, 1, 155, 0), (155, .getfield 46, 3, 158, 0), (158, .getfield 256, 3, 161, 0), (161, .iload_n 1, 1, 162, 0), (162, .iaload, 1, 163, 0), (163, .ireturn, 1, 164, 0), (164, .aload_n 0, 1, 165, 0), (165, .getfield 46, 3, 168, 0), (168, .getfield 259, 3, 171, 0), (171, .iload_n 1, 1, 172, 0), (172, .iaload, 1, 173, 0), (173, .ireturn, 1, 174, 0)]
theorem E_X10_paper_0 {e : En} (i : Nat) (h : nthq cd_X10_paper_0 i = some e) : dok prog_1_method_14_code e := dok_at (by decide +kernel) i h
theorem E_X10_paper_1 {e : En} (i : Nat) (h : nthq cd_X10_paper_1 i = some e) : dok prog_1_method_14_code e := dok_at (by decide +kernel) i h
def cd_X10_goods_0 : List En := [(0, .aload_n 0, 1, 1, 0), (1, .getfield 16, 3, 4, 0), (4, .iload_n 1, 1, 5, 0), (5, .invokevirtual 121, 3, 8, 0), (8, .ifCond .ne 7, 3, 11, 15), (11, .sipush (-1001), 3, 14, 0), (14, .ireturn, 1, 15, 0), (15, .aload_n 0, 1, 16, 0), (16, .iload_n 2, 1, 17, 0), (17, .iload_n 3, 1, 18, 0), (18, .invokevirtual 235, 3, 21, 0), (21, .ifCond .eq 13, 3, 24, 34), (24, .iload 4, 2, 26, 0), (26, .iconst 0, 1, 27, 0), (27, .iconst 5, 1, 28, 0), (28, .invokestatic 100, 3, 31, 0), (31, .ifCond .ne 7, 3, 34, 38), (34, .sipush (-1002), 3, 37, 0), (37, .ireturn, 1, 38, 0), (38, .aload_n 0, 1, 39, 0), (39, .getfield 46, 3, 42, 0), (42, .iload_n 2, 1, 43, 0), (43, .iload_n 3, 1, 44, 0), (44, .invokevirtual 174, 3, 47, 0), (47, .iload 4, 2, 49, 0), (49, .tableswitch 83 0 4 #[35, 44, 54, 64, 74], 35, 84, 0), (84, .aload_n 0, 1, 85, 0), (85, .getfield 46, 3, 88, 0), (88, .iload_n 1, 1, 89, 0), (89, .invokevirtual 262, 3, 92, 0), (92, .ireturn, 1, 93, 0), (93, .aload_n 0, 1, 94, 0), (94, .getfield 46, 3, 97, 0), (97, .getfield 265, 3, 100, 0), (100, .iload_n 1, 1, 101, 0), (101, .iaload, 1, 102, 0), (102, .ireturn, 1, 103, 0), (103, .aload_n 0, 1, 104, 0), (104, .getfield 46, 3, 107, 0), (107, .getfield 268, 3, 110, 0), (110, .iload_n 1, 1, 111, 0), (111, .iaload, 1, 112, 0), (112, .ireturn, 1, 113, 0), (113, .aload_n 0, 1, 114, 0), (114, .getfield 46, 3, 117, 0), (117, .getfield 271, 3, 120, 0), (120, .iload_n 1, 1, 121, 0), (121, .iaload, 1, 122, 0), (122, .ireturn, 1, 123, 0), (123, .aload_n 0, 1, 124, 0), (124, .getfield 46, 3, 127, 0), (127, .iload_n 1, 1, 128, 0), (128, .invokevirtual 274, 3, 131, 0), (131, .ireturn, 1, 132, 0), (132, .aload_n 0, 1, 133, 0), (133, .getfield 46, 3, 136, 0), (136, .iload_n 1, 1, 137, 0), (137, .invokevirtual 192, 3, 140, 0), (140, .ireturn, 1, 141, 0)]
theorem E_X10_goods_0 {e : En} (i : Nat) (h : nthq cd_X10_goods_0 i = some e) : dok prog_1_method_15_code e := dok_at (by decide +kernel) i h
def cd_X10_share_0 : List En := [(0, .aload_n 0, 1, 1, 0), (1, .getfield 23, 3, 4, 0), (4, .iload_n 1, 1, 5, 0), (5, .invokevirtual 232, 3, 8, 0), (8, .ifCond .ne 7, 3, 11, 15), (11, .sipush (-1001), 3, 14, 0), (14, .ireturn, 1, 15, 0), (15, .aload_n 0, 1, 16, 0), (16, .iload_n 2, 1, 17, 0), (17, .iload_n 3, 1, 18, 0), (18, .invokevirtual 235, 3, 21, 0), (21, .ifCond .eq 13, 3, 24, 34), (24, .iload 4, 2, 26, 0), (26, .iconst 0, 1, 27, 0), (27, .iconst 1, 1, 28, 0), (28, .invokestatic 100, 3, 31, 0), (31, .ifCond .ne 7, 3, 34, 38), (34, .sipush (-1002), 3, 37, 0), (37, .ireturn, 1, 38, 0), (38, .aload_n 0, 1, 39, 0), (39, .getfield 46, 3, 42, 0), (42, .iload_n 2, 1, 43, 0), (43, .iload_n 3, 1, 44, 0), (44, .invokevirtual 174, 3, 47, 0), (47, .aload_n 0, 1, 48, 0), (48, .getfield 46, 3, 51, 0), (51, .getfield 238, 3, 54, 0), (54, .iload_n 1, 1, 55, 0), (55, .baload, 1, 56, 0), (56, .ifCond .eq 21, 3, 59, 77), (59, .aload_n 0, 1, 60, 0), (60, .iload_n 1, 1, 61, 0), (61, .iload 4, 2, 63, 0), (63, .ifCond .ne 7, 3, 66, 70), (66, .iconst 1, 1, 67, 0), (67, .goto 4, 3, 70, 71), (70, .iconst 0, 1, 71, 0), (71, .invokevirtual 277, 3, 74, 0), (74, .goto 6, 3, 77, 80), (77, .sipush (-1003), 3, 80, 0), (80, .ireturn, 1, 81, 0)]
theorem E_X10_share_0 {e : En} (i : Nat) (h : nthq cd_X10_share_0 i = some e) : dok prog_1_method_16_code e := dok_at (by decide +kernel) i h
def cd_X10_doubt_0 : List En := [(0, .aload_n 0, 1, 1, 0), (1, .getfield 16, 3, 4, 0), (4, .iload_n 1, 1, 5, 0), (5, .invokevirtual 121, 3, 8, 0), (8, .ifCond .ne 7, 3, 11, 15), (11, .sipush (-1001), 3, 14, 0), (14, .ireturn, 1, 15, 0), (15, .aload_n 0, 1, 16, 0), (16, .iload_n 2, 1, 17, 0), (17, .iload_n 3, 1, 18, 0), (18, .invokevirtual 235, 3, 21, 0), (21, .ifCond .ne 7, 3, 24, 28), (24, .sipush (-1002), 3, 27, 0), (27, .ireturn, 1, 28, 0), (28, .aload_n 0, 1, 29, 0), (29, .getfield 46, 3, 32, 0), (32, .iload_n 2, 1, 33, 0), (33, .iload_n 3, 1, 34, 0), (34, .invokevirtual 174, 3, 37, 0), (37, .aload_n 0, 1, 38, 0), (38, .getfield 56, 3, 41, 0), (41, .aload_n 0, 1, 42, 0), (42, .getfield 46, 3, 45, 0), (45, .aload_n 0, 1, 46, 0), (46, .getfield 23, 3, 49, 0), (49, .getfield 140, 3, 52, 0), (52, .iload_n 1, 1, 53, 0), (53, .invokevirtual 281, 3, 56, 0), (56, .iload 4, 2, 58, 0), (58, .iconst (-1), 1, 59, 0), (59, .if_icmp .ne 13, 3, 62, 72), (62, .aload_n 0, 1, 63, 0), (63, .getfield 56, 3, 66, 0), (66, .getfield 285, 3, 69, 0), (69, .goto 12, 3, 72, 81), (72, .aload_n 0, 1, 73, 0), (73, .getfield 56, 3, 76, 0), (76, .iload 4, 2, 78, 0), (78, .invokevirtual 286, 3, 81, 0), (81, .ireturn, 1, 82, 0)]
theorem E_X10_doubt_0 {e : En} (i : Nat) (h : nthq cd_X10_doubt_0 i = some e) : dok prog_1_method_17_code e := dok_at (by decide +kernel) i h
def cd_X10_stock_0 : List En := [(0, .iload_n 1, 1, 1, 0), (1, .invokestatic 104, 3, 4, 0), (4, .ifCond .ne 7, 3, 7, 11), (7, .sipush (-1001), 3, 10, 0), (10, .ireturn, 1, 11, 0), (11, .iload_n 2, 1, 12, 0), (12, .invokestatic 111, 3, 15, 0), (15, .ifCond .eq 12, 3, 18, 27), (18, .iload_n 3, 1, 19, 0), (19, .iconst 0, 1, 20, 0), (20, .iconst 1, 1, 21, 0), (21, .invokestatic 100, 3, 24, 0), (24, .ifCond .ne 7, 3, 27, 31), (27, .sipush (-1002), 3, 30, 0), (30, .ireturn, 1, 31, 0), (31, .aload_n 0, 1, 32, 0), (32, .getfield 46, 3, 35, 0), (35, .aload_n 0, 1, 36, 0), (36, .getfield 7, 3, 39, 0), (39, .aload_n 0, 1, 40, 0), (40, .getfield 7, 3, 43, 0), (43, .invokevirtual 174, 3, 46, 0), (46, .aload_n 0, 1, 47, 0), (47, .getfield 46, 3, 50, 0), (50, .iload_n 1, 1, 51, 0), (51, .iload_n 2, 1, 52, 0), (52, .iload_n 3, 1, 53, 0), (53, .ifCond .ne 7, 3, 56, 60), (56, .iconst 1, 1, 57, 0), (57, .goto 4, 3, 60, 61), (60, .iconst 0, 1, 61, 0), (61, .invokevirtual 289, 3, 64, 0), (64, .ireturn, 1, 65, 0)]
theorem E_X10_stock_0 {e : En} (i : Nat) (h : nthq cd_X10_stock_0 i = some e) : dok prog_1_method_18_code e := dok_at (by decide +kernel) i h
def cd_X10_news_0 : List En := [(0, .aload_n 0, 1, 1, 0), (1, .iload_n 1, 1, 2, 0), (2, .iload_n 2, 1, 3, 0), (3, .invokevirtual 235, 3, 6, 0), (6, .ifCond .eq 12, 3, 9, 18), (9, .aload_n 0, 1, 10, 0), (10, .iload_n 1, 1, 11, 0), (11, .iload_n 3, 1, 12, 0), (12, .invokevirtual 235, 3, 15, 0), (15, .ifCond .ne 7, 3, 18, 22), (18, .sipush (-1002), 3, 21, 0), (21, .ireturn, 1, 22, 0), (22, .aload_n 0, 1, 23, 0), (23, .getfield 50, 3, 26, 0), (26, .iload_n 1, 1, 27, 0), (27, .iload_n 2, 1, 28, 0), (28, .invokevirtual 174, 3, 31, 0), (31, .aload_n 0, 1, 32, 0), (32, .getfield 46, 3, 35, 0), (35, .iload_n 1, 1, 36, 0), (36, .iload_n 3, 1, 37, 0), (37, .invokevirtual 174, 3, 40, 0), (40, .aload_n 0, 1, 41, 0), (41, .getfield 46, 3, 44, 0), (44, .aload_n 0, 1, 45, 0), (45, .getfield 50, 3, 48, 0), (48, .invokevirtual 293, 3, 51, 0), (51, .ireturn, 1, 52, 0)]
theorem E_X10_news_0 {e : En} (i : Nat) (h : nthq cd_X10_news_0 i = some e) : dok prog_1_method_19_code e := dok_at (by decide +kernel) i h
def cd_X10_rent_0 : List En := [(0, .aload_n 0, 1, 1, 0), (1, .getfield 16, 3, 4, 0), (4, .iload_n 1, 1, 5, 0), (5, .invokevirtual 121, 3, 8, 0), (8, .ifCond .ne 7, 3, 11, 15), (11, .sipush (-1001), 3, 14, 0), (14, .ireturn, 1, 15, 0), (15, .iload_n 2, 1, 16, 0), (16, .invokestatic 207, 3, 19, 0), (19, .ifCond .ne 7, 3, 22, 26), (22, .sipush (-1002), 3, 25, 0), (25, .ireturn, 1, 26, 0), (26, .aload_n 0, 1, 27, 0), (27, .getfield 46, 3, 30, 0), (30, .iload_n 2, 1, 31, 0), (31, .aload_n 0, 1, 32, 0), (32, .getfield 7, 3, 35, 0), (35, .invokevirtual 174, 3, 38, 0), (38, .aload_n 0, 1, 39, 0), (39, .iload_n 1, 1, 40, 0), (40, .iload_n 2, 1, 41, 0), (41, .invokevirtual 297, 3, 44, 0), (44, .ireturn, 1, 45, 0)]
theorem E_X10_rent_0 {e : En} (i : Nat) (h : nthq cd_X10_rent_0 i = some e) : dok prog_1_method_20_code e := dok_at (by decide +kernel) i h
def cd_X10_weight_0 : List En := [(0, .aload_n 0, 1, 1, 0), (1, .getfield 16, 3, 4, 0), (4, .iload_n 1, 1, 5, 0), (5, .invokevirtual 121, 3, 8, 0), (8, .ifCond .ne 7, 3, 11, 15), (11, .sipush (-1001), 3, 14, 0), (14, .ireturn, 1, 15, 0), (15, .iload_n 2, 1, 16, 0), (16, .invokestatic 207, 3, 19, 0), (19, .ifCond .eq 12, 3, 22, 31), (22, .aload_n 0, 1, 23, 0), (23, .iload_n 1, 1, 24, 0), (24, .iload_n 2, 1, 25, 0), (25, .invokevirtual 300, 3, 28, 0), (28, .goto 6, 3, 31, 34), (31, .sipush (-1002), 3, 34, 0), (34, .ireturn, 1, 35, 0)]
theorem E_X10_weight_0 {e : En} (i : Nat) (h : nthq cd_X10_weight_0 i = some e) : dok prog_1_method_21_code e := dok_at (by decide +kernel) i h
def cd_X10_weigh_0 : List En := [(0, .aload_n 0, 1, 1, 0), (1, .getfield 16, 3, 4, 0), (4, .iload_n 1, 1, 5, 0), (5, .invokevirtual 121, 3, 8, 0), (8, .ifCond .ne 7, 3, 11, 15), (11, .sipush (-1001), 3, 14, 0), (14, .ireturn, 1, 15, 0), (15, .iload_n 2, 1, 16, 0), (16, .iconst 1, 1, 17, 0), (17, .sipush 200, 3, 20, 0), (20, .invokestatic 100, 3, 23, 0), (23, .ifCond .eq 14, 3, 26, 37), (26, .iload_n 3, 1, 27, 0), (27, .iconst 0, 1, 28, 0), (28, .ldc_w 303, 3, 31, 0), (31, .invokestatic 100, 3, 34, 0), (34, .ifCond .ne 7, 3, 37, 41), (37, .sipush (-1002), 3, 40, 0), (40, .ireturn, 1, 41, 0), (41, .aload_n 0, 1, 42, 0), (42, .getfield 63, 3, 45, 0), (45, .getfield 204, 3, 48, 0), (48, .bipush 40, 2, 50, 0), (50, .if_icmp .lt 7, 3, 53, 57), (53, .sipush (-1004), 3, 56, 0), (56, .ireturn, 1, 57, 0), (57, .aload_n 0, 1, 58, 0), (58, .getfield 63, 3, 61, 0), (61, .iload_n 1, 1, 62, 0), (62, .iload_n 2, 1, 63, 0), (63, .iload_n 3, 1, 64, 0), (64, .aload_n 0, 1, 65, 0), (65, .getfield 7, 3, 68, 0), (68, .invokevirtual 304, 3, 71, 0), (71, .ireturn, 1, 72, 0)]
theorem E_X10_weigh_0 {e : En} (i : Nat) (h : nthq cd_X10_weigh_0 i = some e) : dok prog_1_method_22_code e := dok_at (by decide +kernel) i h
def cd_X10_loss_0 : List En := [(0, .iload_n 1, 1, 1, 0), (1, .iconst 0, 1, 2, 0), (2, .aload_n 0, 1, 3, 0), (3, .getfield 63, 3, 6, 0), (6, .getfield 204, 3, 9, 0), (9, .iconst 1, 1, 10, 0), (10, .isub, 1, 11, 0), (11, .invokestatic 100, 3, 14, 0), (14, .ifCond .ne 7, 3, 17, 21), (17, .sipush (-1001), 3, 20, 0), (20, .ireturn, 1, 21, 0), (21, .iload_n 2, 1, 22, 0), (22, .iconst 0, 1, 23, 0), (23, .iconst 2, 1, 24, 0), (24, .invokestatic 100, 3, 27, 0), (27, .ifCond .ne 7, 3, 30, 34), (30, .sipush (-1002), 3, 33, 0), (33, .ireturn, 1, 34, 0), (34, .aload_n 0, 1, 35, 0), (35, .getfield 63, 3, 38, 0), (38, .getfield 307, 3, 41, 0), (41, .iload_n 1, 1, 42, 0), (42, .iaload, 1, 43, 0), (43, .istore_n 3, 1, 44, 0), (44, .aload_n 0, 1, 45, 0), (45, .getfield 63, 3, 48, 0), (48, .getfield 308, 3, 51, 0), (51, .iload_n 1, 1, 52, 0), (52, .iaload, 1, 53, 0), (53, .aload_n 0, 1, 54, 0), (54, .aload_n 0, 1, 55, 0), (55, .getfield 63, 3, 58, 0), (58, .getfield 309, 3, 61, 0), (61, .iload_n 1, 1, 62, 0), (62, .iaload, 1, 63, 0), (63, .iload_n 3, 1, 64, 0), (64, .invokevirtual 300, 3, 67, 0), (67, .imul, 1, 68, 0), (68, .istore 4, 2, 70, 0), (70, .iconst 0, 1, 71, 0), (71, .iload 4, 2, 73, 0), (73, .aload_n 0, 1, 74, 0), (74, .getfield 63, 3, 77, 0), (77, .getfield 310, 3, 80, 0), (80, .iload_n 1, 1, 81, 0), (81, .iaload, 1, 82, 0), (82, .isub, 1, 83, 0), (83, .invokestatic 313, 3, 86, 0), (86, .istore 5, 2, 88, 0), (88, .iload_n 2, 1, 89, 0), (89, .ifCond .ne 6, 3, 92, 95), (92, .iload 5, 2, 94, 0), (94, .ireturn, 1, 95, 0), (95, .ldc2_w 318, 3, 98, 0), (98, .iload 5, 2, 100, 0), (100, .i2l, 1, 101, 0), (101, .lmul, 1, 102, 0), (102, .aload_n 0, 1, 103, 0), (103, .getfield 30, 3, 106, 0), (106, .iconst 3, 1, 107, 0)]
def cd_X10_loss_1 : List En := [(107, .iload_n 3, 1, 108, 0), (108, .invokevirtual 222, 3, 111, 0), (111, .i2l, 1, 112, 0), (112, .iload 4, 2, 114, 0), (114, .i2l, 1, 115, 0), (115, .lmul, 1, 116, 0), (116, .lcmp, 1, 117, 0), (117, .ifCond .le 7, 3, 120, 124), (120, .iconst 1, 1, 121, 0), (121, .goto 4, 3, 124, 125), (124, .iconst 0, 1, 125, 0), (125, .istore 6, 2, 127, 0), (127, .iload_n 2, 1, 128, 0), (128, .iconst 1, 1, 129, 0), (129, .if_icmp .ne 15, 3, 132, 144), (132, .iload 6, 2, 134, 0), (134, .ifCond .eq 8, 3, 137, 142), (137, .iload 5, 2, 139, 0), (139, .goto 4, 3, 142, 143), (142, .iconst 0, 1, 143, 0), (143, .ireturn, 1, 144, 0), (144, .iload 6, 2, 146, 0), (146, .ifCond .eq 15, 3, 149, 161), (149, .aload_n 0, 1, 150, 0), (150, .getfield 30, 3, 153, 0), (153, .iconst 4, 1, 154, 0), (154, .iload_n 3, 1, 155, 0), (155, .invokevirtual 222, 3, 158, 0), (158, .goto 4, 3, 161, 162), (161, .iconst (-1), 1, 162, 0), (162, .ireturn, 1, 163, 0)]
theorem E_X10_loss_0 {e : En} (i : Nat) (h : nthq cd_X10_loss_0 i = some e) : dok prog_1_method_23_code e := dok_at (by decide +kernel) i h
theorem E_X10_loss_1 {e : En} (i : Nat) (h : nthq cd_X10_loss_1 i = some e) : dok prog_1_method_23_code e := dok_at (by decide +kernel) i h
def cd_X10_unpaid_0 : List En := [(0, .iload_n 1, 1, 1, 0), (1, .invokestatic 104, 3, 4, 0), (4, .ifCond .eq 14, 3, 7, 18), (7, .aload_n 0, 1, 8, 0), (8, .getfield 16, 3, 11, 0), (11, .iload_n 2, 1, 12, 0), (12, .invokevirtual 121, 3, 15, 0), (15, .ifCond .ne 7, 3, 18, 22), (18, .sipush (-1001), 3, 21, 0), (21, .ireturn, 1, 22, 0), (22, .iload_n 3, 1, 23, 0), (23, .iconst 0, 1, 24, 0), (24, .sipush 9999, 3, 27, 0), (27, .invokestatic 100, 3, 30, 0), (30, .ifCond .ne 7, 3, 33, 37), (33, .sipush (-1002), 3, 36, 0), (36, .ireturn, 1, 37, 0), (37, .aload_n 0, 1, 38, 0), (38, .getfield 69, 3, 41, 0), (41, .iload_n 1, 1, 42, 0), (42, .aaload, 1, 43, 0), (43, .iload_n 2, 1, 44, 0), (44, .iaload, 1, 45, 0), (45, .istore 4, 2, 47, 0), (47, .aload_n 0, 1, 48, 0), (48, .getfield 69, 3, 51, 0), (51, .iload_n 1, 1, 52, 0), (52, .aaload, 1, 53, 0), (53, .iload_n 2, 1, 54, 0), (54, .iload_n 3, 1, 55, 0), (55, .iastore, 1, 56, 0), (56, .iload 4, 2, 58, 0), (58, .ireturn, 1, 59, 0)]
theorem E_X10_unpaid_0 {e : En} (i : Nat) (h : nthq cd_X10_unpaid_0 i = some e) : dok prog_1_method_24_code e := dok_at (by decide +kernel) i h
def cd_X10_money_0 : List En := [(0, .aload_n 0, 1, 1, 0), (1, .getfield 16, 3, 4, 0), (4, .iload_n 1, 1, 5, 0), (5, .invokevirtual 121, 3, 8, 0), (8, .ifCond .ne 7, 3, 11, 15), (11, .sipush (-1001), 3, 14, 0), (14, .ireturn, 1, 15, 0), (15, .iload_n 2, 1, 16, 0), (16, .iconst 0, 1, 17, 0), (17, .ldc_w 320, 3, 20, 0), (20, .invokestatic 100, 3, 23, 0), (23, .ifCond .eq 20, 3, 26, 43), (26, .iload_n 3, 1, 27, 0), (27, .invokestatic 207, 3, 30, 0), (30, .ifCond .eq 13, 3, 33, 43), (33, .iload 4, 2, 35, 0), (35, .iconst 0, 1, 36, 0), (36, .iconst 4, 1, 37, 0), (37, .invokestatic 100, 3, 40, 0), (40, .ifCond .ne 7, 3, 43, 47), (43, .sipush (-1002), 3, 46, 0), (46, .ireturn, 1, 47, 0), (47, .aload_n 0, 1, 48, 0), (48, .getfield 46, 3, 51, 0), (51, .iload_n 3, 1, 52, 0), (52, .aload_n 0, 1, 53, 0), (53, .getfield 7, 3, 56, 0), (56, .invokevirtual 174, 3, 59, 0), (59, .iload_n 2, 1, 60, 0), (60, .istore 5, 2, 62, 0), (62, .iconst 0, 1, 63, 0), (63, .istore 6, 2, 65, 0), (65, .iload 6, 2, 67, 0), (67, .iconst 4, 1, 68, 0), (68, .if_icmp .ge 55, 3, 71, 123), (71, .aload_n 0, 1, 72, 0), (72, .getfield 30, 3, 75, 0), (75, .iload 6, 2, 77, 0), (77, .iload_n 3, 1, 78, 0), (78, .invokevirtual 229, 3, 81, 0), (81, .istore 7, 2, 83, 0), (83, .iload 5, 2, 85, 0), (85, .aload_n 0, 1, 86, 0), (86, .iload 7, 2, 88, 0), (88, .iload_n 1, 1, 89, 0), (89, .iload_n 3, 1, 90, 0), (90, .iload 5, 2, 92, 0), (92, .invokevirtual 321, 3, 95, 0), (95, .invokestatic 324, 3, 98, 0), (98, .istore 8, 2, 100, 0), (100, .iload 7, 2, 102, 0), (102, .iload 4, 2, 104, 0), (104, .if_icmp .ne 6, 3, 107, 110), (107, .iload 8, 2, 109, 0), (109, .ireturn, 1, 110, 0), (110, .iload 5, 2, 112, 0), (112, .iload 8, 2, 114, 0), (114, .isub, 1, 115, 0), (115, .istore 5, 2, 117, 0), (117, .iinc 6 1, 3, 120, 0)]
def cd_X10_money_1 : List En := [(120, .goto (-55), 3, 123, 65), (123, .iload 4, 2, 125, 0), (125, .iconst 4, 1, 126, 0), (126, .if_icmp .ne 8, 3, 129, 134), (129, .iload 5, 2, 131, 0), (131, .goto 4, 3, 134, 135), (134, .iconst 0, 1, 135, 0), (135, .ireturn, 1, 136, 0)]
theorem E_X10_money_0 {e : En} (i : Nat) (h : nthq cd_X10_money_0 i = some e) : dok prog_1_method_25_code e := dok_at (by decide +kernel) i h
theorem E_X10_money_1 {e : En} (i : Nat) (h : nthq cd_X10_money_1 i = some e) : dok prog_1_method_25_code e := dok_at (by decide +kernel) i h
def cd_X10_sale_0 : List En := [(0, .iload_n 1, 1, 1, 0), (1, .invokestatic 104, 3, 4, 0), (4, .ifCond .eq 10, 3, 7, 14), (7, .iload_n 2, 1, 8, 0), (8, .invokestatic 104, 3, 11, 0), (11, .ifCond .ne 7, 3, 14, 18), (14, .sipush (-1001), 3, 17, 0), (17, .ireturn, 1, 18, 0), (18, .iload_n 1, 1, 19, 0), (19, .iload_n 2, 1, 20, 0), (20, .if_icmp .eq 21, 3, 23, 41), (23, .iload_n 3, 1, 24, 0), (24, .invokestatic 111, 3, 27, 0), (27, .ifCond .eq 14, 3, 30, 41), (30, .iload 4, 2, 32, 0), (32, .iconst 1, 1, 33, 0), (33, .bipush 99, 2, 35, 0), (35, .invokestatic 100, 3, 38, 0), (38, .ifCond .ne 7, 3, 41, 45), (41, .sipush (-1002), 3, 44, 0), (44, .ireturn, 1, 45, 0), (45, .aload_n 0, 1, 46, 0), (46, .getfield 75, 3, 49, 0), (49, .getfield 199, 3, 52, 0), (52, .bipush 24, 2, 54, 0), (54, .if_icmp .lt 9, 3, 57, 63), (57, .sipush (-1004), 3, 60, 0), (60, .goto 15, 3, 63, 75), (63, .aload_n 0, 1, 64, 0), (64, .getfield 75, 3, 67, 0), (67, .iload_n 1, 1, 68, 0), (68, .iload_n 2, 1, 69, 0), (69, .iload_n 3, 1, 70, 0), (70, .iload 4, 2, 72, 0), (72, .invokevirtual 327, 3, 75, 0), (75, .ireturn, 1, 76, 0)]
theorem E_X10_sale_0 {e : En} (i : Nat) (h : nthq cd_X10_sale_0 i = some e) : dok prog_1_method_26_code e := dok_at (by decide +kernel) i h
def cd_X10_net_0 : List En := [(0, .iload_n 1, 1, 1, 0), (1, .invokestatic 104, 3, 4, 0), (4, .ifCond .ne 7, 3, 7, 11), (7, .sipush (-1001), 3, 10, 0), (10, .ireturn, 1, 11, 0), (11, .iload_n 2, 1, 12, 0), (12, .invokestatic 111, 3, 15, 0), (15, .ifCond .eq 15, 3, 18, 30), (18, .aload_n 0, 1, 19, 0), (19, .getfield 75, 3, 22, 0), (22, .iload_n 1, 1, 23, 0), (23, .iload_n 2, 1, 24, 0), (24, .invokevirtual 328, 3, 27, 0), (27, .goto 6, 3, 30, 33), (30, .sipush (-1002), 3, 33, 0), (33, .ireturn, 1, 34, 0)]
theorem E_X10_net_0 {e : En} (i : Nat) (h : nthq cd_X10_net_0 i = some e) : dok prog_1_method_27_code e := dok_at (by decide +kernel) i h
def cd_X10_handings_0 : List En := [(0, .iload_n 1, 1, 1, 0), (1, .invokestatic 111, 3, 4, 0), (4, .ifCond .eq 14, 3, 7, 18), (7, .aload_n 0, 1, 8, 0), (8, .getfield 75, 3, 11, 0), (11, .iload_n 1, 1, 12, 0), (12, .invokevirtual 331, 3, 15, 0), (15, .goto 6, 3, 18, 21), (18, .sipush (-1002), 3, 21, 0), (21, .ireturn, 1, 22, 0)]
theorem E_X10_handings_0 {e : En} (i : Nat) (h : nthq cd_X10_handings_0 i = some e) : dok prog_1_method_28_code e := dok_at (by decide +kernel) i h
def cd_X10_due_0 : List En := [(0, .iload_n 1, 1, 1, 0), (1, .invokestatic 104, 3, 4, 0), (4, .ifCond .eq 10, 3, 7, 14), (7, .iload_n 2, 1, 8, 0), (8, .invokestatic 104, 3, 11, 0), (11, .ifCond .ne 7, 3, 14, 18), (14, .sipush (-1001), 3, 17, 0), (17, .ireturn, 1, 18, 0), (18, .iload_n 1, 1, 19, 0), (19, .iload_n 2, 1, 20, 0), (20, .if_icmp .eq 14, 3, 23, 34), (23, .iload_n 3, 1, 24, 0), (24, .iconst 1, 1, 25, 0), (25, .sipush 9999, 3, 28, 0), (28, .invokestatic 100, 3, 31, 0), (31, .ifCond .ne 7, 3, 34, 38), (34, .sipush (-1002), 3, 37, 0), (37, .ireturn, 1, 38, 0), (38, .aload_n 0, 1, 39, 0), (39, .getfield 82, 3, 42, 0), (42, .getfield 200, 3, 45, 0), (45, .bipush 24, 2, 47, 0), (47, .if_icmp .lt 9, 3, 50, 56), (50, .sipush (-1004), 3, 53, 0), (53, .goto 13, 3, 56, 66), (56, .aload_n 0, 1, 57, 0), (57, .getfield 82, 3, 60, 0), (60, .iload_n 1, 1, 61, 0), (61, .iload_n 2, 1, 62, 0), (62, .iload_n 3, 1, 63, 0), (63, .invokevirtual 334, 3, 66, 0), (66, .ireturn, 1, 67, 0)]
theorem E_X10_due_0 {e : En} (i : Nat) (h : nthq cd_X10_due_0 i = some e) : dok prog_1_method_29_code e := dok_at (by decide +kernel) i h
def cd_X10_coin_0 : List En := [(0, .iload_n 1, 1, 1, 0), (1, .invokestatic 104, 3, 4, 0), (4, .ifCond .ne 7, 3, 7, 11), (7, .sipush (-1001), 3, 10, 0), (10, .ireturn, 1, 11, 0), (11, .iload_n 2, 1, 12, 0), (12, .iconst 0, 1, 13, 0), (13, .sipush 9999, 3, 16, 0), (16, .invokestatic 100, 3, 19, 0), (19, .ifCond .ne 7, 3, 22, 26), (22, .sipush (-1002), 3, 25, 0), (25, .ireturn, 1, 26, 0), (26, .aload_n 0, 1, 27, 0), (27, .getfield 82, 3, 30, 0), (30, .getfield 337, 3, 33, 0), (33, .iload_n 1, 1, 34, 0), (34, .iaload, 1, 35, 0), (35, .istore_n 3, 1, 36, 0), (36, .aload_n 0, 1, 37, 0), (37, .getfield 82, 3, 40, 0), (40, .getfield 337, 3, 43, 0), (43, .iload_n 1, 1, 44, 0), (44, .iload_n 2, 1, 45, 0), (45, .iastore, 1, 46, 0), (46, .iload_n 3, 1, 47, 0), (47, .ireturn, 1, 48, 0)]
theorem E_X10_coin_0 {e : En} (i : Nat) (h : nthq cd_X10_coin_0 i = some e) : dok prog_1_method_30_code e := dok_at (by decide +kernel) i h
def cd_X10_fails_0 : List En := [(0, .iload_n 1, 1, 1, 0), (1, .iconst (-1), 1, 2, 0), (2, .if_icmp .eq 14, 3, 5, 16), (5, .iload_n 1, 1, 6, 0), (6, .invokestatic 104, 3, 9, 0), (9, .ifCond .ne 7, 3, 12, 16), (12, .sipush (-1001), 3, 15, 0), (15, .ireturn, 1, 16, 0), (16, .iload_n 1, 1, 17, 0), (17, .iconst (-1), 1, 18, 0), (18, .if_icmp .ne 15, 3, 21, 33), (21, .iload_n 2, 1, 22, 0), (22, .iconst 4, 1, 23, 0), (23, .iconst 5, 1, 24, 0), (24, .invokestatic 100, 3, 27, 0), (27, .ifCond .ne 19, 3, 30, 46), (30, .goto 12, 3, 33, 42), (33, .iload_n 2, 1, 34, 0), (34, .iconst 0, 1, 35, 0), (35, .iconst 3, 1, 36, 0), (36, .invokestatic 100, 3, 39, 0), (39, .ifCond .ne 7, 3, 42, 46), (42, .sipush (-1002), 3, 45, 0), (45, .ireturn, 1, 46, 0), (46, .aload_n 0, 1, 47, 0), (47, .getfield 82, 3, 50, 0), (50, .invokevirtual 340, 3, 53, 0), (53, .iload_n 2, 1, 54, 0), (54, .tableswitch 89 0 4 #[34, 52, 62, 71, 81], 34, 88, 0), (88, .aload_n 0, 1, 89, 0), (89, .getfield 82, 3, 92, 0), (92, .getfield 343, 3, 95, 0), (95, .iload_n 1, 1, 96, 0), (96, .baload, 1, 97, 0), (97, .ifCond .eq 7, 3, 100, 104), (100, .iconst 1, 1, 101, 0), (101, .goto 4, 3, 104, 105), (104, .iconst 0, 1, 105, 0), (105, .ireturn, 1, 106, 0), (106, .aload_n 0, 1, 107, 0), (107, .getfield 82, 3, 110, 0), (110, .getfield 346, 3, 113, 0), (113, .iload_n 1, 1, 114, 0), (114, .iaload, 1, 115, 0), (115, .ireturn, 1, 116, 0), (116, .aload_n 0, 1, 117, 0), (117, .getfield 82, 3, 120, 0), (120, .iload_n 1, 1, 121, 0), (121, .invokevirtual 348, 3, 124, 0), (124, .ireturn, 1, 125, 0), (125, .aload_n 0, 1, 126, 0), (126, .getfield 82, 3, 129, 0), (129, .getfield 351, 3, 132, 0), (132, .iload_n 1, 1, 133, 0), (133, .iaload, 1, 134, 0), (134, .ireturn, 1, 135, 0), (135, .aload_n 0, 1, 136, 0), (136, .getfield 82, 3, 139, 0), (139, .getfield 354, 3, 142, 0), (142, .ireturn, 1, 143, 0)]
def cd_X10_fails_1 : List En := [(143, .aload_n 0, 1, 144, 0), (144, .getfield 82, 3, 147, 0), (147, .invokevirtual 357, 3, 150, 0), (150, .ireturn, 1, 151, 0)]
theorem E_X10_fails_0 {e : En} (i : Nat) (h : nthq cd_X10_fails_0 i = some e) : dok prog_1_method_31_code e := dok_at (by decide +kernel) i h
theorem E_X10_fails_1 {e : En} (i : Nat) (h : nthq cd_X10_fails_1 i = some e) : dok prog_1_method_31_code e := dok_at (by decide +kernel) i h
def cd_X10_part_0 : List En := [(0, .iload_n 1, 1, 1, 0), (1, .invokestatic 111, 3, 4, 0), (4, .ifCond .eq 15, 3, 7, 19), (7, .iload_n 2, 1, 8, 0), (8, .invokestatic 111, 3, 11, 0), (11, .ifCond .eq 8, 3, 14, 19), (14, .iload_n 1, 1, 15, 0), (15, .iload_n 2, 1, 16, 0), (16, .if_icmp .ne 7, 3, 19, 23), (19, .sipush (-1002), 3, 22, 0), (22, .ireturn, 1, 23, 0), (23, .aload_n 0, 1, 24, 0), (24, .getfield 90, 3, 27, 0), (27, .iload_n 1, 1, 28, 0), (28, .iaload, 1, 29, 0), (29, .iload_n 2, 1, 30, 0), (30, .ishr, 1, 31, 0), (31, .iconst 1, 1, 32, 0), (32, .iand, 1, 33, 0), (33, .istore 4, 2, 35, 0), (35, .iload 4, 2, 37, 0), (37, .iconst 1, 1, 38, 0), (38, .if_icmp .ne 7, 3, 41, 45), (41, .iconst 1, 1, 42, 0), (42, .goto 4, 3, 45, 46), (45, .iconst 0, 1, 46, 0), (46, .iload_n 3, 1, 47, 0), (47, .if_icmp .eq 27, 3, 50, 74), (50, .aload_n 0, 1, 51, 0), (51, .getfield 90, 3, 54, 0), (54, .iload_n 1, 1, 55, 0), (55, .dup2, 1, 56, 0), (56, .iaload, 1, 57, 0), (57, .iconst 1, 1, 58, 0), (58, .iload_n 2, 1, 59, 0), (59, .ishl, 1, 60, 0), (60, .ixor, 1, 61, 0), (61, .iastore, 1, 62, 0), (62, .aload_n 0, 1, 63, 0), (63, .getfield 90, 3, 66, 0), (66, .iload_n 2, 1, 67, 0), (67, .dup2, 1, 68, 0), (68, .iaload, 1, 69, 0), (69, .iconst 1, 1, 70, 0), (70, .iload_n 1, 1, 71, 0), (71, .ishl, 1, 72, 0), (72, .ixor, 1, 73, 0), (73, .iastore, 1, 74, 0), (74, .iload 4, 2, 76, 0), (76, .ireturn, 1, 77, 0)]
theorem E_X10_part_0 {e : En} (i : Nat) (h : nthq cd_X10_part_0 i = some e) : dok prog_1_method_32_code e := dok_at (by decide +kernel) i h
def cd_X10_plan_0 : List En := [(0, .iload_n 1, 1, 1, 0), (1, .aload_n 0, 1, 2, 0), (2, .getfield 16, 3, 5, 0), (5, .getfield 114, 3, 8, 0), (8, .iushr, 1, 9, 0), (9, .ifCond .ne 19, 3, 12, 28), (12, .iload_n 2, 1, 13, 0), (13, .iconst (-1), 1, 14, 0), (14, .if_icmp .eq 18, 3, 17, 32), (17, .aload_n 0, 1, 18, 0), (18, .getfield 16, 3, 21, 0), (21, .iload_n 2, 1, 22, 0), (22, .invokevirtual 121, 3, 25, 0), (25, .ifCond .ne 7, 3, 28, 32), (28, .sipush (-1001), 3, 31, 0), (31, .ireturn, 1, 32, 0), (32, .iload_n 1, 1, 33, 0), (33, .invokestatic 360, 3, 36, 0), (36, .bipush 8, 2, 38, 0), (38, .if_icmp .le 7, 3, 41, 45), (41, .sipush (-1002), 3, 44, 0), (44, .ireturn, 1, 45, 0), (45, .aload_n 0, 1, 46, 0), (46, .getfield 46, 3, 49, 0), (49, .aload_n 0, 1, 50, 0), (50, .getfield 7, 3, 53, 0), (53, .aload_n 0, 1, 54, 0), (54, .getfield 7, 3, 57, 0), (57, .invokevirtual 174, 3, 60, 0), (60, .aload_n 0, 1, 61, 0), (61, .getfield 96, 3, 64, 0), (64, .iload_n 1, 1, 65, 0), (65, .aload_n 0, 1, 66, 0), (66, .getfield 16, 3, 69, 0), (69, .aload_n 0, 1, 70, 0), (70, .getfield 46, 3, 73, 0), (73, .aload_n 0, 1, 74, 0), (74, .getfield 86, 3, 77, 0), (77, .aload_n 0, 1, 78, 0), (78, .getfield 90, 3, 81, 0), (81, .invokevirtual 365, 3, 84, 0), (84, .aload_n 0, 1, 85, 0), (85, .getfield 96, 3, 88, 0), (88, .invokevirtual 369, 3, 91, 0), (91, .ifCond .ne 7, 3, 94, 98), (94, .sipush (-1003), 3, 97, 0), (97, .ireturn, 1, 98, 0), (98, .iload_n 2, 1, 99, 0), (99, .iconst (-1), 1, 100, 0), (100, .if_icmp .ne 13, 3, 103, 113), (103, .aload_n 0, 1, 104, 0), (104, .getfield 96, 3, 107, 0), (107, .invokevirtual 373, 3, 110, 0), (110, .goto 11, 3, 113, 121), (113, .aload_n 0, 1, 114, 0), (114, .getfield 96, 3, 117, 0), (117, .iload_n 2, 1, 118, 0), (118, .invokevirtual 376, 3, 121, 0), (121, .ireturn, 1, 122, 0)]
theorem E_X10_plan_0 {e : En} (i : Nat) (h : nthq cd_X10_plan_0 i = some e) : dok prog_1_method_33_code e := dok_at (by decide +kernel) i h
def cd_X10_within_0 : List En := [(0, .iload_n 0, 1, 1, 0), (1, .iload_n 1, 1, 2, 0), (2, .if_icmp .lt 12, 3, 5, 14), (5, .iload_n 0, 1, 6, 0), (6, .iload_n 2, 1, 7, 0), (7, .if_icmp .gt 7, 3, 10, 14), (10, .iconst 1, 1, 11, 0), (11, .goto 4, 3, 14, 15), (14, .iconst 0, 1, 15, 0), (15, .ireturn, 1, 16, 0)]
theorem E_X10_within_0 {e : En} (i : Nat) (h : nthq cd_X10_within_0 i = some e) : dok prog_1_method_34_code e := dok_at (by decide +kernel) i h
def cd_X10_isHouse_0 : List En := [(0, .iload_n 0, 1, 1, 0), (1, .iconst 0, 1, 2, 0), (2, .bipush 7, 2, 4, 0), (4, .invokestatic 100, 3, 7, 0), (7, .ireturn, 1, 8, 0)]
theorem E_X10_isHouse_0 {e : En} (i : Nat) (h : nthq cd_X10_isHouse_0 i = some e) : dok prog_1_method_35_code e := dok_at (by decide +kernel) i h
def cd_X10_isFloor_0 : List En := [(0, .iload_n 0, 1, 1, 0), (1, .iconst 0, 1, 2, 0), (2, .iconst 5, 1, 3, 0), (3, .invokestatic 100, 3, 6, 0), (6, .ireturn, 1, 7, 0)]
theorem E_X10_isFloor_0 {e : En} (i : Nat) (h : nthq cd_X10_isFloor_0 i = some e) : dok prog_1_method_36_code e := dok_at (by decide +kernel) i h
def cd_X10_isSort_0 : List En := [(0, .iload_n 0, 1, 1, 0), (1, .iconst 0, 1, 2, 0), (2, .iconst 3, 1, 3, 0), (3, .invokestatic 100, 3, 6, 0), (6, .ireturn, 1, 7, 0)]
theorem E_X10_isSort_0 {e : En} (i : Nat) (h : nthq cd_X10_isSort_0 i = some e) : dok prog_1_method_37_code e := dok_at (by decide +kernel) i h
def cd_X10_isDay_0 : List En := [(0, .iload_n 0, 1, 1, 0), (1, .iconst 0, 1, 2, 0), (2, .sipush 2000, 3, 5, 0), (5, .invokestatic 100, 3, 8, 0), (8, .ireturn, 1, 9, 0)]
theorem E_X10_isDay_0 {e : En} (i : Nat) (h : nthq cd_X10_isDay_0 i = some e) : dok prog_1_method_38_code e := dok_at (by decide +kernel) i h
def cd_X10_isTarget_0 : List En := [(0, .iload_n 1, 1, 1, 0), (1, .ifCond .eq 9, 3, 4, 10), (4, .iload_n 1, 1, 5, 0), (5, .bipush 8, 2, 7, 0), (7, .if_icmp .ne 12, 3, 10, 19), (10, .aload_n 0, 1, 11, 0), (11, .getfield 16, 3, 14, 0), (14, .iload_n 2, 1, 15, 0), (15, .invokevirtual 121, 3, 18, 0), (18, .ireturn, 1, 19, 0), (19, .iload_n 1, 1, 20, 0), (20, .bipush 10, 2, 22, 0), (22, .if_icmp .ne 14, 3, 25, 36), (25, .aload_n 0, 1, 26, 0), (26, .getfield 23, 3, 29, 0), (29, .iload_n 2, 1, 30, 0), (30, .invokevirtual 144, 3, 33, 0), (33, .goto 11, 3, 36, 44), (36, .aload_n 0, 1, 37, 0), (37, .getfield 23, 3, 40, 0), (40, .iload_n 2, 1, 41, 0), (41, .invokevirtual 232, 3, 44, 0), (44, .ireturn, 1, 45, 0)]
theorem E_X10_isTarget_0 {e : En} (i : Nat) (h : nthq cd_X10_isTarget_0 i = some e) : dok prog_1_method_39_code e := dok_at (by decide +kernel) i h
def cd_X10_isAsked_0 : List En := [(0, .iload_n 1, 1, 1, 0), (1, .invokestatic 207, 3, 4, 0), (4, .ifCond .eq 19, 3, 7, 23), (7, .iload_n 2, 1, 8, 0), (8, .iconst 0, 1, 9, 0), (9, .aload_n 0, 1, 10, 0), (10, .getfield 7, 3, 13, 0), (13, .invokestatic 100, 3, 16, 0), (16, .ifCond .eq 7, 3, 19, 23), (19, .iconst 1, 1, 20, 0), (20, .goto 4, 3, 23, 24), (23, .iconst 0, 1, 24, 0), (24, .ireturn, 1, 25, 0)]
theorem E_X10_isAsked_0 {e : En} (i : Nat) (h : nthq cd_X10_isAsked_0 i = some e) : dok prog_1_method_40_code e := dok_at (by decide +kernel) i h
def cd_X10_shareAsTold_0 : List En := [(0, .aload_n 0, 1, 1, 0), (1, .getfield 46, 3, 4, 0), (4, .getfield 259, 3, 7, 0), (7, .iload_n 1, 1, 8, 0), (8, .iaload, 1, 9, 0), (9, .istore_n 3, 1, 10, 0), (10, .aload_n 0, 1, 11, 0), (11, .getfield 46, 3, 14, 0), (14, .getfield 241, 3, 17, 0), (17, .iload_n 1, 1, 18, 0), (18, .iaload, 1, 19, 0), (19, .istore 4, 2, 21, 0), (21, .iconst 1, 1, 22, 0), (22, .istore 5, 2, 24, 0), (24, .aload_n 0, 1, 25, 0), (25, .getfield 46, 3, 28, 0), (28, .iload_n 3, 1, 29, 0), (29, .invokevirtual 274, 3, 32, 0), (32, .ifCond .le 27, 3, 35, 59), (35, .iload 4, 2, 37, 0), (37, .aload_n 0, 1, 38, 0), (38, .getfield 46, 3, 41, 0), (41, .iload_n 3, 1, 42, 0), (42, .invokevirtual 262, 3, 45, 0), (45, .imul, 1, 46, 0), (46, .istore 4, 2, 48, 0), (48, .aload_n 0, 1, 49, 0), (49, .getfield 46, 3, 52, 0), (52, .getfield 271, 3, 55, 0), (55, .iload_n 3, 1, 56, 0), (56, .iaload, 1, 57, 0), (57, .istore 5, 2, 59, 0), (59, .iconst 1, 1, 60, 0), (60, .iload 4, 2, 62, 0), (62, .iload 5, 2, 64, 0), (64, .invokestatic 379, 3, 67, 0), (67, .invokestatic 313, 3, 70, 0), (70, .istore 6, 2, 72, 0), (72, .iload_n 2, 1, 73, 0), (73, .ifCond .eq 8, 3, 76, 81), (76, .iload 4, 2, 78, 0), (78, .goto 5, 3, 81, 83), (81, .iload 5, 2, 83, 0), (83, .iload 6, 2, 85, 0), (85, .idiv, 1, 86, 0), (86, .ireturn, 1, 87, 0)]
theorem E_X10_shareAsTold_0 {e : En} (i : Nat) (h : nthq cd_X10_shareAsTold_0 i = some e) : dok prog_1_method_41_code e := dok_at (by decide +kernel) i h
def cd_X10_commonDivisor_0 : List En := [(0, .iload_n 0, 1, 1, 0), (1, .istore_n 2, 1, 2, 0), (2, .iload_n 1, 1, 3, 0), (3, .istore_n 3, 1, 4, 0), (4, .iconst 0, 1, 5, 0), (5, .istore 4, 2, 7, 0), (7, .iload 4, 2, 9, 0), (9, .bipush 64, 2, 11, 0), (11, .if_icmp .ge 23, 3, 14, 34), (14, .iload_n 3, 1, 15, 0), (15, .ifCond .eq 19, 3, 18, 34), (18, .iload_n 2, 1, 19, 0), (19, .iload_n 3, 1, 20, 0), (20, .irem, 1, 21, 0), (21, .istore 5, 2, 23, 0), (23, .iload_n 3, 1, 24, 0), (24, .istore_n 2, 1, 25, 0), (25, .iload 5, 2, 27, 0), (27, .istore_n 3, 1, 28, 0), (28, .iinc 4 1, 3, 31, 0), (31, .goto (-24), 3, 34, 7), (34, .iload_n 2, 1, 35, 0), (35, .ireturn, 1, 36, 0)]
theorem E_X10_commonDivisor_0 {e : En} (i : Nat) (h : nthq cd_X10_commonDivisor_0 i = some e) : dok prog_1_method_42_code e := dok_at (by decide +kernel) i h
def cd_X10_rentAsTold_0 : List En := [(0, .iload_n 2, 1, 1, 0), (1, .aload_n 0, 1, 2, 0), (2, .getfield 16, 3, 5, 0), (5, .getfield 382, 3, 8, 0), (8, .iload_n 1, 1, 9, 0), (9, .iaload, 1, 10, 0), (10, .if_icmp .ge 5, 3, 13, 15), (13, .iconst 0, 1, 14, 0), (14, .ireturn, 1, 15, 0), (15, .iload_n 2, 1, 16, 0), (16, .aload_n 0, 1, 17, 0), (17, .getfield 16, 3, 20, 0), (20, .getfield 382, 3, 23, 0), (23, .iload_n 1, 1, 24, 0), (24, .iaload, 1, 25, 0), (25, .isub, 1, 26, 0), (26, .bipush 7, 2, 28, 0), (28, .idiv, 1, 29, 0), (29, .iconst 1, 1, 30, 0), (30, .iadd, 1, 31, 0), (31, .istore_n 3, 1, 32, 0), (32, .aload_n 0, 1, 33, 0), (33, .getfield 46, 3, 36, 0), (36, .iload_n 1, 1, 37, 0), (37, .invokevirtual 262, 3, 40, 0), (40, .aload_n 0, 1, 41, 0), (41, .getfield 30, 3, 44, 0), (44, .iconst 0, 1, 45, 0), (45, .iload_n 2, 1, 46, 0), (46, .invokevirtual 222, 3, 49, 0), (49, .imul, 1, 50, 0), (50, .iload_n 3, 1, 51, 0), (51, .imul, 1, 52, 0), (52, .ireturn, 1, 53, 0)]
theorem E_X10_rentAsTold_0 {e : En} (i : Nat) (h : nthq cd_X10_rentAsTold_0 i = some e) : dok prog_1_method_43_code e := dok_at (by decide +kernel) i h
def cd_X10_caskWeight_0 : List En := [(0, .iconst 0, 1, 1, 0), (1, .iload_n 2, 1, 2, 0), (2, .aload_n 0, 1, 3, 0), (3, .getfield 16, 3, 6, 0), (6, .getfield 382, 3, 9, 0), (9, .iload_n 1, 1, 10, 0), (10, .iaload, 1, 11, 0), (11, .isub, 1, 12, 0), (12, .invokestatic 313, 3, 15, 0), (15, .bipush 7, 2, 17, 0), (17, .idiv, 1, 18, 0), (18, .istore_n 3, 1, 19, 0), (19, .iconst 0, 1, 20, 0), (20, .sipush 1000, 3, 23, 0), (23, .aload_n 0, 1, 24, 0), (24, .getfield 30, 3, 27, 0), (27, .iconst 5, 1, 28, 0), (28, .aload_n 0, 1, 29, 0), (29, .getfield 16, 3, 32, 0), (32, .getfield 385, 3, 35, 0), (35, .iload_n 1, 1, 36, 0), (36, .iaload, 1, 37, 0), (37, .iadd, 1, 38, 0), (38, .iload_n 2, 1, 39, 0), (39, .invokevirtual 222, 3, 42, 0), (42, .iload_n 3, 1, 43, 0), (43, .imul, 1, 44, 0), (44, .isub, 1, 45, 0), (45, .invokestatic 313, 3, 48, 0), (48, .istore 4, 2, 50, 0), (50, .aload_n 0, 1, 51, 0), (51, .getfield 16, 3, 54, 0), (54, .getfield 388, 3, 57, 0), (57, .iload_n 1, 1, 58, 0), (58, .iaload, 1, 59, 0), (59, .iload 4, 2, 61, 0), (61, .imul, 1, 62, 0), (62, .sipush 1000, 3, 65, 0), (65, .idiv, 1, 66, 0), (66, .ireturn, 1, 67, 0)]
theorem E_X10_caskWeight_0 {e : En} (i : Nat) (h : nthq cd_X10_caskWeight_0 i = some e) : dok prog_1_method_44_code e := dok_at (by decide +kernel) i h
def cd_X10_wanted_0 : List En := [(0, .iload_n 1, 1, 1, 0), (1, .tableswitch 55 (-1) 2 #[31, 33, 40, 49], 31, 32, 0), (32, .iconst 0, 1, 33, 0), (33, .ireturn, 1, 34, 0), (34, .aload_n 0, 1, 35, 0), (35, .iload_n 2, 1, 36, 0), (36, .iload_n 3, 1, 37, 0), (37, .invokevirtual 297, 3, 40, 0), (40, .ireturn, 1, 41, 0), (41, .aload_n 0, 1, 42, 0), (42, .getfield 46, 3, 45, 0), (45, .iload_n 2, 1, 46, 0), (46, .invokevirtual 389, 3, 49, 0), (49, .ireturn, 1, 50, 0), (50, .aload_n 0, 1, 51, 0), (51, .iload_n 2, 1, 52, 0), (52, .invokevirtual 392, 3, 55, 0), (55, .ireturn, 1, 56, 0), (56, .iload 4, 2, 58, 0), (58, .ireturn, 1, 59, 0)]
theorem E_X10_wanted_0 {e : En} (i : Nat) (h : nthq cd_X10_wanted_0 i = some e) : dok prog_1_method_45_code e := dok_at (by decide +kernel) i h
def cd_X10_unpaidFor_0 : List En := [(0, .iconst 0, 1, 1, 0), (1, .istore_n 2, 1, 2, 0), (2, .iconst 0, 1, 3, 0), (3, .istore_n 3, 1, 4, 0), (4, .iload_n 3, 1, 5, 0), (5, .bipush 8, 2, 7, 0), (7, .if_icmp .ge 20, 3, 10, 27), (10, .iload_n 2, 1, 11, 0), (11, .aload_n 0, 1, 12, 0), (12, .getfield 69, 3, 15, 0), (15, .iload_n 3, 1, 16, 0), (16, .aaload, 1, 17, 0), (17, .iload_n 1, 1, 18, 0), (18, .iaload, 1, 19, 0), (19, .iadd, 1, 20, 0), (20, .istore_n 2, 1, 21, 0), (21, .iinc 3 1, 3, 24, 0), (24, .goto (-20), 3, 27, 4), (27, .iload_n 2, 1, 28, 0), (28, .ireturn, 1, 29, 0)]
theorem E_X10_unpaidFor_0 {e : En} (i : Nat) (h : nthq cd_X10_unpaidFor_0 i = some e) : dok prog_1_method_46_code e := dok_at (by decide +kernel) i h
def cd_X11_init_0 : List En := [(0, .aload_n 0, 1, 1, 0), (1, .invokespecial 1, 3, 4, 0), (4, .aload_n 0, 1, 5, 0), (5, .bipush 12, 2, 7, 0), (7, .newarray .int, 2, 9, 0), (9, .putfield 7, 3, 12, 0), (12, .aload_n 0, 1, 13, 0), (13, .bipush 12, 2, 15, 0), (15, .newarray .int, 2, 17, 0), (17, .putfield 13, 3, 20, 0), (20, .aload_n 0, 1, 21, 0), (21, .bipush 12, 2, 23, 0), (23, .newarray .int, 2, 25, 0), (25, .putfield 16, 3, 28, 0), (28, .aload_n 0, 1, 29, 0), (29, .bipush 12, 2, 31, 0), (31, .newarray .int, 2, 33, 0), (33, .putfield 19, 3, 36, 0), (36, .aload_n 0, 1, 37, 0), (37, .bipush 12, 2, 39, 0), (39, .newarray .int, 2, 41, 0), (41, .putfield 22, 3, 44, 0), (44, .aload_n 0, 1, 45, 0), (45, .bipush 12, 2, 47, 0), (47, .newarray .int, 2, 49, 0), (49, .putfield 25, 3, 52, 0), (52, .aload_n 0, 1, 53, 0), (53, .bipush 6, 2, 55, 0), (55, .newarray .int, 2, 57, 0), (57, .putfield 28, 3, 60, 0), (60, .aload_n 0, 1, 61, 0), (61, .bipush 120, 2, 63, 0), (63, .newarray .int, 2, 65, 0), (65, .putfield 31, 3, 68, 0), (68, .aload_n 0, 1, 69, 0), (69, .bipush 120, 2, 71, 0), (71, .newarray .int, 2, 73, 0), (73, .putfield 34, 3, 76, 0), (76, .aload_n 0, 1, 77, 0), (77, .bipush 120, 2, 79, 0), (79, .newarray .int, 2, 81, 0), (81, .putfield 37, 3, 84, 0), (84, .aload_n 0, 1, 85, 0), (85, .bipush 120, 2, 87, 0), (87, .newarray .int, 2, 89, 0), (89, .putfield 40, 3, 92, 0), (92, .aload_n 0, 1, 93, 0), (93, .bipush 120, 2, 95, 0), (95, .newarray .int, 2, 97, 0), (97, .putfield 43, 3, 100, 0), (100, .aload_n 0, 1, 101, 0), (101, .bipush 120, 2, 103, 0), (103, .newarray .int, 2, 105, 0), (105, .putfield 46, 3, 108, 0), (108, .aload_n 0, 1, 109, 0), (109, .bipush 120, 2, 111, 0), (111, .newarray .int, 2, 113, 0), (113, .putfield 49, 3, 116, 0), (116, .aload_n 0, 1, 117, 0), (117, .bipush 120, 2, 119, 0)]
def cd_X11_init_1 : List En := [(119, .newarray .boolean, 2, 121, 0), (121, .putfield 52, 3, 124, 0), (124, .aload_n 0, 1, 125, 0), (125, .bipush 120, 2, 127, 0), (127, .newarray .boolean, 2, 129, 0), (129, .putfield 56, 3, 132, 0), (132, .aload_n 0, 1, 133, 0), (133, .bipush 120, 2, 135, 0), (135, .newarray .boolean, 2, 137, 0), (137, .putfield 59, 3, 140, 0), (140, .aload_n 0, 1, 141, 0), (141, .bipush 120, 2, 143, 0), (143, .newarray .int, 2, 145, 0), (145, .putfield 62, 3, 148, 0), (148, .aload_n 0, 1, 149, 0), (149, .bipush 8, 2, 151, 0), (151, .newarray .int, 2, 153, 0), (153, .putfield 65, 3, 156, 0), (156, .aload_n 0, 1, 157, 0), (157, .bipush 8, 2, 159, 0), (159, .newarray .int, 2, 161, 0), (161, .putfield 68, 3, 164, 0), (164, .aload_n 0, 1, 165, 0), (165, .bipush 80, 2, 167, 0), (167, .newarray .int, 2, 169, 0), (169, .putfield 71, 3, 172, 0), (172, .aload_n 0, 1, 173, 0), (173, .bipush 80, 2, 175, 0), (175, .newarray .int, 2, 177, 0), (177, .putfield 74, 3, 180, 0), (180, .aload_n 0, 1, 181, 0), (181, .bipush 80, 2, 183, 0), (183, .newarray .int, 2, 185, 0), (185, .putfield 77, 3, 188, 0), (188, .aload_n 0, 1, 189, 0), (189, .sipush 160, 3, 192, 0), (192, .newarray .int, 2, 194, 0), (194, .putfield 80, 3, 197, 0), (197, .aload_n 0, 1, 198, 0), (198, .iconst (-1), 1, 199, 0), (199, .putfield 83, 3, 202, 0), (202, .aload_n 0, 1, 203, 0), (203, .bipush 8, 2, 205, 0), (205, .newarray .boolean, 2, 207, 0), (207, .putfield 87, 3, 210, 0), (210, .aload_n 0, 1, 211, 0), (211, .bipush 8, 2, 213, 0), (213, .newarray .int, 2, 215, 0), (215, .putfield 90, 3, 218, 0), (218, .aload_n 0, 1, 219, 0), (219, .bipush 9, 2, 221, 0), (221, .newarray .int, 2, 223, 0), (223, .putfield 93, 3, 226, 0), (226, .aload_n 0, 1, 227, 0), (227, .bipush 120, 2, 229, 0), (229, .newarray .boolean, 2, 231, 0), (231, .putfield 96, 3, 234, 0), (234, .aload_n 0, 1, 235, 0), (235, .bipush 120, 2, 237, 0), (237, .newarray .int, 2, 239, 0)]
def cd_X11_init_2 : List En := [(239, .putfield 99, 3, 242, 0), (242, .aload_n 0, 1, 243, 0), (243, .bipush 120, 2, 245, 0), (245, .newarray .int, 2, 247, 0), (247, .putfield 102, 3, 250, 0), (250, .aload_n 0, 1, 251, 0), (251, .bipush 120, 2, 253, 0), (253, .newarray .int, 2, 255, 0), (255, .putfield 105, 3, 258, 0), (258, .aload_n 0, 1, 259, 0), (259, .bipush 120, 2, 261, 0), (261, .newarray .int, 2, 263, 0), (263, .putfield 108, 3, 266, 0), (266, .aload_n 0, 1, 267, 0), (267, .bipush 120, 2, 269, 0), (269, .newarray .int, 2, 271, 0), (271, .putfield 111, 3, 274, 0), (274, .aload_n 0, 1, 275, 0), (275, .bipush 120, 2, 277, 0), (277, .newarray .int, 2, 279, 0), (279, .putfield 114, 3, 282, 0), (282, .aload_n 0, 1, 283, 0), (283, .bipush 120, 2, 285, 0), (285, .newarray .int, 2, 287, 0), (287, .putfield 117, 3, 290, 0), (290, .aload_n 0, 1, 291, 0), (291, .bipush 12, 2, 293, 0), (293, .newarray .int, 2, 295, 0), (295, .putfield 120, 3, 298, 0), (298, .aload_n 0, 1, 299, 0), (299, .bipush 12, 2, 301, 0), (301, .newarray .int, 2, 303, 0), (303, .putfield 123, 3, 306, 0), (306, .aload_n 0, 1, 307, 0), (307, .bipush 120, 2, 309, 0), (309, .newarray .int, 2, 311, 0), (311, .putfield 126, 3, 314, 0), (314, .aload_n 0, 1, 315, 0), (315, .bipush 120, 2, 317, 0), (317, .newarray .int, 2, 319, 0), (319, .putfield 129, 3, 322, 0), (322, .aload_n 0, 1, 323, 0), (323, .bipush 120, 2, 325, 0), (325, .newarray .int, 2, 327, 0), (327, .putfield 132, 3, 330, 0), (330, .aload_n 0, 1, 331, 0), (331, .bipush 40, 2, 333, 0), (333, .newarray .int, 2, 335, 0), (335, .putfield 135, 3, 338, 0), (338, .aload_n 0, 1, 339, 0), (339, .bipush 40, 2, 341, 0), (341, .newarray .int, 2, 343, 0), (343, .putfield 138, 3, 346, 0), (346, .aload_n 0, 1, 347, 0), (347, .bipush 40, 2, 349, 0), (349, .newarray .int, 2, 351, 0), (351, .putfield 141, 3, 354, 0), (354, .aload_n 0, 1, 355, 0), (355, .bipush 40, 2, 357, 0), (357, .newarray .int, 2, 359, 0)]
def cd_X11_init_3 : List En := [(359, .putfield 144, 3, 362, 0), (362, .aload_n 0, 1, 363, 0), (363, .bipush 96, 2, 365, 0), (365, .newarray .int, 2, 367, 0), (367, .putfield 147, 3, 370, 0), (370, .aload_n 0, 1, 371, 0), (371, .bipush 32, 2, 373, 0), (373, .newarray .int, 2, 375, 0), (375, .putfield 150, 3, 378, 0), (378, .aload_n 0, 1, 379, 0), (379, .sipush 256, 3, 382, 0), (382, .newarray .int, 2, 384, 0), (384, .putfield 153, 3, 387, 0), (387, .aload_n 0, 1, 388, 0), (388, .bipush 24, 2, 390, 0), (390, .newarray .int, 2, 392, 0), (392, .putfield 156, 3, 395, 0), (395, .aload_n 0, 1, 396, 0), (396, .bipush 24, 2, 398, 0), (398, .newarray .int, 2, 400, 0), (400, .putfield 159, 3, 403, 0), (403, .aload_n 0, 1, 404, 0), (404, .bipush 24, 2, 406, 0), (406, .newarray .int, 2, 408, 0), (408, .putfield 162, 3, 411, 0), (411, .aload_n 0, 1, 412, 0), (412, .bipush 24, 2, 414, 0), (414, .newarray .int, 2, 416, 0), (416, .putfield 165, 3, 419, 0), (419, .aload_n 0, 1, 420, 0), (420, .bipush 24, 2, 422, 0), (422, .newarray .int, 2, 424, 0), (424, .putfield 168, 3, 427, 0), (427, .aload_n 0, 1, 428, 0), (428, .bipush 8, 2, 430, 0), (430, .newarray .int, 2, 432, 0), (432, .putfield 171, 3, 435, 0), (435, .aload_n 0, 1, 436, 0), (436, .bipush 16, 2, 438, 0), (438, .newarray .boolean, 2, 440, 0), (440, .putfield 174, 3, 443, 0), (443, .aload_n 0, 1, 444, 0), (444, .bipush 8, 2, 446, 0), (446, .newarray .int, 2, 448, 0), (448, .putfield 177, 3, 451, 0), (451, .aload_n 0, 1, 452, 0), (452, .bipush 8, 2, 454, 0), (454, .newarray .int, 2, 456, 0), (456, .putfield 180, 3, 459, 0), (459, .aload_n 0, 1, 460, 0), (460, .bipush 8, 2, 462, 0), (462, .newarray .int, 2, 464, 0), (464, .putfield 183, 3, 467, 0), (467, .aload_n 0, 1, 468, 0), (468, .bipush 6, 2, 470, 0), (470, .newarray .int, 2, 472, 0), (472, .putfield 186, 3, 475, 0), (475, .aload_n 0, 1, 476, 0), (476, .bipush 24, 2, 478, 0), (478, .newarray .int, 2, 480, 0)]
def cd_X11_init_4 : List En := [(480, .putfield 189, 3, 483, 0), (483, .aload_n 0, 1, 484, 0), (484, .bipush 9, 2, 486, 0), (486, .newarray .int, 2, 488, 0), (488, .putfield 192, 3, 491, 0), (491, .iconst 0, 1, 492, 0), (492, .istore_n 1, 1, 493, 0), (493, .iload_n 1, 1, 494, 0), (494, .bipush 6, 2, 496, 0), (496, .if_icmp .ge 18, 3, 499, 514), (499, .aload_n 0, 1, 500, 0), (500, .getfield 28, 3, 503, 0), (503, .iload_n 1, 1, 504, 0), (504, .sipush 200, 3, 507, 0), (507, .iastore, 1, 508, 0), (508, .iinc 1 1, 3, 511, 0), (511, .goto (-18), 3, 514, 493), (514, .return_, 1, 515, 0)]
theorem E_X11_init_0 {e : En} (i : Nat) (h : nthq cd_X11_init_0 i = some e) : dok prog_13_method_1_code e := dok_at (by decide +kernel) i h
theorem E_X11_init_1 {e : En} (i : Nat) (h : nthq cd_X11_init_1 i = some e) : dok prog_13_method_1_code e := dok_at (by decide +kernel) i h
theorem E_X11_init_2 {e : En} (i : Nat) (h : nthq cd_X11_init_2 i = some e) : dok prog_13_method_1_code e := dok_at (by decide +kernel) i h
theorem E_X11_init_3 {e : En} (i : Nat) (h : nthq cd_X11_init_3 i = some e) : dok prog_13_method_1_code e := dok_at (by decide +kernel) i h
theorem E_X11_init_4 {e : En} (i : Nat) (h : nthq cd_X11_init_4 i = some e) : dok prog_13_method_1_code e := dok_at (by decide +kernel) i h
def cd_X11_in_0 : List En := [(0, .lload_n 0, 1, 1, 0), (1, .lload_n 2, 1, 2, 0), (2, .lcmp, 1, 3, 0), (3, .ifCond .lt 14, 3, 6, 17), (6, .lload_n 0, 1, 7, 0), (7, .lload 4, 2, 9, 0), (9, .lcmp, 1, 10, 0), (10, .ifCond .gt 7, 3, 13, 17), (13, .iconst 1, 1, 14, 0), (14, .goto 4, 3, 17, 18), (17, .iconst 0, 1, 18, 0), (18, .ireturn, 1, 19, 0)]
theorem E_X11_in_0 {e : En} (i : Nat) (h : nthq cd_X11_in_0 i = some e) : dok prog_13_method_3_code e := dok_at (by decide +kernel) i h
def cd_X11_one_0 : List En := [(0, .iload_n 0, 1, 1, 0), (1, .ifCond .eq 7, 3, 4, 8), (4, .iconst 1, 1, 5, 0), (5, .goto 4, 3, 8, 9), (8, .iconst 0, 1, 9, 0), (9, .ireturn, 1, 10, 0)]
theorem E_X11_one_0 {e : En} (i : Nat) (h : nthq cd_X11_one_0 i = some e) : dok prog_13_method_4_code e := dok_at (by decide +kernel) i h
def cd_X11_isHouse_0 : List En := [(0, .iload_n 0, 1, 1, 0), (1, .i2l, 1, 2, 0), (2, .lconst 0, 1, 3, 0), (3, .ldc2_w 195, 3, 6, 0), (6, .invokestatic 197, 3, 9, 0), (9, .ireturn, 1, 10, 0)]
theorem E_X11_isHouse_0 {e : En} (i : Nat) (h : nthq cd_X11_isHouse_0 i = some e) : dok prog_13_method_5_code e := dok_at (by decide +kernel) i h
def cd_X11_isFloor_0 : List En := [(0, .iload_n 0, 1, 1, 0), (1, .i2l, 1, 2, 0), (2, .lconst 0, 1, 3, 0), (3, .ldc2_w 201, 3, 6, 0), (6, .invokestatic 197, 3, 9, 0), (9, .ireturn, 1, 10, 0)]
theorem E_X11_isFloor_0 {e : En} (i : Nat) (h : nthq cd_X11_isFloor_0 i = some e) : dok prog_13_method_6_code e := dok_at (by decide +kernel) i h
def cd_X11_isDay_0 : List En := [(0, .iload_n 0, 1, 1, 0), (1, .i2l, 1, 2, 0), (2, .lconst 0, 1, 3, 0), (3, .ldc2_w 203, 3, 6, 0), (6, .invokestatic 197, 3, 9, 0), (9, .ireturn, 1, 10, 0)]
theorem E_X11_isDay_0 {e : En} (i : Nat) (h : nthq cd_X11_isDay_0 i = some e) : dok prog_13_method_7_code e := dok_at (by decide +kernel) i h
def cd_X11_isKnown_0 : List En := [(0, .iload_n 1, 1, 1, 0), (1, .i2l, 1, 2, 0), (2, .lconst 0, 1, 3, 0), (3, .aload_n 0, 1, 4, 0), (4, .getfield 205, 3, 7, 0), (7, .i2l, 1, 8, 0), (8, .invokestatic 197, 3, 11, 0), (11, .ireturn, 1, 12, 0)]
theorem E_X11_isKnown_0 {e : En} (i : Nat) (h : nthq cd_X11_isKnown_0 i = some e) : dok prog_13_method_8_code e := dok_at (by decide +kernel) i h
def cd_X11_gcd_0 : List En := [(0, .iload_n 0, 1, 1, 0), (1, .istore_n 2, 1, 2, 0), (2, .iload_n 1, 1, 3, 0), (3, .istore_n 3, 1, 4, 0), (4, .iload_n 3, 1, 5, 0), (5, .ifCond .eq 16, 3, 8, 21), (8, .iload_n 2, 1, 9, 0), (9, .iload_n 3, 1, 10, 0), (10, .irem, 1, 11, 0), (11, .istore 4, 2, 13, 0), (13, .iload_n 3, 1, 14, 0), (14, .istore_n 2, 1, 15, 0), (15, .iload 4, 2, 17, 0), (17, .istore_n 3, 1, 18, 0), (18, .goto (-14), 3, 21, 4), (21, .iload_n 2, 1, 22, 0), (22, .ireturn, 1, 23, 0)]
theorem E_X11_gcd_0 {e : En} (i : Nat) (h : nthq cd_X11_gcd_0 i = some e) : dok prog_13_method_9_code e := dok_at (by decide +kernel) i h
def cd_X11_noLot_0 : List En := [(0, .iload_n 1, 1, 1, 0), (1, .i2l, 1, 2, 0), (2, .lconst 0, 1, 3, 0), (3, .aload_n 0, 1, 4, 0), (4, .getfield 208, 3, 7, 0), (7, .iconst 1, 1, 8, 0), (8, .isub, 1, 9, 0), (9, .i2l, 1, 10, 0), (10, .invokestatic 197, 3, 13, 0), (13, .ifCond .ne 7, 3, 16, 20), (16, .iconst 1, 1, 17, 0), (17, .goto 4, 3, 20, 21), (20, .iconst 0, 1, 21, 0), (21, .ireturn, 1, 22, 0)]
theorem E_X11_noLot_0 {e : En} (i : Nat) (h : nthq cd_X11_noLot_0 i = some e) : dok prog_13_method_10_code e := dok_at (by decide +kernel) i h
def cd_X11_go_0 : List En := [(0, .iload_n 1, 1, 1, 0), (1, .i2l, 1, 2, 0), (2, .lconst 0, 1, 3, 0), (3, .ldc2_w 211, 3, 6, 0), (6, .invokestatic 197, 3, 9, 0), (9, .ifCond .ne 7, 3, 12, 16), (12, .sipush (-1002), 3, 15, 0), (15, .ireturn, 1, 16, 0), (16, .aload_n 0, 1, 17, 0), (17, .getfield 205, 3, 20, 0), (20, .iload_n 1, 1, 21, 0), (21, .iadd, 1, 22, 0), (22, .sipush 2000, 3, 25, 0), (25, .if_icmp .le 7, 3, 28, 32), (28, .sipush (-1003), 3, 31, 0), (31, .ireturn, 1, 32, 0), (32, .aload_n 0, 1, 33, 0), (33, .dup, 1, 34, 0), (34, .getfield 205, 3, 37, 0), (37, .iload_n 1, 1, 38, 0), (38, .iadd, 1, 39, 0), (39, .putfield 205, 3, 42, 0), (42, .aload_n 0, 1, 43, 0), (43, .getfield 205, 3, 46, 0), (46, .ireturn, 1, 47, 0)]
theorem E_X11_go_0 {e : En} (i : Nat) (h : nthq cd_X11_go_0 i = some e) : dok prog_13_method_11_code e := dok_at (by decide +kernel) i h
def cd_X11_lot_0 : List En := [(0, .iload 4, 2, 2, 0), (2, .invokestatic 213, 3, 5, 0), (5, .ifCond .eq 11, 3, 8, 16), (8, .iload 5, 2, 10, 0), (10, .invokestatic 217, 3, 13, 0), (13, .ifCond .ne 7, 3, 16, 20), (16, .sipush (-1001), 3, 19, 0), (19, .ireturn, 1, 20, 0), (20, .iload_n 1, 1, 21, 0), (21, .i2l, 1, 22, 0), (22, .lconst 0, 1, 23, 0), (23, .ldc2_w 220, 3, 26, 0), (26, .invokestatic 197, 3, 29, 0), (29, .ifCond .eq 27, 3, 32, 56), (32, .iload_n 2, 1, 33, 0), (33, .i2l, 1, 34, 0), (34, .lconst 1, 1, 35, 0), (35, .ldc2_w 222, 3, 38, 0), (38, .invokestatic 197, 3, 41, 0), (41, .ifCond .eq 15, 3, 44, 56), (44, .iload_n 3, 1, 45, 0), (45, .i2l, 1, 46, 0), (46, .lconst 1, 1, 47, 0), (47, .ldc2_w 211, 3, 50, 0), (50, .invokestatic 197, 3, 53, 0), (53, .ifCond .ne 7, 3, 56, 60), (56, .sipush (-1002), 3, 59, 0), (59, .ireturn, 1, 60, 0), (60, .aload_n 0, 1, 61, 0), (61, .getfield 208, 3, 64, 0), (64, .bipush 12, 2, 66, 0), (66, .if_icmp .ne 7, 3, 69, 73), (69, .sipush (-1004), 3, 72, 0), (72, .ireturn, 1, 73, 0), (73, .aload_n 0, 1, 74, 0), (74, .getfield 7, 3, 77, 0), (77, .aload_n 0, 1, 78, 0), (78, .getfield 208, 3, 81, 0), (81, .iload_n 1, 1, 82, 0), (82, .iastore, 1, 83, 0), (83, .aload_n 0, 1, 84, 0), (84, .getfield 13, 3, 87, 0), (87, .aload_n 0, 1, 88, 0), (88, .getfield 208, 3, 91, 0), (91, .iload_n 2, 1, 92, 0), (92, .iastore, 1, 93, 0), (93, .aload_n 0, 1, 94, 0), (94, .getfield 16, 3, 97, 0), (97, .aload_n 0, 1, 98, 0), (98, .getfield 208, 3, 101, 0), (101, .iload_n 3, 1, 102, 0), (102, .iastore, 1, 103, 0), (103, .aload_n 0, 1, 104, 0), (104, .getfield 19, 3, 107, 0), (107, .aload_n 0, 1, 108, 0), (108, .getfield 208, 3, 111, 0), (111, .iload 4, 2, 113, 0), (113, .iastore, 1, 114, 0), (114, .aload_n 0, 1, 115, 0), (115, .getfield 22, 3, 118, 0)]
def cd_X11_lot_1 : List En := [(118, .aload_n 0, 1, 119, 0), (119, .getfield 208, 3, 122, 0), (122, .iload 5, 2, 124, 0), (124, .iastore, 1, 125, 0), (125, .aload_n 0, 1, 126, 0), (126, .getfield 25, 3, 129, 0), (129, .aload_n 0, 1, 130, 0), (130, .getfield 208, 3, 133, 0), (133, .aload_n 0, 1, 134, 0), (134, .getfield 205, 3, 137, 0), (137, .iastore, 1, 138, 0), (138, .aload_n 0, 1, 139, 0), (139, .dup, 1, 140, 0), (140, .getfield 208, 3, 143, 0), (143, .iconst 1, 1, 144, 0), (144, .iadd, 1, 145, 0), (145, .putfield 208, 3, 148, 0), (148, .aload_n 0, 1, 149, 0), (149, .getfield 208, 3, 152, 0), (152, .iconst 1, 1, 153, 0), (153, .isub, 1, 154, 0), (154, .ireturn, 1, 155, 0)]
theorem E_X11_lot_0 {e : En} (i : Nat) (h : nthq cd_X11_lot_0 i = some e) : dok prog_13_method_12_code e := dok_at (by decide +kernel) i h
theorem E_X11_lot_1 {e : En} (i : Nat) (h : nthq cd_X11_lot_1 i = some e) : dok prog_13_method_12_code e := dok_at (by decide +kernel) i h
def cd_X11_room_0 : List En := [(0, .iload_n 1, 1, 1, 0), (1, .invokestatic 217, 3, 4, 0), (4, .ifCond .ne 7, 3, 7, 11), (7, .sipush (-1001), 3, 10, 0), (10, .ireturn, 1, 11, 0), (11, .iload_n 2, 1, 12, 0), (12, .i2l, 1, 13, 0), (13, .lconst 0, 1, 14, 0), (14, .ldc2_w 211, 3, 17, 0), (17, .invokestatic 197, 3, 20, 0), (20, .ifCond .ne 7, 3, 23, 27), (23, .sipush (-1002), 3, 26, 0), (26, .ireturn, 1, 27, 0), (27, .aload_n 0, 1, 28, 0), (28, .getfield 28, 3, 31, 0), (31, .iload_n 1, 1, 32, 0), (32, .iaload, 1, 33, 0), (33, .istore_n 3, 1, 34, 0), (34, .aload_n 0, 1, 35, 0), (35, .getfield 28, 3, 38, 0), (38, .iload_n 1, 1, 39, 0), (39, .iload_n 2, 1, 40, 0), (40, .iastore, 1, 41, 0), (41, .iload_n 3, 1, 42, 0), (42, .ireturn, 1, 43, 0)]
theorem E_X11_room_0 {e : En} (i : Nat) (h : nthq cd_X11_room_0 i = some e) : dok prog_13_method_13_code e := dok_at (by decide +kernel) i h
def cd_X11_move_0 : List En := [(0, .aload_n 0, 1, 1, 0), (1, .iload_n 1, 1, 2, 0), (2, .invokevirtual 224, 3, 5, 0), (5, .ifCond .ne 10, 3, 8, 15), (8, .iload_n 2, 1, 9, 0), (9, .invokestatic 217, 3, 12, 0), (12, .ifCond .ne 7, 3, 15, 19), (15, .sipush (-1001), 3, 18, 0), (18, .ireturn, 1, 19, 0), (19, .aload_n 0, 1, 20, 0), (20, .getfield 22, 3, 23, 0), (23, .iload_n 1, 1, 24, 0), (24, .iaload, 1, 25, 0), (25, .iload_n 2, 1, 26, 0), (26, .if_icmp .ne 7, 3, 29, 33), (29, .sipush (-1003), 3, 32, 0), (32, .ireturn, 1, 33, 0), (33, .aload_n 0, 1, 34, 0), (34, .getfield 22, 3, 37, 0), (37, .iload_n 1, 1, 38, 0), (38, .iaload, 1, 39, 0), (39, .istore_n 3, 1, 40, 0), (40, .aload_n 0, 1, 41, 0), (41, .getfield 22, 3, 44, 0), (44, .iload_n 1, 1, 45, 0), (45, .iload_n 2, 1, 46, 0), (46, .iastore, 1, 47, 0), (47, .iload_n 3, 1, 48, 0), (48, .ireturn, 1, 49, 0)]
theorem E_X11_move_0 {e : En} (i : Nat) (h : nthq cd_X11_move_0 i = some e) : dok prog_13_method_14_code e := dok_at (by decide +kernel) i h
def cd_X11_hasP_0 : List En := [(0, .iload_n 0, 1, 1, 0), (1, .ifCond .eq 24, 3, 4, 25), (4, .iload_n 0, 1, 5, 0), (5, .iconst 1, 1, 6, 0), (6, .if_icmp .eq 19, 3, 9, 25), (9, .iload_n 0, 1, 10, 0), (10, .iconst 3, 1, 11, 0), (11, .if_icmp .eq 14, 3, 14, 25), (14, .iload_n 0, 1, 15, 0), (15, .iconst 5, 1, 16, 0), (16, .if_icmp .eq 9, 3, 19, 25), (19, .iload_n 0, 1, 20, 0), (20, .bipush 9, 2, 22, 0), (22, .if_icmp .ne 7, 3, 25, 29), (25, .iconst 1, 1, 26, 0), (26, .goto 4, 3, 29, 30), (29, .iconst 0, 1, 30, 0), (30, .ireturn, 1, 31, 0)]
theorem E_X11_hasP_0 {e : En} (i : Nat) (h : nthq cd_X11_hasP_0 i = some e) : dok prog_13_method_15_code e := dok_at (by decide +kernel) i h
def cd_X11_isOfLot_0 : List En := [(0, .iload_n 0, 1, 1, 0), (1, .ifCond .eq 9, 3, 4, 10), (4, .iload_n 0, 1, 5, 0), (5, .bipush 8, 2, 7, 0), (7, .if_icmp .ne 7, 3, 10, 14), (10, .iconst 1, 1, 11, 0), (11, .goto 4, 3, 14, 15), (14, .iconst 0, 1, 15, 0), (15, .ireturn, 1, 16, 0)]
theorem E_X11_isOfLot_0 {e : En} (i : Nat) (h : nthq cd_X11_isOfLot_0 i = some e) : dok prog_13_method_16_code e := dok_at (by decide +kernel) i h
def cd_X11_hasMany_0 : List En := [(0, .iload_n 0, 1, 1, 0), (1, .iconst 3, 1, 2, 0), (2, .if_icmp .le 15, 3, 5, 17), (5, .iload_n 0, 1, 6, 0), (6, .bipush 7, 2, 8, 0), (8, .if_icmp .eq 9, 3, 11, 17), (11, .iload_n 0, 1, 12, 0), (12, .bipush 8, 2, 14, 0), (14, .if_icmp .ne 7, 3, 17, 21), (17, .iconst 1, 1, 18, 0), (18, .goto 4, 3, 21, 22), (21, .iconst 0, 1, 22, 0), (22, .ireturn, 1, 23, 0)]
theorem E_X11_hasMany_0 {e : En} (i : Nat) (h : nthq cd_X11_hasMany_0 i = some e) : dok prog_13_method_17_code e := dok_at (by decide +kernel) i h
def cd_X11_mostOf_0 : List En := [(0, .iload_n 0, 1, 1, 0), (1, .iconst 1, 1, 2, 0), (2, .if_icmp .ne 7, 3, 5, 9), (5, .iconst 1, 1, 6, 0), (6, .goto 17, 3, 9, 23), (9, .iload_n 0, 1, 10, 0), (10, .iconst 3, 1, 11, 0), (11, .if_icmp .ne 9, 3, 14, 20), (14, .sipush 9999, 3, 17, 0), (17, .goto 6, 3, 20, 23), (20, .sipush 200, 3, 23, 0), (23, .ireturn, 1, 24, 0)]
theorem E_X11_mostOf_0 {e : En} (i : Nat) (h : nthq cd_X11_mostOf_0 i = some e) : dok prog_13_method_18_code e := dok_at (by decide +kernel) i h
def cd_X11_isPaper_0 : List En := [(0, .iload_n 1, 1, 1, 0), (1, .i2l, 1, 2, 0), (2, .lconst 0, 1, 3, 0), (3, .aload_n 0, 1, 4, 0), (4, .getfield 227, 3, 7, 0), (7, .iconst 1, 1, 8, 0), (8, .isub, 1, 9, 0), (9, .i2l, 1, 10, 0), (10, .invokestatic 197, 3, 13, 0), (13, .ifCond .eq 26, 3, 16, 39), (16, .aload_n 0, 1, 17, 0), (17, .getfield 31, 3, 20, 0), (20, .iload_n 1, 1, 21, 0), (21, .iaload, 1, 22, 0), (22, .ifCond .eq 13, 3, 25, 35), (25, .aload_n 0, 1, 26, 0), (26, .getfield 31, 3, 29, 0), (29, .iload_n 1, 1, 30, 0), (30, .iaload, 1, 31, 0), (31, .iconst 2, 1, 32, 0), (32, .if_icmp .ne 7, 3, 35, 39), (35, .iconst 1, 1, 36, 0), (36, .goto 4, 3, 39, 40), (39, .iconst 0, 1, 40, 0), (40, .ireturn, 1, 41, 0)]
theorem E_X11_isPaper_0 {e : En} (i : Nat) (h : nthq cd_X11_isPaper_0 i = some e) : dok prog_13_method_19_code e := dok_at (by decide +kernel) i h
def cd_X11_noTarget_0 : List En := [(0, .iload_n 1, 1, 1, 0), (1, .invokestatic 230, 3, 4, 0), (4, .ifCond .eq 11, 3, 7, 15), (7, .aload_n 0, 1, 8, 0), (8, .iload_n 2, 1, 9, 0), (9, .invokevirtual 224, 3, 12, 0), (12, .goto 46, 3, 15, 58), (15, .iload_n 1, 1, 16, 0), (16, .bipush 10, 2, 18, 0), (18, .if_icmp .ne 27, 3, 21, 45), (21, .iload_n 2, 1, 22, 0), (22, .i2l, 1, 23, 0), (23, .lconst 0, 1, 24, 0), (24, .aload_n 0, 1, 25, 0), (25, .getfield 227, 3, 28, 0), (28, .iconst 1, 1, 29, 0), (29, .isub, 1, 30, 0), (30, .i2l, 1, 31, 0), (31, .invokestatic 197, 3, 34, 0), (34, .ifCond .ne 7, 3, 37, 41), (37, .iconst 1, 1, 38, 0), (38, .goto 20, 3, 41, 58), (41, .iconst 0, 1, 42, 0), (42, .goto 16, 3, 45, 58), (45, .aload_n 0, 1, 46, 0), (46, .iload_n 2, 1, 47, 0), (47, .invokevirtual 233, 3, 50, 0), (50, .ifCond .ne 7, 3, 53, 57), (53, .iconst 1, 1, 54, 0), (54, .goto 4, 3, 57, 58), (57, .iconst 0, 1, 58, 0), (58, .ireturn, 1, 59, 0)]
theorem E_X11_noTarget_0 {e : En} (i : Nat) (h : nthq cd_X11_noTarget_0 i = some e) : dok prog_13_method_20_code e := dok_at (by decide +kernel) i h
def cd_X11_line_0 : List En := [(0, .iload_n 1, 1, 1, 0), (1, .i2l, 1, 2, 0), (2, .lconst 0, 1, 3, 0), (3, .ldc2_w 236, 3, 6, 0), (6, .invokestatic 197, 3, 9, 0), (9, .ifCond .ne 7, 3, 12, 16), (12, .sipush (-1002), 3, 15, 0), (15, .ireturn, 1, 16, 0), (16, .aload_n 0, 1, 17, 0), (17, .iload_n 1, 1, 18, 0), (18, .iload_n 3, 1, 19, 0), (19, .invokevirtual 238, 3, 22, 0), (22, .ifCond .ne 31, 3, 25, 53), (25, .iload_n 1, 1, 26, 0), (26, .invokestatic 242, 3, 29, 0), (29, .ifCond .eq 11, 3, 32, 40), (32, .iload 4, 2, 34, 0), (34, .invokestatic 213, 3, 37, 0), (37, .ifCond .eq 16, 3, 40, 53), (40, .iload_n 1, 1, 41, 0), (41, .iconst 1, 1, 42, 0), (42, .if_icmp .ne 15, 3, 45, 57), (45, .iload 5, 2, 47, 0), (47, .invokestatic 213, 3, 50, 0), (50, .ifCond .ne 7, 3, 53, 57), (53, .sipush (-1001), 3, 56, 0), (56, .ireturn, 1, 57, 0), (57, .aload_n 0, 1, 58, 0), (58, .iload_n 2, 1, 59, 0), (59, .invokevirtual 245, 3, 62, 0), (62, .ifCond .eq 34, 3, 65, 96), (65, .iload_n 1, 1, 66, 0), (66, .invokestatic 248, 3, 69, 0), (69, .ifCond .eq 31, 3, 72, 100), (72, .iload 6, 2, 74, 0), (74, .i2l, 1, 75, 0), (75, .iload_n 1, 1, 76, 0), (76, .iconst 1, 1, 77, 0), (77, .if_icmp .ne 7, 3, 80, 84), (80, .lconst 0, 1, 81, 0), (81, .goto 4, 3, 84, 85), (84, .lconst 1, 1, 85, 0), (85, .iload_n 1, 1, 86, 0), (86, .invokestatic 251, 3, 89, 0), (89, .i2l, 1, 90, 0), (90, .invokestatic 197, 3, 93, 0), (93, .ifCond .ne 7, 3, 96, 100), (96, .sipush (-1002), 3, 99, 0), (99, .ireturn, 1, 100, 0), (100, .aload_n 0, 1, 101, 0), (101, .getfield 227, 3, 104, 0), (104, .bipush 120, 2, 106, 0), (106, .if_icmp .ne 7, 3, 109, 113), (109, .sipush (-1004), 3, 112, 0), (112, .ireturn, 1, 113, 0), (113, .aload_n 0, 1, 114, 0), (114, .getfield 31, 3, 117, 0), (117, .aload_n 0, 1, 118, 0), (118, .getfield 227, 3, 121, 0), (121, .iload_n 1, 1, 122, 0)]
def cd_X11_line_1 : List En := [(122, .iastore, 1, 123, 0), (123, .aload_n 0, 1, 124, 0), (124, .getfield 34, 3, 127, 0), (127, .aload_n 0, 1, 128, 0), (128, .getfield 227, 3, 131, 0), (131, .iload_n 2, 1, 132, 0), (132, .iastore, 1, 133, 0), (133, .aload_n 0, 1, 134, 0), (134, .getfield 37, 3, 137, 0), (137, .aload_n 0, 1, 138, 0), (138, .getfield 227, 3, 141, 0), (141, .aload_n 0, 1, 142, 0), (142, .getfield 205, 3, 145, 0), (145, .iastore, 1, 146, 0), (146, .aload_n 0, 1, 147, 0), (147, .getfield 40, 3, 150, 0), (150, .aload_n 0, 1, 151, 0), (151, .getfield 227, 3, 154, 0), (154, .iload_n 3, 1, 155, 0), (155, .iastore, 1, 156, 0), (156, .aload_n 0, 1, 157, 0), (157, .getfield 43, 3, 160, 0), (160, .aload_n 0, 1, 161, 0), (161, .getfield 227, 3, 164, 0), (164, .iload_n 1, 1, 165, 0), (165, .invokestatic 242, 3, 168, 0), (168, .ifCond .eq 8, 3, 171, 176), (171, .iload 4, 2, 173, 0), (173, .goto 4, 3, 176, 177), (176, .iconst (-1), 1, 177, 0), (177, .iastore, 1, 178, 0), (178, .aload_n 0, 1, 179, 0), (179, .getfield 46, 3, 182, 0), (182, .aload_n 0, 1, 183, 0), (183, .getfield 227, 3, 186, 0), (186, .iload_n 1, 1, 187, 0), (187, .iconst 1, 1, 188, 0), (188, .if_icmp .ne 8, 3, 191, 196), (191, .iload 5, 2, 193, 0), (193, .goto 4, 3, 196, 197), (196, .iconst (-1), 1, 197, 0), (197, .iastore, 1, 198, 0), (198, .aload_n 0, 1, 199, 0), (199, .getfield 49, 3, 202, 0), (202, .aload_n 0, 1, 203, 0), (203, .getfield 227, 3, 206, 0), (206, .iload_n 1, 1, 207, 0), (207, .invokestatic 248, 3, 210, 0), (210, .ifCond .eq 8, 3, 213, 218), (213, .iload 6, 2, 215, 0), (215, .goto 4, 3, 218, 219), (218, .iconst (-1), 1, 219, 0), (219, .iastore, 1, 220, 0), (220, .aload_n 0, 1, 221, 0), (221, .dup, 1, 222, 0), (222, .getfield 227, 3, 225, 0), (225, .iconst 1, 1, 226, 0), (226, .iadd, 1, 227, 0), (227, .putfield 227, 3, 230, 0), (230, .aload_n 0, 1, 231, 0)]
def cd_X11_line_2 : List En := [(231, .getfield 227, 3, 234, 0), (234, .iconst 1, 1, 235, 0), (235, .isub, 1, 236, 0), (236, .ireturn, 1, 237, 0)]
theorem E_X11_line_0 {e : En} (i : Nat) (h : nthq cd_X11_line_0 i = some e) : dok prog_13_method_21_code e := dok_at (by decide +kernel) i h
theorem E_X11_line_1 {e : En} (i : Nat) (h : nthq cd_X11_line_1 i = some e) : dok prog_13_method_21_code e := dok_at (by decide +kernel) i h
theorem E_X11_line_2 {e : En} (i : Nat) (h : nthq cd_X11_line_2 i = some e) : dok prog_13_method_21_code e := dok_at (by decide +kernel) i h
def cd_X11_findBook_0 : List En := [(0, .iconst 0, 1, 1, 0), (1, .istore_n 2, 1, 2, 0), (2, .iload_n 2, 1, 3, 0), (3, .aload_n 0, 1, 4, 0), (4, .getfield 227, 3, 7, 0), (7, .if_icmp .ge 16, 3, 10, 23), (10, .aload_n 0, 1, 11, 0), (11, .getfield 52, 3, 14, 0), (14, .iload_n 2, 1, 15, 0), (15, .iconst 0, 1, 16, 0), (16, .bastore, 1, 17, 0), (17, .iinc 2 1, 3, 20, 0), (20, .goto (-18), 3, 23, 2), (23, .aload_n 0, 1, 24, 0), (24, .getfield 227, 3, 27, 0), (27, .iconst 1, 1, 28, 0), (28, .isub, 1, 29, 0), (29, .istore_n 2, 1, 30, 0), (30, .iload_n 2, 1, 31, 0), (31, .ifCond .lt 51, 3, 34, 82), (34, .aload_n 0, 1, 35, 0), (35, .getfield 37, 3, 38, 0), (38, .iload_n 2, 1, 39, 0), (39, .iaload, 1, 40, 0), (40, .iload_n 1, 1, 41, 0), (41, .if_icmp .gt 35, 3, 44, 76), (44, .aload_n 0, 1, 45, 0), (45, .getfield 31, 3, 48, 0), (48, .iload_n 2, 1, 49, 0), (49, .iaload, 1, 50, 0), (50, .bipush 10, 2, 52, 0), (52, .if_icmp .ne 24, 3, 55, 76), (55, .aload_n 0, 1, 56, 0), (56, .getfield 52, 3, 59, 0), (59, .iload_n 2, 1, 60, 0), (60, .baload, 1, 61, 0), (61, .ifCond .ne 15, 3, 64, 76), (64, .aload_n 0, 1, 65, 0), (65, .getfield 52, 3, 68, 0), (68, .aload_n 0, 1, 69, 0), (69, .getfield 40, 3, 72, 0), (72, .iload_n 2, 1, 73, 0), (73, .iaload, 1, 74, 0), (74, .iconst 1, 1, 75, 0), (75, .bastore, 1, 76, 0), (76, .iinc 2 (-1), 3, 79, 0), (79, .goto (-49), 3, 82, 30), (82, .aload_n 0, 1, 83, 0), (83, .iconst 0, 1, 84, 0), (84, .putfield 255, 3, 87, 0), (87, .iconst 0, 1, 88, 0), (88, .istore_n 2, 1, 89, 0), (89, .iload_n 2, 1, 90, 0), (90, .aload_n 0, 1, 91, 0), (91, .getfield 227, 3, 94, 0), (94, .if_icmp .ge 96, 3, 97, 190), (97, .aload_n 0, 1, 98, 0), (98, .getfield 37, 3, 101, 0), (101, .iload_n 2, 1, 102, 0), (102, .iaload, 1, 103, 0)]
def cd_X11_findBook_1 : List En := [(103, .iload_n 1, 1, 104, 0), (104, .if_icmp .gt 80, 3, 107, 184), (107, .aload_n 0, 1, 108, 0), (108, .getfield 52, 3, 111, 0), (111, .iload_n 2, 1, 112, 0), (112, .baload, 1, 113, 0), (113, .ifCond .ne 71, 3, 116, 184), (116, .aload_n 0, 1, 117, 0), (117, .getfield 255, 3, 120, 0), (120, .istore_n 3, 1, 121, 0), (121, .iload_n 3, 1, 122, 0), (122, .ifCond .le 45, 3, 125, 167), (125, .aload_n 0, 1, 126, 0), (126, .getfield 34, 3, 129, 0), (129, .aload_n 0, 1, 130, 0), (130, .getfield 62, 3, 133, 0), (133, .iload_n 3, 1, 134, 0), (134, .iconst 1, 1, 135, 0), (135, .isub, 1, 136, 0), (136, .iaload, 1, 137, 0), (137, .iaload, 1, 138, 0), (138, .aload_n 0, 1, 139, 0), (139, .getfield 34, 3, 142, 0), (142, .iload_n 2, 1, 143, 0), (143, .iaload, 1, 144, 0), (144, .if_icmp .le 23, 3, 147, 167), (147, .aload_n 0, 1, 148, 0), (148, .getfield 62, 3, 151, 0), (151, .iload_n 3, 1, 152, 0), (152, .aload_n 0, 1, 153, 0), (153, .getfield 62, 3, 156, 0), (156, .iload_n 3, 1, 157, 0), (157, .iconst 1, 1, 158, 0), (158, .isub, 1, 159, 0), (159, .iaload, 1, 160, 0), (160, .iastore, 1, 161, 0), (161, .iinc 3 (-1), 3, 164, 0), (164, .goto (-43), 3, 167, 121), (167, .aload_n 0, 1, 168, 0), (168, .getfield 62, 3, 171, 0), (171, .iload_n 3, 1, 172, 0), (172, .iload_n 2, 1, 173, 0), (173, .iastore, 1, 174, 0), (174, .aload_n 0, 1, 175, 0), (175, .dup, 1, 176, 0), (176, .getfield 255, 3, 179, 0), (179, .iconst 1, 1, 180, 0), (180, .iadd, 1, 181, 0), (181, .putfield 255, 3, 184, 0), (184, .iinc 2 1, 3, 187, 0), (187, .goto (-98), 3, 190, 89), (190, .return_, 1, 191, 0)]
theorem E_X11_findBook_0 {e : En} (i : Nat) (h : nthq cd_X11_findBook_0 i = some e) : dok prog_13_method_22_code e := dok_at (by decide +kernel) i h
theorem E_X11_findBook_1 {e : En} (i : Nat) (h : nthq cd_X11_findBook_1 i = some e) : dok prog_13_method_22_code e := dok_at (by decide +kernel) i h
def cd_X11_book_0 : List En := [(0, .aload_n 0, 1, 1, 0), (1, .iload_n 1, 1, 2, 0), (2, .invokevirtual 245, 3, 5, 0), (5, .ifCond .ne 7, 3, 8, 12), (8, .sipush (-1002), 3, 11, 0), (11, .ireturn, 1, 12, 0), (12, .aload_n 0, 1, 13, 0), (13, .iload_n 1, 1, 14, 0), (14, .invokevirtual 258, 3, 17, 0), (17, .iload_n 2, 1, 18, 0), (18, .i2l, 1, 19, 0), (19, .lconst 0, 1, 20, 0), (20, .aload_n 0, 1, 21, 0), (21, .getfield 255, 3, 24, 0), (24, .iconst 1, 1, 25, 0), (25, .isub, 1, 26, 0), (26, .i2l, 1, 27, 0), (27, .invokestatic 197, 3, 30, 0), (30, .ifCond .eq 12, 3, 33, 42), (33, .aload_n 0, 1, 34, 0), (34, .getfield 62, 3, 37, 0), (37, .iload_n 2, 1, 38, 0), (38, .iaload, 1, 39, 0), (39, .goto 4, 3, 42, 43), (42, .iconst (-1), 1, 43, 0), (43, .ireturn, 1, 44, 0)]
theorem E_X11_book_0 {e : En} (i : Nat) (h : nthq cd_X11_book_0 i = some e) : dok prog_13_method_23_code e := dok_at (by decide +kernel) i h
def cd_X11_feed_0 : List En := [(0, .iload_n 1, 1, 1, 0), (1, .i2l, 1, 2, 0), (2, .lconst 1, 1, 3, 0), (3, .ldc2_w 262, 3, 6, 0), (6, .invokestatic 197, 3, 9, 0), (9, .ifCond .ne 7, 3, 12, 16), (12, .sipush (-1002), 3, 15, 0), (15, .ireturn, 1, 16, 0), (16, .aload_n 0, 1, 17, 0), (17, .getfield 264, 3, 20, 0), (20, .iload_n 1, 1, 21, 0), (21, .iadd, 1, 22, 0), (22, .sipush 160, 3, 25, 0), (25, .if_icmp .le 7, 3, 28, 32), (28, .sipush (-1004), 3, 31, 0), (31, .ireturn, 1, 32, 0), (32, .iload_n 1, 1, 33, 0), (33, .iconst 1, 1, 34, 0), (34, .isub, 1, 35, 0), (35, .istore 4, 2, 37, 0), (37, .iload 4, 2, 39, 0), (39, .ifCond .lt 40, 3, 42, 79), (42, .aload_n 0, 1, 43, 0), (43, .getfield 80, 3, 46, 0), (46, .aload_n 0, 1, 47, 0), (47, .getfield 264, 3, 50, 0), (50, .lload_n 2, 1, 51, 0), (51, .bipush 8, 2, 53, 0), (53, .iload 4, 2, 55, 0), (55, .imul, 1, 56, 0), (56, .lshr, 1, 57, 0), (57, .ldc2_w 267, 3, 60, 0), (60, .land, 1, 61, 0), (61, .l2i, 1, 62, 0), (62, .iastore, 1, 63, 0), (63, .aload_n 0, 1, 64, 0), (64, .dup, 1, 65, 0), (65, .getfield 264, 3, 68, 0), (68, .iconst 1, 1, 69, 0), (69, .iadd, 1, 70, 0), (70, .putfield 264, 3, 73, 0), (73, .iinc 4 (-1), 3, 76, 0), (76, .goto (-39), 3, 79, 37), (79, .aload_n 0, 1, 80, 0), (80, .getfield 264, 3, 83, 0), (83, .ireturn, 1, 84, 0)]
theorem E_X11_feed_0 {e : En} (i : Nat) (h : nthq cd_X11_feed_0 i = some e) : dok prog_13_method_24_code e := dok_at (by decide +kernel) i h
def cd_X11_here_0 : List En := [(0, .aload_n 0, 1, 1, 0), (1, .getfield 269, 3, 4, 0), (4, .aload_n 0, 1, 5, 0), (5, .getfield 264, 3, 8, 0), (8, .if_icmp .ge 30, 3, 11, 38), (11, .aload_n 0, 1, 12, 0), (12, .getfield 80, 3, 15, 0), (15, .aload_n 0, 1, 16, 0), (16, .getfield 269, 3, 19, 0), (19, .iaload, 1, 20, 0), (20, .bipush 32, 2, 22, 0), (22, .if_icmp .ne 16, 3, 25, 38), (25, .aload_n 0, 1, 26, 0), (26, .dup, 1, 27, 0), (27, .getfield 269, 3, 30, 0), (30, .iconst 1, 1, 31, 0), (31, .iadd, 1, 32, 0), (32, .putfield 269, 3, 35, 0), (35, .goto (-35), 3, 38, 0), (38, .aload_n 0, 1, 39, 0), (39, .getfield 269, 3, 42, 0), (42, .aload_n 0, 1, 43, 0), (43, .getfield 264, 3, 46, 0), (46, .if_icmp .ge 15, 3, 49, 61), (49, .aload_n 0, 1, 50, 0), (50, .getfield 80, 3, 53, 0), (53, .aload_n 0, 1, 54, 0), (54, .getfield 269, 3, 57, 0), (57, .iaload, 1, 58, 0), (58, .goto 4, 3, 61, 62), (61, .iconst (-1), 1, 62, 0), (62, .ireturn, 1, 63, 0)]
theorem E_X11_here_0 {e : En} (i : Nat) (h : nthq cd_X11_here_0 i = some e) : dok prog_13_method_25_code e := dok_at (by decide +kernel) i h
def cd_X11_want_0 : List En := [(0, .iload_n 1, 1, 1, 0), (1, .ifCond .ne 20, 3, 4, 21), (4, .aload_n 0, 1, 5, 0), (5, .getfield 272, 3, 8, 0), (8, .ifCond .ne 13, 3, 11, 21), (11, .aload_n 0, 1, 12, 0), (12, .iload_n 2, 1, 13, 0), (13, .putfield 272, 3, 16, 0), (16, .aload_n 0, 1, 17, 0), (17, .iload_n 3, 1, 18, 0), (18, .putfield 83, 3, 21, 0), (21, .aload_n 0, 1, 22, 0), (22, .getfield 272, 3, 25, 0), (25, .ifCond .ne 7, 3, 28, 32), (28, .iconst 1, 1, 29, 0), (29, .goto 4, 3, 32, 33), (32, .iconst 0, 1, 33, 0), (33, .ireturn, 1, 34, 0)]
theorem E_X11_want_0 {e : En} (i : Nat) (h : nthq cd_X11_want_0 i = some e) : dok prog_13_method_26_code e := dok_at (by decide +kernel) i h
def cd_X11_takeWord_0 : List En := [(0, .aload_n 0, 1, 1, 0), (1, .invokevirtual 275, 3, 4, 0), (4, .istore_n 1, 1, 5, 0), (5, .aload_n 0, 1, 6, 0), (6, .aload_n 0, 1, 7, 0), (7, .getfield 269, 3, 10, 0), (10, .putfield 279, 3, 13, 0), (13, .aload_n 0, 1, 14, 0), (14, .getfield 269, 3, 17, 0), (17, .aload_n 0, 1, 18, 0), (18, .getfield 264, 3, 21, 0), (21, .if_icmp .ge 38, 3, 24, 59), (24, .aload_n 0, 1, 25, 0), (25, .getfield 80, 3, 28, 0), (28, .aload_n 0, 1, 29, 0), (29, .getfield 269, 3, 32, 0), (32, .iaload, 1, 33, 0), (33, .i2l, 1, 34, 0), (34, .ldc2_w 282, 3, 37, 0), (37, .ldc2_w 284, 3, 40, 0), (40, .invokestatic 197, 3, 43, 0), (43, .ifCond .eq 16, 3, 46, 59), (46, .aload_n 0, 1, 47, 0), (47, .dup, 1, 48, 0), (48, .getfield 269, 3, 51, 0), (51, .iconst 1, 1, 52, 0), (52, .iadd, 1, 53, 0), (53, .putfield 269, 3, 56, 0), (56, .goto (-43), 3, 59, 13), (59, .aload_n 0, 1, 60, 0), (60, .aload_n 0, 1, 61, 0), (61, .getfield 269, 3, 64, 0), (64, .aload_n 0, 1, 65, 0), (65, .getfield 279, 3, 68, 0), (68, .isub, 1, 69, 0), (69, .putfield 286, 3, 72, 0), (72, .return_, 1, 73, 0)]
theorem E_X11_takeWord_0 {e : En} (i : Nat) (h : nthq cd_X11_takeWord_0 i = some e) : dok prog_13_method_27_code e := dok_at (by decide +kernel) i h
def cd_X11_isWord_0 : List En := [(0, .aload_n 0, 1, 1, 0), (1, .getfield 286, 3, 4, 0), (4, .iload_n 1, 1, 5, 0), (5, .if_icmp .ne 7, 3, 8, 12), (8, .iconst 1, 1, 9, 0), (9, .goto 4, 3, 12, 13), (12, .iconst 0, 1, 13, 0), (13, .istore 8, 2, 15, 0), (15, .iconst 0, 1, 16, 0), (16, .istore 9, 2, 18, 0), (18, .iload 9, 2, 20, 0), (20, .iload_n 1, 1, 21, 0), (21, .if_icmp .ge 90, 3, 24, 111), (24, .iload 8, 2, 26, 0), (26, .ifCond .eq 85, 3, 29, 111), (29, .aload_n 0, 1, 30, 0), (30, .getfield 80, 3, 33, 0), (33, .aload_n 0, 1, 34, 0), (34, .getfield 279, 3, 37, 0), (37, .iload 9, 2, 39, 0), (39, .iadd, 1, 40, 0), (40, .iaload, 1, 41, 0), (41, .iload 9, 2, 43, 0), (43, .ifCond .ne 7, 3, 46, 50), (46, .iload_n 2, 1, 47, 0), (47, .goto 48, 3, 50, 95), (50, .iload 9, 2, 52, 0), (52, .iconst 1, 1, 53, 0), (53, .if_icmp .ne 7, 3, 56, 60), (56, .iload_n 3, 1, 57, 0), (57, .goto 38, 3, 60, 95), (60, .iload 9, 2, 62, 0), (62, .iconst 2, 1, 63, 0), (63, .if_icmp .ne 8, 3, 66, 71), (66, .iload 4, 2, 68, 0), (68, .goto 27, 3, 71, 95), (71, .iload 9, 2, 73, 0), (73, .iconst 3, 1, 74, 0), (74, .if_icmp .ne 8, 3, 77, 82), (77, .iload 5, 2, 79, 0), (79, .goto 16, 3, 82, 95), (82, .iload 9, 2, 84, 0), (84, .iconst 4, 1, 85, 0), (85, .if_icmp .ne 8, 3, 88, 93), (88, .iload 6, 2, 90, 0), (90, .goto 5, 3, 93, 95), (93, .iload 7, 2, 95, 0), (95, .if_icmp .ne 7, 3, 98, 102), (98, .iconst 1, 1, 99, 0), (99, .goto 4, 3, 102, 103), (102, .iconst 0, 1, 103, 0), (103, .istore 8, 2, 105, 0), (105, .iinc 9 1, 3, 108, 0), (108, .goto (-90), 3, 111, 18), (111, .iload 8, 2, 113, 0), (113, .ireturn, 1, 114, 0)]
theorem E_X11_isWord_0 {e : En} (i : Nat) (h : nthq cd_X11_isWord_0 i = some e) : dok prog_13_method_28_code e := dok_at (by decide +kernel) i h
def cd_X11_takeNumber_0 : List En := [(0, .aload_n 0, 1, 1, 0), (1, .getfield 272, 3, 4, 0), (4, .ifCond .le 5, 3, 7, 9), (7, .iconst 0, 1, 8, 0), (8, .ireturn, 1, 9, 0), (9, .aload_n 0, 1, 10, 0), (10, .invokevirtual 275, 3, 13, 0), (13, .istore_n 2, 1, 14, 0), (14, .aload_n 0, 1, 15, 0), (15, .aload_n 0, 1, 16, 0), (16, .getfield 269, 3, 19, 0), (19, .putfield 279, 3, 22, 0), (22, .aload_n 0, 1, 23, 0), (23, .iload_n 2, 1, 24, 0), (24, .i2l, 1, 25, 0), (25, .ldc2_w 289, 3, 28, 0), (28, .ldc2_w 291, 3, 31, 0), (31, .invokestatic 197, 3, 34, 0), (34, .iconst 1, 1, 35, 0), (35, .aload_n 0, 1, 36, 0), (36, .getfield 269, 3, 39, 0), (39, .invokevirtual 293, 3, 42, 0), (42, .ifCond .ne 5, 3, 45, 47), (45, .iconst 0, 1, 46, 0), (46, .ireturn, 1, 47, 0), (47, .iconst 0, 1, 48, 0), (48, .istore_n 3, 1, 49, 0), (49, .aload_n 0, 1, 50, 0), (50, .getfield 269, 3, 53, 0), (53, .aload_n 0, 1, 54, 0), (54, .getfield 264, 3, 57, 0), (57, .if_icmp .ge 67, 3, 60, 124), (60, .aload_n 0, 1, 61, 0), (61, .getfield 80, 3, 64, 0), (64, .aload_n 0, 1, 65, 0), (65, .getfield 269, 3, 68, 0), (68, .iaload, 1, 69, 0), (69, .i2l, 1, 70, 0), (70, .ldc2_w 289, 3, 73, 0), (73, .ldc2_w 291, 3, 76, 0), (76, .invokestatic 197, 3, 79, 0), (79, .ifCond .eq 45, 3, 82, 124), (82, .iload_n 3, 1, 83, 0), (83, .sipush 9999, 3, 86, 0), (86, .if_icmp .le 7, 3, 89, 93), (89, .iload_n 3, 1, 90, 0), (90, .goto 20, 3, 93, 110), (93, .bipush 10, 2, 95, 0), (95, .iload_n 3, 1, 96, 0), (96, .imul, 1, 97, 0), (97, .aload_n 0, 1, 98, 0), (98, .getfield 80, 3, 101, 0), (101, .aload_n 0, 1, 102, 0), (102, .getfield 269, 3, 105, 0), (105, .iaload, 1, 106, 0), (106, .iadd, 1, 107, 0), (107, .bipush 48, 2, 109, 0), (109, .isub, 1, 110, 0), (110, .istore_n 3, 1, 111, 0), (111, .aload_n 0, 1, 112, 0)]
def cd_X11_takeNumber_1 : List En := [(112, .dup, 1, 113, 0), (113, .getfield 269, 3, 116, 0), (116, .iconst 1, 1, 117, 0), (117, .iadd, 1, 118, 0), (118, .putfield 269, 3, 121, 0), (121, .goto (-72), 3, 124, 49), (124, .aload_n 0, 1, 125, 0), (125, .aload_n 0, 1, 126, 0), (126, .getfield 269, 3, 129, 0), (129, .aload_n 0, 1, 130, 0), (130, .getfield 279, 3, 133, 0), (133, .isub, 1, 134, 0), (134, .iconst 5, 1, 135, 0), (135, .if_icmp .ge 12, 3, 138, 147), (138, .iload_n 3, 1, 139, 0), (139, .iload_n 1, 1, 140, 0), (140, .if_icmp .gt 7, 3, 143, 147), (143, .iconst 1, 1, 144, 0), (144, .goto 4, 3, 147, 148), (147, .iconst 0, 1, 148, 0), (148, .iconst 2, 1, 149, 0), (149, .aload_n 0, 1, 150, 0), (150, .getfield 279, 3, 153, 0), (153, .invokevirtual 293, 3, 156, 0), (156, .istore 4, 2, 158, 0), (158, .iload_n 3, 1, 159, 0), (159, .ireturn, 1, 160, 0)]
theorem E_X11_takeNumber_0 {e : En} (i : Nat) (h : nthq cd_X11_takeNumber_0 i = some e) : dok prog_13_method_29_code e := dok_at (by decide +kernel) i h
theorem E_X11_takeNumber_1 {e : En} (i : Nat) (h : nthq cd_X11_takeNumber_1 i = some e) : dok prog_13_method_29_code e := dok_at (by decide +kernel) i h
def cd_X11_nameOf_0 : List En := [(0, .aload_n 0, 1, 1, 0), (1, .iconst 4, 1, 2, 0), (2, .bipush 114, 2, 4, 0), (4, .bipush 101, 2, 6, 0), (6, .bipush 110, 2, 8, 0), (8, .bipush 116, 2, 10, 0), (10, .iconst 0, 1, 11, 0), (11, .iconst 0, 1, 12, 0), (12, .invokevirtual 297, 3, 15, 0), (15, .ifCond .eq 5, 3, 18, 20), (18, .iconst 0, 1, 19, 0), (19, .ireturn, 1, 20, 0), (20, .aload_n 0, 1, 21, 0), (21, .iconst 5, 1, 22, 0), (22, .bipush 116, 2, 24, 0), (24, .bipush 105, 2, 26, 0), (26, .bipush 116, 2, 28, 0), (28, .bipush 108, 2, 30, 0), (30, .bipush 101, 2, 32, 0), (32, .iconst 0, 1, 33, 0), (33, .invokevirtual 297, 3, 36, 0), (36, .ifCond .eq 5, 3, 39, 41), (39, .iconst 1, 1, 40, 0), (40, .ireturn, 1, 41, 0), (41, .aload_n 0, 1, 42, 0), (42, .iconst 4, 1, 43, 0), (43, .bipush 115, 2, 45, 0), (45, .bipush 116, 2, 47, 0), (47, .bipush 111, 2, 49, 0), (49, .bipush 112, 2, 51, 0), (51, .iconst 0, 1, 52, 0), (52, .iconst 0, 1, 53, 0), (53, .invokevirtual 297, 3, 56, 0), (56, .ifCond .eq 5, 3, 59, 61), (59, .iconst 2, 1, 60, 0), (60, .ireturn, 1, 61, 0), (61, .aload_n 0, 1, 62, 0), (62, .iconst 4, 1, 63, 0), (63, .bipush 98, 2, 65, 0), (65, .bipush 101, 2, 67, 0), (67, .bipush 97, 2, 69, 0), (69, .bipush 114, 2, 71, 0), (71, .iconst 0, 1, 72, 0), (72, .iconst 0, 1, 73, 0), (73, .invokevirtual 297, 3, 76, 0), (76, .ifCond .eq 5, 3, 79, 81), (79, .iconst 3, 1, 80, 0), (80, .ireturn, 1, 81, 0), (81, .aload_n 0, 1, 82, 0), (82, .bipush 6, 2, 84, 0), (84, .bipush 98, 2, 86, 0), (86, .bipush 101, 2, 88, 0), (88, .bipush 121, 2, 90, 0), (90, .bipush 111, 2, 92, 0), (92, .bipush 110, 2, 94, 0), (94, .bipush 100, 2, 96, 0), (96, .invokevirtual 297, 3, 99, 0), (99, .ifCond .eq 7, 3, 102, 106), (102, .iconst 4, 1, 103, 0), (103, .goto 4, 3, 106, 107)]
def cd_X11_nameOf_1 : List En := [(106, .iconst (-1), 1, 107, 0), (107, .ireturn, 1, 108, 0)]
theorem E_X11_nameOf_0 {e : En} (i : Nat) (h : nthq cd_X11_nameOf_0 i = some e) : dok prog_13_method_30_code e := dok_at (by decide +kernel) i h
theorem E_X11_nameOf_1 {e : En} (i : Nat) (h : nthq cd_X11_nameOf_1 i = some e) : dok prog_13_method_30_code e := dok_at (by decide +kernel) i h
def cd_X11_mostOfName_0 : List En := [(0, .iload_n 0, 1, 1, 0), (1, .ifCond .ne 8, 3, 4, 9), (4, .bipush 99, 2, 6, 0), (6, .goto 15, 3, 9, 21), (9, .iload_n 0, 1, 10, 0), (10, .iconst 3, 1, 11, 0), (11, .if_icmp .ne 9, 3, 14, 20), (14, .sipush 999, 3, 17, 0), (17, .goto 4, 3, 20, 21), (20, .iconst 1, 1, 21, 0), (21, .ireturn, 1, 22, 0)]
theorem E_X11_mostOfName_0 {e : En} (i : Nat) (h : nthq cd_X11_mostOfName_0 i = some e) : dok prog_13_method_31_code e := dok_at (by decide +kernel) i h
def cd_X11_keyOf_0 : List En := [(0, .aload_n 0, 1, 1, 0), (1, .iconst 4, 1, 2, 0), (2, .bipush 114, 2, 4, 0), (4, .bipush 101, 2, 6, 0), (6, .bipush 110, 2, 8, 0), (8, .bipush 116, 2, 10, 0), (10, .iconst 0, 1, 11, 0), (11, .iconst 0, 1, 12, 0), (12, .invokevirtual 297, 3, 15, 0), (15, .ifCond .eq 5, 3, 18, 20), (18, .iconst 0, 1, 19, 0), (19, .ireturn, 1, 20, 0), (20, .aload_n 0, 1, 21, 0), (21, .iconst 4, 1, 22, 0), (22, .bipush 98, 2, 24, 0), (24, .bipush 97, 2, 26, 0), (26, .bipush 110, 2, 28, 0), (28, .bipush 107, 2, 30, 0), (30, .iconst 0, 1, 31, 0), (31, .iconst 0, 1, 32, 0), (32, .invokevirtual 297, 3, 35, 0), (35, .ifCond .eq 5, 3, 38, 40), (38, .iconst 1, 1, 39, 0), (39, .ireturn, 1, 40, 0), (40, .aload_n 0, 1, 41, 0), (41, .bipush 6, 2, 43, 0), (43, .bipush 115, 2, 45, 0), (45, .bipush 101, 2, 47, 0), (47, .bipush 108, 2, 49, 0), (49, .bipush 108, 2, 51, 0), (51, .bipush 101, 2, 53, 0), (53, .bipush 114, 2, 55, 0), (55, .invokevirtual 297, 3, 58, 0), (58, .ifCond .eq 5, 3, 61, 63), (61, .iconst 2, 1, 62, 0), (62, .ireturn, 1, 63, 0), (63, .aload_n 0, 1, 64, 0), (64, .iconst 5, 1, 65, 0), (65, .bipush 111, 2, 67, 0), (67, .bipush 119, 2, 69, 0), (69, .bipush 110, 2, 71, 0), (71, .bipush 101, 2, 73, 0), (73, .bipush 114, 2, 75, 0), (75, .iconst 0, 1, 76, 0), (76, .invokevirtual 297, 3, 79, 0), (79, .ifCond .eq 7, 3, 82, 86), (82, .iconst 3, 1, 83, 0), (83, .goto 4, 3, 86, 87), (86, .iconst (-1), 1, 87, 0), (87, .ireturn, 1, 88, 0)]
theorem E_X11_keyOf_0 {e : En} (i : Nat) (h : nthq cd_X11_keyOf_0 i = some e) : dok prog_13_method_32_code e := dok_at (by decide +kernel) i h
def cd_X11_readRank_0 : List En := [(0, .iconst 0, 1, 1, 0), (1, .istore_n 2, 1, 2, 0), (2, .iconst 0, 1, 3, 0), (3, .istore_n 3, 1, 4, 0), (4, .iconst 0, 1, 5, 0), (5, .istore 4, 2, 7, 0), (7, .iconst 1, 1, 8, 0), (8, .istore 5, 2, 10, 0), (10, .iload 5, 2, 12, 0), (12, .ifCond .eq 122, 3, 15, 134), (15, .aload_n 0, 1, 16, 0), (16, .getfield 272, 3, 19, 0), (19, .ifCond .ne 115, 3, 22, 134), (22, .aload_n 0, 1, 23, 0), (23, .invokevirtual 301, 3, 26, 0), (26, .aload_n 0, 1, 27, 0), (27, .invokevirtual 304, 3, 30, 0), (30, .istore 6, 2, 32, 0), (32, .aload_n 0, 1, 33, 0), (33, .iload 6, 2, 35, 0), (35, .ifCond .lt 7, 3, 38, 42), (38, .iconst 1, 1, 39, 0), (39, .goto 4, 3, 42, 43), (42, .iconst 0, 1, 43, 0), (43, .iconst 1, 1, 44, 0), (44, .aload_n 0, 1, 45, 0), (45, .getfield 279, 3, 48, 0), (48, .invokevirtual 293, 3, 51, 0), (51, .ifCond .eq 80, 3, 54, 131), (54, .aload_n 0, 1, 55, 0), (55, .iload_n 2, 1, 56, 0), (56, .iload 6, 2, 58, 0), (58, .ishr, 1, 59, 0), (59, .iconst 1, 1, 60, 0), (60, .iand, 1, 61, 0), (61, .ifCond .ne 7, 3, 64, 68), (64, .iconst 1, 1, 65, 0), (65, .goto 4, 3, 68, 69), (68, .iconst 0, 1, 69, 0), (69, .iconst 4, 1, 70, 0), (70, .aload_n 0, 1, 71, 0), (71, .getfield 279, 3, 74, 0), (74, .invokevirtual 293, 3, 77, 0), (77, .ifCond .eq 54, 3, 80, 131), (80, .iload_n 2, 1, 81, 0), (81, .iconst 1, 1, 82, 0), (82, .iload 6, 2, 84, 0), (84, .ishl, 1, 85, 0), (85, .ior, 1, 86, 0), (86, .istore_n 2, 1, 87, 0), (87, .iload 4, 2, 89, 0), (89, .iload 6, 2, 91, 0), (91, .iconst 2, 1, 92, 0), (92, .iload_n 3, 1, 93, 0), (93, .imul, 1, 94, 0), (94, .ishl, 1, 95, 0), (95, .ior, 1, 96, 0), (96, .istore 4, 2, 98, 0), (98, .iinc 3 1, 3, 101, 0), (101, .aload_n 0, 1, 102, 0)]
def cd_X11_readRank_1 : List En := [(102, .invokevirtual 275, 3, 105, 0), (105, .bipush 44, 2, 107, 0), (107, .if_icmp .ne 7, 3, 110, 114), (110, .iconst 1, 1, 111, 0), (111, .goto 4, 3, 114, 115), (114, .iconst 0, 1, 115, 0), (115, .istore 5, 2, 117, 0), (117, .aload_n 0, 1, 118, 0), (118, .dup, 1, 119, 0), (119, .getfield 269, 3, 122, 0), (122, .iload 5, 2, 124, 0), (124, .invokestatic 307, 3, 127, 0), (127, .iadd, 1, 128, 0), (128, .putfield 269, 3, 131, 0), (131, .goto (-121), 3, 134, 10), (134, .aload_n 0, 1, 135, 0), (135, .getfield 74, 3, 138, 0), (138, .iload_n 1, 1, 139, 0), (139, .iload 4, 2, 141, 0), (141, .iastore, 1, 142, 0), (142, .aload_n 0, 1, 143, 0), (143, .getfield 77, 3, 146, 0), (146, .iload_n 1, 1, 147, 0), (147, .iload_n 3, 1, 148, 0), (148, .iastore, 1, 149, 0), (149, .return_, 1, 150, 0)]
theorem E_X11_readRank_0 {e : En} (i : Nat) (h : nthq cd_X11_readRank_0 i = some e) : dok prog_13_method_33_code e := dok_at (by decide +kernel) i h
theorem E_X11_readRank_1 {e : En} (i : Nat) (h : nthq cd_X11_readRank_1 i = some e) : dok prog_13_method_33_code e := dok_at (by decide +kernel) i h
def cd_X11_readClause_0 : List En := [(0, .aload_n 0, 1, 1, 0), (1, .getfield 71, 3, 4, 0), (4, .iload_n 2, 1, 5, 0), (5, .iload_n 1, 1, 6, 0), (6, .iastore, 1, 7, 0), (7, .iload_n 1, 1, 8, 0), (8, .ifCond .ne 65, 3, 11, 73), (11, .aload_n 0, 1, 12, 0), (12, .invokevirtual 301, 3, 15, 0), (15, .aload_n 0, 1, 16, 0), (16, .getfield 74, 3, 19, 0), (19, .iload_n 2, 1, 20, 0), (20, .aload_n 0, 1, 21, 0), (21, .invokevirtual 311, 3, 24, 0), (24, .iastore, 1, 25, 0), (25, .aload_n 0, 1, 26, 0), (26, .aload_n 0, 1, 27, 0), (27, .getfield 74, 3, 30, 0), (30, .iload_n 2, 1, 31, 0), (31, .iaload, 1, 32, 0), (32, .ifCond .lt 7, 3, 35, 39), (35, .iconst 1, 1, 36, 0), (36, .goto 4, 3, 39, 40), (39, .iconst 0, 1, 40, 0), (40, .iconst 1, 1, 41, 0), (41, .aload_n 0, 1, 42, 0), (42, .getfield 279, 3, 45, 0), (45, .invokevirtual 293, 3, 48, 0), (48, .ifCond .eq 145, 3, 51, 193), (51, .aload_n 0, 1, 52, 0), (52, .getfield 77, 3, 55, 0), (55, .iload_n 2, 1, 56, 0), (56, .aload_n 0, 1, 57, 0), (57, .aload_n 0, 1, 58, 0), (58, .getfield 74, 3, 61, 0), (61, .iload_n 2, 1, 62, 0), (62, .iaload, 1, 63, 0), (63, .invokestatic 314, 3, 66, 0), (66, .invokevirtual 317, 3, 69, 0), (69, .iastore, 1, 70, 0), (70, .goto 123, 3, 73, 193), (73, .iload_n 1, 1, 74, 0), (74, .iconst 1, 1, 75, 0), (75, .if_icmp .ne 64, 3, 78, 139), (78, .aload_n 0, 1, 79, 0), (79, .getfield 74, 3, 82, 0), (82, .iload_n 2, 1, 83, 0), (83, .aload_n 0, 1, 84, 0), (84, .iconst 3, 1, 85, 0), (85, .invokevirtual 317, 3, 88, 0), (88, .iastore, 1, 89, 0), (89, .aload_n 0, 1, 90, 0), (90, .getfield 272, 3, 93, 0), (93, .ifCond .ne 100, 3, 96, 193), (96, .aload_n 0, 1, 97, 0), (97, .invokevirtual 301, 3, 100, 0), (100, .aload_n 0, 1, 101, 0), (101, .aload_n 0, 1, 102, 0), (102, .iconst 2, 1, 103, 0), (103, .bipush 98, 2, 105, 0)]
def cd_X11_readClause_1 : List En := [(105, .bipush 121, 2, 107, 0), (107, .iconst 0, 1, 108, 0), (108, .iconst 0, 1, 109, 0), (109, .iconst 0, 1, 110, 0), (110, .iconst 0, 1, 111, 0), (111, .invokevirtual 297, 3, 114, 0), (114, .iconst 1, 1, 115, 0), (115, .aload_n 0, 1, 116, 0), (116, .getfield 279, 3, 119, 0), (119, .invokevirtual 293, 3, 122, 0), (122, .istore_n 3, 1, 123, 0), (123, .aload_n 0, 1, 124, 0), (124, .getfield 77, 3, 127, 0), (127, .iload_n 2, 1, 128, 0), (128, .aload_n 0, 1, 129, 0), (129, .sipush 999, 3, 132, 0), (132, .invokevirtual 317, 3, 135, 0), (135, .iastore, 1, 136, 0), (136, .goto 57, 3, 139, 193), (139, .iload_n 1, 1, 140, 0), (140, .iconst 2, 1, 141, 0), (141, .if_icmp .ne 11, 3, 144, 152), (144, .aload_n 0, 1, 145, 0), (145, .iload_n 2, 1, 146, 0), (146, .invokevirtual 320, 3, 149, 0), (149, .goto 44, 3, 152, 193), (152, .aload_n 0, 1, 153, 0), (153, .getfield 74, 3, 156, 0), (156, .iload_n 2, 1, 157, 0), (157, .aload_n 0, 1, 158, 0), (158, .sipush 9999, 3, 161, 0), (161, .invokevirtual 317, 3, 164, 0), (164, .iastore, 1, 165, 0), (165, .aload_n 0, 1, 166, 0), (166, .aload_n 0, 1, 167, 0), (167, .getfield 74, 3, 170, 0), (170, .iload_n 2, 1, 171, 0), (171, .iaload, 1, 172, 0), (172, .aload_n 0, 1, 173, 0), (173, .getfield 323, 3, 176, 0), (176, .if_icmp .ge 7, 3, 179, 183), (179, .iconst 1, 1, 180, 0), (180, .goto 4, 3, 183, 184), (183, .iconst 0, 1, 184, 0), (184, .iconst 3, 1, 185, 0), (185, .aload_n 0, 1, 186, 0), (186, .getfield 279, 3, 189, 0), (189, .invokevirtual 293, 3, 192, 0), (192, .istore_n 3, 1, 193, 0), (193, .aload_n 0, 1, 194, 0), (194, .getfield 272, 3, 197, 0), (197, .ifCond .ne 40, 3, 200, 237), (200, .aload_n 0, 1, 201, 0), (201, .invokevirtual 275, 3, 204, 0), (204, .istore_n 3, 1, 205, 0), (205, .aload_n 0, 1, 206, 0), (206, .dup, 1, 207, 0), (207, .getfield 269, 3, 210, 0), (210, .aload_n 0, 1, 211, 0), (211, .iload_n 3, 1, 212, 0)]
def cd_X11_readClause_2 : List En := [(212, .bipush 59, 2, 214, 0), (214, .if_icmp .ne 7, 3, 217, 221), (217, .iconst 1, 1, 218, 0), (218, .goto 4, 3, 221, 222), (221, .iconst 0, 1, 222, 0), (222, .iconst 1, 1, 223, 0), (223, .aload_n 0, 1, 224, 0), (224, .getfield 269, 3, 227, 0), (227, .invokevirtual 293, 3, 230, 0), (230, .invokestatic 307, 3, 233, 0), (233, .iadd, 1, 234, 0), (234, .putfield 269, 3, 237, 0), (237, .return_, 1, 238, 0)]
theorem E_X11_readClause_0 {e : En} (i : Nat) (h : nthq cd_X11_readClause_0 i = some e) : dok prog_13_method_34_code e := dok_at (by decide +kernel) i h
theorem E_X11_readClause_1 {e : En} (i : Nat) (h : nthq cd_X11_readClause_1 i = some e) : dok prog_13_method_34_code e := dok_at (by decide +kernel) i h
theorem E_X11_readClause_2 {e : En} (i : Nat) (h : nthq cd_X11_readClause_2 i = some e) : dok prog_13_method_34_code e := dok_at (by decide +kernel) i h
def cd_X11_term_0 : List En := [(0, .iload_n 1, 1, 1, 0), (1, .invokestatic 326, 3, 4, 0), (4, .ifCond .ne 7, 3, 7, 11), (7, .sipush (-1002), 3, 10, 0), (10, .ireturn, 1, 11, 0), (11, .aload_n 0, 1, 12, 0), (12, .getfield 323, 3, 15, 0), (15, .bipush 8, 2, 17, 0), (17, .if_icmp .ne 7, 3, 20, 24), (20, .sipush (-1004), 3, 23, 0), (23, .ireturn, 1, 24, 0), (24, .aload_n 0, 1, 25, 0), (25, .iconst 0, 1, 26, 0), (26, .putfield 269, 3, 29, 0), (29, .aload_n 0, 1, 30, 0), (30, .iconst 0, 1, 31, 0), (31, .putfield 272, 3, 34, 0), (34, .aload_n 0, 1, 35, 0), (35, .iconst (-1), 1, 36, 0), (36, .putfield 83, 3, 39, 0), (39, .iconst 0, 1, 40, 0), (40, .istore_n 2, 1, 41, 0), (41, .aload_n 0, 1, 42, 0), (42, .getfield 272, 3, 45, 0), (45, .ifCond .ne 169, 3, 48, 214), (48, .aload_n 0, 1, 49, 0), (49, .invokevirtual 275, 3, 52, 0), (52, .ifCond .lt 162, 3, 55, 214), (55, .aload_n 0, 1, 56, 0), (56, .invokevirtual 301, 3, 59, 0), (59, .aload_n 0, 1, 60, 0), (60, .iconst 3, 1, 61, 0), (61, .bipush 108, 2, 63, 0), (63, .bipush 101, 2, 65, 0), (65, .bipush 116, 2, 67, 0), (67, .iconst 0, 1, 68, 0), (68, .iconst 0, 1, 69, 0), (69, .iconst 0, 1, 70, 0), (70, .invokevirtual 297, 3, 73, 0), (73, .ifCond .eq 7, 3, 76, 80), (76, .iconst 0, 1, 77, 0), (77, .goto 72, 3, 80, 149), (80, .aload_n 0, 1, 81, 0), (81, .iconst 3, 1, 82, 0), (82, .bipush 100, 2, 84, 0), (84, .bipush 114, 2, 86, 0), (86, .bipush 121, 2, 88, 0), (88, .iconst 0, 1, 89, 0), (89, .iconst 0, 1, 90, 0), (90, .iconst 0, 1, 91, 0), (91, .invokevirtual 297, 3, 94, 0), (94, .ifCond .eq 7, 3, 97, 101), (97, .iconst 1, 1, 98, 0), (98, .goto 51, 3, 101, 149), (101, .aload_n 0, 1, 102, 0), (102, .iconst 4, 1, 103, 0), (103, .bipush 114, 2, 105, 0), (105, .bipush 97, 2, 107, 0), (107, .bipush 110, 2, 109, 0), (109, .bipush 107, 2, 111, 0)]
def cd_X11_term_1 : List En := [(111, .iconst 0, 1, 112, 0), (112, .iconst 0, 1, 113, 0), (113, .invokevirtual 297, 3, 116, 0), (116, .ifCond .eq 7, 3, 119, 123), (119, .iconst 2, 1, 120, 0), (120, .goto 29, 3, 123, 149), (123, .aload_n 0, 1, 124, 0), (124, .bipush 6, 2, 126, 0), (126, .bipush 115, 2, 128, 0), (128, .bipush 116, 2, 130, 0), (130, .bipush 114, 2, 132, 0), (132, .bipush 105, 2, 134, 0), (134, .bipush 107, 2, 136, 0), (136, .bipush 101, 2, 138, 0), (138, .invokevirtual 297, 3, 141, 0), (141, .ifCond .eq 7, 3, 144, 148), (144, .iconst 3, 1, 145, 0), (145, .goto 4, 3, 148, 149), (148, .iconst (-1), 1, 149, 0), (149, .istore_n 3, 1, 150, 0), (150, .aload_n 0, 1, 151, 0), (151, .iload_n 3, 1, 152, 0), (152, .ifCond .lt 7, 3, 155, 159), (155, .iconst 1, 1, 156, 0), (156, .goto 4, 3, 159, 160), (159, .iconst 0, 1, 160, 0), (160, .iconst 1, 1, 161, 0), (161, .aload_n 0, 1, 162, 0), (162, .getfield 279, 3, 165, 0), (165, .invokevirtual 293, 3, 168, 0), (168, .ifCond .eq 43, 3, 171, 211), (171, .aload_n 0, 1, 172, 0), (172, .iload_n 2, 1, 173, 0), (173, .bipush 10, 2, 175, 0), (175, .if_icmp .ge 7, 3, 178, 182), (178, .iconst 1, 1, 179, 0), (179, .goto 4, 3, 182, 183), (182, .iconst 0, 1, 183, 0), (183, .iconst 5, 1, 184, 0), (184, .aload_n 0, 1, 185, 0), (185, .getfield 279, 3, 188, 0), (188, .invokevirtual 293, 3, 191, 0), (191, .ifCond .eq 20, 3, 194, 211), (194, .aload_n 0, 1, 195, 0), (195, .iload_n 3, 1, 196, 0), (196, .bipush 10, 2, 198, 0), (198, .aload_n 0, 1, 199, 0), (199, .getfield 323, 3, 202, 0), (202, .imul, 1, 203, 0), (203, .iload_n 2, 1, 204, 0), (204, .iadd, 1, 205, 0), (205, .invokevirtual 329, 3, 208, 0), (208, .iinc 2 1, 3, 211, 0), (211, .goto (-170), 3, 214, 41), (214, .aload_n 0, 1, 215, 0), (215, .iconst 0, 1, 216, 0), (216, .putfield 264, 3, 219, 0), (219, .aload_n 0, 1, 220, 0), (220, .getfield 272, 3, 223, 0), (223, .ifCond .le 11, 3, 226, 234)]
def cd_X11_term_2 : List En := [(226, .bipush (-10), 2, 228, 0), (228, .aload_n 0, 1, 229, 0), (229, .getfield 272, 3, 232, 0), (232, .isub, 1, 233, 0), (233, .ireturn, 1, 234, 0), (234, .aload_n 0, 1, 235, 0), (235, .getfield 68, 3, 238, 0), (238, .aload_n 0, 1, 239, 0), (239, .getfield 323, 3, 242, 0), (242, .iload_n 2, 1, 243, 0), (243, .iastore, 1, 244, 0), (244, .aload_n 0, 1, 245, 0), (245, .getfield 65, 3, 248, 0), (248, .aload_n 0, 1, 249, 0), (249, .getfield 323, 3, 252, 0), (252, .iload_n 1, 1, 253, 0), (253, .iastore, 1, 254, 0), (254, .aload_n 0, 1, 255, 0), (255, .dup, 1, 256, 0), (256, .getfield 323, 3, 259, 0), (259, .iconst 1, 1, 260, 0), (260, .iadd, 1, 261, 0), (261, .putfield 323, 3, 264, 0), (264, .aload_n 0, 1, 265, 0), (265, .getfield 323, 3, 268, 0), (268, .iconst 1, 1, 269, 0), (269, .isub, 1, 270, 0), (270, .ireturn, 1, 271, 0)]
theorem E_X11_term_0 {e : En} (i : Nat) (h : nthq cd_X11_term_0 i = some e) : dok prog_13_method_35_code e := dok_at (by decide +kernel) i h
theorem E_X11_term_1 {e : En} (i : Nat) (h : nthq cd_X11_term_1 i = some e) : dok prog_13_method_35_code e := dok_at (by decide +kernel) i h
theorem E_X11_term_2 {e : En} (i : Nat) (h : nthq cd_X11_term_2 i = some e) : dok prog_13_method_35_code e := dok_at (by decide +kernel) i h
def cd_X11_fault_0 : List En := [(0, .aload_n 0, 1, 1, 0), (1, .getfield 83, 3, 4, 0), (4, .ireturn, 1, 5, 0)]
theorem E_X11_fault_0 {e : En} (i : Nat) (h : nthq cd_X11_fault_0 i = some e) : dok prog_13_method_36_code e := dok_at (by decide +kernel) i h
def cd_X11_findTerms_0 : List En := [(0, .iconst 0, 1, 1, 0), (1, .istore_n 2, 1, 2, 0), (2, .iload_n 2, 1, 3, 0), (3, .aload_n 0, 1, 4, 0), (4, .getfield 323, 3, 7, 0), (7, .if_icmp .ge 30, 3, 10, 37), (10, .aload_n 0, 1, 11, 0), (11, .getfield 87, 3, 14, 0), (14, .iload_n 2, 1, 15, 0), (15, .aload_n 0, 1, 16, 0), (16, .getfield 65, 3, 19, 0), (19, .iload_n 2, 1, 20, 0), (20, .iaload, 1, 21, 0), (21, .iload_n 1, 1, 22, 0), (22, .if_icmp .gt 7, 3, 25, 29), (25, .iconst 1, 1, 26, 0), (26, .goto 4, 3, 29, 30), (29, .iconst 0, 1, 30, 0), (30, .bastore, 1, 31, 0), (31, .iinc 2 1, 3, 34, 0), (34, .goto (-32), 3, 37, 2), (37, .aload_n 0, 1, 38, 0), (38, .getfield 323, 3, 41, 0), (41, .iconst 1, 1, 42, 0), (42, .isub, 1, 43, 0), (43, .istore_n 2, 1, 44, 0), (44, .iload_n 2, 1, 45, 0), (45, .ifCond .lt 66, 3, 48, 111), (48, .bipush 10, 2, 50, 0), (50, .iload_n 2, 1, 51, 0), (51, .imul, 1, 52, 0), (52, .istore_n 3, 1, 53, 0), (53, .iload_n 3, 1, 54, 0), (54, .bipush 10, 2, 56, 0), (56, .iload_n 2, 1, 57, 0), (57, .imul, 1, 58, 0), (58, .aload_n 0, 1, 59, 0), (59, .getfield 68, 3, 62, 0), (62, .iload_n 2, 1, 63, 0), (63, .iaload, 1, 64, 0), (64, .iadd, 1, 65, 0), (65, .if_icmp .ge 40, 3, 68, 105), (68, .aload_n 0, 1, 69, 0), (69, .getfield 87, 3, 72, 0), (72, .iload_n 2, 1, 73, 0), (73, .baload, 1, 74, 0), (74, .ifCond .eq 31, 3, 77, 105), (77, .aload_n 0, 1, 78, 0), (78, .getfield 71, 3, 81, 0), (81, .iload_n 3, 1, 82, 0), (82, .iaload, 1, 83, 0), (83, .iconst 3, 1, 84, 0), (84, .if_icmp .ne 15, 3, 87, 99), (87, .aload_n 0, 1, 88, 0), (88, .getfield 87, 3, 91, 0), (91, .aload_n 0, 1, 92, 0), (92, .getfield 74, 3, 95, 0), (95, .iload_n 3, 1, 96, 0), (96, .iaload, 1, 97, 0), (97, .iconst 0, 1, 98, 0)]
def cd_X11_findTerms_1 : List En := [(98, .bastore, 1, 99, 0), (99, .iinc 3 1, 3, 102, 0), (102, .goto (-49), 3, 105, 53), (105, .iinc 2 (-1), 3, 108, 0), (108, .goto (-64), 3, 111, 44), (111, .iconst 0, 1, 112, 0), (112, .istore_n 2, 1, 113, 0), (113, .iconst 0, 1, 114, 0), (114, .istore_n 3, 1, 115, 0), (115, .iload_n 3, 1, 116, 0), (116, .aload_n 0, 1, 117, 0), (117, .getfield 323, 3, 120, 0), (120, .if_icmp .ge 82, 3, 123, 202), (123, .aload_n 0, 1, 124, 0), (124, .getfield 87, 3, 127, 0), (127, .iload_n 3, 1, 128, 0), (128, .baload, 1, 129, 0), (129, .ifCond .eq 67, 3, 132, 196), (132, .iload_n 2, 1, 133, 0), (133, .istore 4, 2, 135, 0), (135, .iload 4, 2, 137, 0), (137, .ifCond .le 48, 3, 140, 185), (140, .aload_n 0, 1, 141, 0), (141, .getfield 65, 3, 144, 0), (144, .aload_n 0, 1, 145, 0), (145, .getfield 90, 3, 148, 0), (148, .iload 4, 2, 150, 0), (150, .iconst 1, 1, 151, 0), (151, .isub, 1, 152, 0), (152, .iaload, 1, 153, 0), (153, .iaload, 1, 154, 0), (154, .aload_n 0, 1, 155, 0), (155, .getfield 65, 3, 158, 0), (158, .iload_n 3, 1, 159, 0), (159, .iaload, 1, 160, 0), (160, .if_icmp .le 25, 3, 163, 185), (163, .aload_n 0, 1, 164, 0), (164, .getfield 90, 3, 167, 0), (167, .iload 4, 2, 169, 0), (169, .aload_n 0, 1, 170, 0), (170, .getfield 90, 3, 173, 0), (173, .iload 4, 2, 175, 0), (175, .iconst 1, 1, 176, 0), (176, .isub, 1, 177, 0), (177, .iaload, 1, 178, 0), (178, .iastore, 1, 179, 0), (179, .iinc 4 (-1), 3, 182, 0), (182, .goto (-47), 3, 185, 135), (185, .aload_n 0, 1, 186, 0), (186, .getfield 90, 3, 189, 0), (189, .iload 4, 2, 191, 0), (191, .iload_n 3, 1, 192, 0), (192, .iastore, 1, 193, 0), (193, .iinc 2 1, 3, 196, 0), (196, .iinc 3 1, 3, 199, 0), (199, .goto (-84), 3, 202, 115), (202, .iconst 0, 1, 203, 0), (203, .istore_n 3, 1, 204, 0), (204, .iload_n 3, 1, 205, 0), (205, .bipush 9, 2, 207, 0)]
def cd_X11_findTerms_2 : List En := [(207, .if_icmp .ge 43, 3, 210, 250), (210, .aload_n 0, 1, 211, 0), (211, .getfield 93, 3, 214, 0), (214, .iload_n 3, 1, 215, 0), (215, .iload_n 3, 1, 216, 0), (216, .ifCond .ne 7, 3, 219, 223), (219, .iconst 2, 1, 220, 0), (220, .goto 23, 3, 223, 243), (223, .iload_n 3, 1, 224, 0), (224, .iconst 1, 1, 225, 0), (225, .if_icmp .ne 7, 3, 228, 232), (228, .iconst 1, 1, 229, 0), (229, .goto 14, 3, 232, 243), (232, .iload_n 3, 1, 233, 0), (233, .iconst 3, 1, 234, 0), (234, .if_icmp .ne 8, 3, 237, 242), (237, .bipush 10, 2, 239, 0), (239, .goto 4, 3, 242, 243), (242, .iconst 0, 1, 243, 0), (243, .iastore, 1, 244, 0), (244, .iinc 3 1, 3, 247, 0), (247, .goto (-43), 3, 250, 204), (250, .aload_n 0, 1, 251, 0), (251, .sipush 228, 3, 254, 0), (254, .putfield 333, 3, 257, 0), (257, .aload_n 0, 1, 258, 0), (258, .iconst 4, 1, 259, 0), (259, .putfield 336, 3, 262, 0), (262, .iconst 0, 1, 263, 0), (263, .istore_n 3, 1, 264, 0), (264, .iload_n 3, 1, 265, 0), (265, .iload_n 2, 1, 266, 0), (266, .if_icmp .ge 152, 3, 269, 418), (269, .bipush 10, 2, 271, 0), (271, .aload_n 0, 1, 272, 0), (272, .getfield 90, 3, 275, 0), (275, .iload_n 3, 1, 276, 0), (276, .iaload, 1, 277, 0), (277, .imul, 1, 278, 0), (278, .istore 4, 2, 280, 0), (280, .iload 4, 2, 282, 0), (282, .bipush 10, 2, 284, 0), (284, .aload_n 0, 1, 285, 0), (285, .getfield 90, 3, 288, 0), (288, .iload_n 3, 1, 289, 0), (289, .iaload, 1, 290, 0), (290, .imul, 1, 291, 0), (291, .aload_n 0, 1, 292, 0), (292, .getfield 68, 3, 295, 0), (295, .aload_n 0, 1, 296, 0), (296, .getfield 90, 3, 299, 0), (299, .iload_n 3, 1, 300, 0), (300, .iaload, 1, 301, 0), (301, .iaload, 1, 302, 0), (302, .iadd, 1, 303, 0), (303, .if_icmp .ge 109, 3, 306, 412), (306, .aload_n 0, 1, 307, 0), (307, .getfield 71, 3, 310, 0), (310, .iload 4, 2, 312, 0), (312, .iaload, 1, 313, 0)]
def cd_X11_findTerms_3 : List En := [(313, .ifCond .ne 25, 3, 316, 338), (316, .aload_n 0, 1, 317, 0), (317, .getfield 93, 3, 320, 0), (320, .aload_n 0, 1, 321, 0), (321, .getfield 74, 3, 324, 0), (324, .iload 4, 2, 326, 0), (326, .iaload, 1, 327, 0), (327, .aload_n 0, 1, 328, 0), (328, .getfield 77, 3, 331, 0), (331, .iload 4, 2, 333, 0), (333, .iaload, 1, 334, 0), (334, .iastore, 1, 335, 0), (335, .goto 71, 3, 338, 406), (338, .aload_n 0, 1, 339, 0), (339, .getfield 71, 3, 342, 0), (342, .iload 4, 2, 344, 0), (344, .iaload, 1, 345, 0), (345, .iconst 1, 1, 346, 0), (346, .if_icmp .ne 27, 3, 349, 373), (349, .aload_n 0, 1, 350, 0), (350, .getfield 93, 3, 353, 0), (353, .iconst 5, 1, 354, 0), (354, .aload_n 0, 1, 355, 0), (355, .getfield 74, 3, 358, 0), (358, .iload 4, 2, 360, 0), (360, .iaload, 1, 361, 0), (361, .iadd, 1, 362, 0), (362, .aload_n 0, 1, 363, 0), (363, .getfield 77, 3, 366, 0), (366, .iload 4, 2, 368, 0), (368, .iaload, 1, 369, 0), (369, .iastore, 1, 370, 0), (370, .goto 36, 3, 373, 406), (373, .aload_n 0, 1, 374, 0), (374, .getfield 71, 3, 377, 0), (377, .iload 4, 2, 379, 0), (379, .iaload, 1, 380, 0), (380, .iconst 2, 1, 381, 0), (381, .if_icmp .ne 25, 3, 384, 406), (384, .aload_n 0, 1, 385, 0), (385, .aload_n 0, 1, 386, 0), (386, .getfield 74, 3, 389, 0), (389, .iload 4, 2, 391, 0), (391, .iaload, 1, 392, 0), (392, .putfield 333, 3, 395, 0), (395, .aload_n 0, 1, 396, 0), (396, .aload_n 0, 1, 397, 0), (397, .getfield 77, 3, 400, 0), (400, .iload 4, 2, 402, 0), (402, .iaload, 1, 403, 0), (403, .putfield 336, 3, 406, 0), (406, .iinc 4 1, 3, 409, 0), (409, .goto (-129), 3, 412, 280), (412, .iinc 3 1, 3, 415, 0), (415, .goto (-151), 3, 418, 264), (418, .return_, 1, 419, 0)]
theorem E_X11_findTerms_0 {e : En} (i : Nat) (h : nthq cd_X11_findTerms_0 i = some e) : dok prog_13_method_37_code e := dok_at (by decide +kernel) i h
theorem E_X11_findTerms_1 {e : En} (i : Nat) (h : nthq cd_X11_findTerms_1 i = some e) : dok prog_13_method_37_code e := dok_at (by decide +kernel) i h
theorem E_X11_findTerms_2 {e : En} (i : Nat) (h : nthq cd_X11_findTerms_2 i = some e) : dok prog_13_method_37_code e := dok_at (by decide +kernel) i h
theorem E_X11_findTerms_3 {e : En} (i : Nat) (h : nthq cd_X11_findTerms_3 i = some e) : dok prog_13_method_37_code e := dok_at (by decide +kernel) i h
def cd_X11_force_0 : List En := [(0, .iload_n 1, 1, 1, 0), (1, .i2l, 1, 2, 0), (2, .lconst 0, 1, 3, 0), (3, .ldc2_w 339, 3, 6, 0), (6, .invokestatic 197, 3, 9, 0), (9, .ifCond .eq 10, 3, 12, 19), (12, .iload_n 2, 1, 13, 0), (13, .invokestatic 326, 3, 16, 0), (16, .ifCond .ne 7, 3, 19, 23), (19, .sipush (-1002), 3, 22, 0), (22, .ireturn, 1, 23, 0), (23, .aload_n 0, 1, 24, 0), (24, .iload_n 2, 1, 25, 0), (25, .invokevirtual 341, 3, 28, 0), (28, .iload_n 1, 1, 29, 0), (29, .bipush 9, 2, 31, 0), (31, .if_icmp .ge 12, 3, 34, 43), (34, .aload_n 0, 1, 35, 0), (35, .getfield 93, 3, 38, 0), (38, .iload_n 1, 1, 39, 0), (39, .iaload, 1, 40, 0), (40, .goto 44, 3, 43, 84), (43, .iload_n 1, 1, 44, 0), (44, .bipush 9, 2, 46, 0), (46, .if_icmp .ne 10, 3, 49, 56), (49, .aload_n 0, 1, 50, 0), (50, .getfield 336, 3, 53, 0), (53, .goto 31, 3, 56, 84), (56, .iload_n 1, 1, 57, 0), (57, .bipush 10, 2, 59, 0), (59, .isub, 1, 60, 0), (60, .aload_n 0, 1, 61, 0), (61, .getfield 336, 3, 64, 0), (64, .if_icmp .ge 19, 3, 67, 83), (67, .aload_n 0, 1, 68, 0), (68, .getfield 333, 3, 71, 0), (71, .iconst 2, 1, 72, 0), (72, .iload_n 1, 1, 73, 0), (73, .bipush 10, 2, 75, 0), (75, .isub, 1, 76, 0), (76, .imul, 1, 77, 0), (77, .ishr, 1, 78, 0), (78, .iconst 3, 1, 79, 0), (79, .iand, 1, 80, 0), (80, .goto 4, 3, 83, 84), (83, .iconst (-1), 1, 84, 0), (84, .ireturn, 1, 85, 0)]
theorem E_X11_force_0 {e : En} (i : Nat) (h : nthq cd_X11_force_0 i = some e) : dok prog_13_method_38_code e := dok_at (by decide +kernel) i h
def cd_X11_there_0 : List En := [(0, .aload_n 0, 1, 1, 0), (1, .getfield 13, 3, 4, 0), (4, .iload_n 1, 1, 5, 0), (5, .iaload, 1, 6, 0), (6, .aload_n 0, 1, 7, 0), (7, .getfield 120, 3, 10, 0), (10, .iload_n 1, 1, 11, 0), (11, .iaload, 1, 12, 0), (12, .isub, 1, 13, 0), (13, .aload_n 0, 1, 14, 0), (14, .getfield 123, 3, 17, 0), (17, .iload_n 1, 1, 18, 0), (18, .iaload, 1, 19, 0), (19, .isub, 1, 20, 0), (20, .ireturn, 1, 21, 0)]
theorem E_X11_there_0 {e : En} (i : Nat) (h : nthq cd_X11_there_0 i = some e) : dok prog_13_method_39_code e := dok_at (by decide +kernel) i h
def cd_X11_onPapers_0 : List En := [(0, .iconst 0, 1, 1, 0), (1, .istore_n 2, 1, 2, 0), (2, .iconst 0, 1, 3, 0), (3, .istore_n 3, 1, 4, 0), (4, .iload_n 3, 1, 5, 0), (5, .aload_n 0, 1, 6, 0), (6, .getfield 227, 3, 9, 0), (9, .if_icmp .ge 41, 3, 12, 50), (12, .iload_n 2, 1, 13, 0), (13, .aload_n 0, 1, 14, 0), (14, .getfield 96, 3, 17, 0), (17, .iload_n 3, 1, 18, 0), (18, .baload, 1, 19, 0), (19, .ifCond .eq 22, 3, 22, 41), (22, .aload_n 0, 1, 23, 0), (23, .getfield 99, 3, 26, 0), (26, .iload_n 3, 1, 27, 0), (27, .iaload, 1, 28, 0), (28, .iload_n 1, 1, 29, 0), (29, .if_icmp .ne 12, 3, 32, 41), (32, .aload_n 0, 1, 33, 0), (33, .getfield 102, 3, 36, 0), (36, .iload_n 3, 1, 37, 0), (37, .iaload, 1, 38, 0), (38, .goto 4, 3, 41, 42), (41, .iconst 0, 1, 42, 0), (42, .iadd, 1, 43, 0), (43, .istore_n 2, 1, 44, 0), (44, .iinc 3 1, 3, 47, 0), (47, .goto (-43), 3, 50, 4), (50, .iload_n 2, 1, 51, 0), (51, .ireturn, 1, 52, 0)]
theorem E_X11_onPapers_0 {e : En} (i : Nat) (h : nthq cd_X11_onPapers_0 i = some e) : dok prog_13_method_40_code e := dok_at (by decide +kernel) i h
def cd_X11_lay_0 : List En := [(0, .aload_n 0, 1, 1, 0), (1, .getfield 96, 3, 4, 0), (4, .iload_n 1, 1, 5, 0), (5, .iconst 1, 1, 6, 0), (6, .bastore, 1, 7, 0), (7, .aload_n 0, 1, 8, 0), (8, .getfield 99, 3, 11, 0), (11, .iload_n 1, 1, 12, 0), (12, .iload_n 2, 1, 13, 0), (13, .iastore, 1, 14, 0), (14, .aload_n 0, 1, 15, 0), (15, .getfield 102, 3, 18, 0), (18, .iload_n 1, 1, 19, 0), (19, .iload_n 3, 1, 20, 0), (20, .iastore, 1, 21, 0), (21, .aload_n 0, 1, 22, 0), (22, .getfield 105, 3, 25, 0), (25, .iload_n 1, 1, 26, 0), (26, .iload 4, 2, 28, 0), (28, .iastore, 1, 29, 0), (29, .aload_n 0, 1, 30, 0), (30, .getfield 108, 3, 33, 0), (33, .iload_n 1, 1, 34, 0), (34, .iload 5, 2, 36, 0), (36, .iastore, 1, 37, 0), (37, .aload_n 0, 1, 38, 0), (38, .getfield 111, 3, 41, 0), (41, .iload_n 1, 1, 42, 0), (42, .iconst (-1), 1, 43, 0), (43, .iastore, 1, 44, 0), (44, .aload_n 0, 1, 45, 0), (45, .getfield 114, 3, 48, 0), (48, .iload_n 1, 1, 49, 0), (49, .iconst 0, 1, 50, 0), (50, .iastore, 1, 51, 0), (51, .aload_n 0, 1, 52, 0), (52, .getfield 117, 3, 55, 0), (55, .iload_n 1, 1, 56, 0), (56, .iconst (-1), 1, 57, 0), (57, .iastore, 1, 58, 0), (58, .return_, 1, 59, 0)]
theorem E_X11_lay_0 {e : En} (i : Nat) (h : nthq cd_X11_lay_0 i = some e) : dok prog_13_method_41_code e := dok_at (by decide +kernel) i h
def cd_X11_pass_0 : List En := [(0, .aload_n 0, 1, 1, 0), (1, .getfield 105, 3, 4, 0), (4, .iload_n 2, 1, 5, 0), (5, .iaload, 1, 6, 0), (6, .aload_n 0, 1, 7, 0), (7, .getfield 46, 3, 10, 0), (10, .iload_n 1, 1, 11, 0), (11, .iaload, 1, 12, 0), (12, .if_icmp .ne 22, 3, 15, 34), (15, .aload_n 0, 1, 16, 0), (16, .getfield 117, 3, 19, 0), (19, .iload_n 2, 1, 20, 0), (20, .iaload, 1, 21, 0), (21, .ifCond .lt 15, 3, 24, 36), (24, .aload_n 0, 1, 25, 0), (25, .getfield 93, 3, 28, 0), (28, .iconst 2, 1, 29, 0), (29, .iaload, 1, 30, 0), (30, .iconst 1, 1, 31, 0), (31, .if_icmp .ne 5, 3, 34, 36), (34, .iconst 0, 1, 35, 0), (35, .ireturn, 1, 36, 0), (36, .aload_n 0, 1, 37, 0), (37, .getfield 108, 3, 40, 0), (40, .iload_n 2, 1, 41, 0), (41, .iaload, 1, 42, 0), (42, .aload_n 0, 1, 43, 0), (43, .getfield 46, 3, 46, 0), (46, .iload_n 1, 1, 47, 0), (47, .iaload, 1, 48, 0), (48, .if_icmp .ne 7, 3, 51, 55), (51, .iconst 1, 1, 52, 0), (52, .goto 4, 3, 55, 56), (55, .iconst 0, 1, 56, 0), (56, .istore_n 3, 1, 57, 0), (57, .aload_n 0, 1, 58, 0), (58, .getfield 49, 3, 61, 0), (61, .iload_n 1, 1, 62, 0), (62, .iaload, 1, 63, 0), (63, .iconst 1, 1, 64, 0), (64, .if_icmp .ne 7, 3, 67, 71), (67, .iconst 1, 1, 68, 0), (68, .goto 4, 3, 71, 72), (71, .iconst 0, 1, 72, 0), (72, .istore 4, 2, 74, 0), (74, .aload_n 0, 1, 75, 0), (75, .getfield 105, 3, 78, 0), (78, .iload_n 2, 1, 79, 0), (79, .aload_n 0, 1, 80, 0), (80, .getfield 43, 3, 83, 0), (83, .iload_n 1, 1, 84, 0), (84, .iaload, 1, 85, 0), (85, .iastore, 1, 86, 0), (86, .aload_n 0, 1, 87, 0), (87, .getfield 108, 3, 90, 0), (90, .iload_n 2, 1, 91, 0), (91, .iload_n 3, 1, 92, 0), (92, .ifCond .ne 18, 3, 95, 110), (95, .iload 4, 2, 97, 0), (97, .ifCond .eq 22, 3, 100, 119)]
def cd_X11_pass_1 : List En := [(100, .aload_n 0, 1, 101, 0), (101, .getfield 93, 3, 104, 0), (104, .iconst 1, 1, 105, 0), (105, .iaload, 1, 106, 0), (106, .iconst 1, 1, 107, 0), (107, .if_icmp .ne 12, 3, 110, 119), (110, .aload_n 0, 1, 111, 0), (111, .getfield 43, 3, 114, 0), (114, .iload_n 1, 1, 115, 0), (115, .iaload, 1, 116, 0), (116, .goto 9, 3, 119, 125), (119, .aload_n 0, 1, 120, 0), (120, .getfield 108, 3, 123, 0), (123, .iload_n 2, 1, 124, 0), (124, .iaload, 1, 125, 0), (125, .iastore, 1, 126, 0), (126, .aload_n 0, 1, 127, 0), (127, .getfield 117, 3, 130, 0), (130, .iload_n 2, 1, 131, 0), (131, .iload 4, 2, 133, 0), (133, .ifCond .eq 7, 3, 136, 140), (136, .iconst (-1), 1, 137, 0), (137, .goto 9, 3, 140, 146), (140, .aload_n 0, 1, 141, 0), (141, .getfield 117, 3, 144, 0), (144, .iload_n 2, 1, 145, 0), (145, .iaload, 1, 146, 0), (146, .iastore, 1, 147, 0), (147, .iconst 1, 1, 148, 0), (148, .ireturn, 1, 149, 0)]
theorem E_X11_pass_0 {e : En} (i : Nat) (h : nthq cd_X11_pass_0 i = some e) : dok prog_13_method_42_code e := dok_at (by decide +kernel) i h
theorem E_X11_pass_1 {e : En} (i : Nat) (h : nthq cd_X11_pass_1 i = some e) : dok prog_13_method_42_code e := dok_at (by decide +kernel) i h
def cd_X11_partFrom_0 : List En := [(0, .aload_n 0, 1, 1, 0), (1, .getfield 102, 3, 4, 0), (4, .iload_n 2, 1, 5, 0), (5, .iaload, 1, 6, 0), (6, .aload_n 0, 1, 7, 0), (7, .getfield 49, 3, 10, 0), (10, .iload_n 1, 1, 11, 0), (11, .iaload, 1, 12, 0), (12, .if_icmp .le 21, 3, 15, 33), (15, .aload_n 0, 1, 16, 0), (16, .getfield 111, 3, 19, 0), (19, .iload_n 2, 1, 20, 0), (20, .iaload, 1, 21, 0), (21, .ifCond .ge 12, 3, 24, 33), (24, .aload_n 0, 1, 25, 0), (25, .getfield 117, 3, 28, 0), (28, .iload_n 2, 1, 29, 0), (29, .iaload, 1, 30, 0), (30, .ifCond .lt 5, 3, 33, 35), (33, .iconst 0, 1, 34, 0), (34, .ireturn, 1, 35, 0), (35, .aload_n 0, 1, 36, 0), (36, .getfield 102, 3, 39, 0), (39, .iload_n 2, 1, 40, 0), (40, .dup2, 1, 41, 0), (41, .iaload, 1, 42, 0), (42, .aload_n 0, 1, 43, 0), (43, .getfield 49, 3, 46, 0), (46, .iload_n 1, 1, 47, 0), (47, .iaload, 1, 48, 0), (48, .isub, 1, 49, 0), (49, .iastore, 1, 50, 0), (50, .aload_n 0, 1, 51, 0), (51, .iload_n 1, 1, 52, 0), (52, .aload_n 0, 1, 53, 0), (53, .getfield 99, 3, 56, 0), (56, .iload_n 2, 1, 57, 0), (57, .iaload, 1, 58, 0), (58, .aload_n 0, 1, 59, 0), (59, .getfield 49, 3, 62, 0), (62, .iload_n 1, 1, 63, 0), (63, .iaload, 1, 64, 0), (64, .aload_n 0, 1, 65, 0), (65, .getfield 105, 3, 68, 0), (68, .iload_n 2, 1, 69, 0), (69, .iaload, 1, 70, 0), (70, .aload_n 0, 1, 71, 0), (71, .getfield 108, 3, 74, 0), (74, .iload_n 2, 1, 75, 0), (75, .iaload, 1, 76, 0), (76, .invokevirtual 344, 3, 79, 0), (79, .iconst 1, 1, 80, 0), (80, .ireturn, 1, 81, 0)]
theorem E_X11_partFrom_0 {e : En} (i : Nat) (h : nthq cd_X11_partFrom_0 i = some e) : dok prog_13_method_43_code e := dok_at (by decide +kernel) i h
def cd_X11_lend_0 : List En := [(0, .aload_n 0, 1, 1, 0), (1, .getfield 111, 3, 4, 0), (4, .iload_n 2, 1, 5, 0), (5, .iaload, 1, 6, 0), (6, .ifCond .ge 18, 3, 9, 24), (9, .aload_n 0, 1, 10, 0), (10, .getfield 105, 3, 13, 0), (13, .iload_n 2, 1, 14, 0), (14, .iaload, 1, 15, 0), (15, .aload_n 0, 1, 16, 0), (16, .getfield 108, 3, 19, 0), (19, .iload_n 2, 1, 20, 0), (20, .iaload, 1, 21, 0), (21, .if_icmp .eq 5, 3, 24, 26), (24, .iconst 0, 1, 25, 0), (25, .ireturn, 1, 26, 0), (26, .aload_n 0, 1, 27, 0), (27, .getfield 111, 3, 30, 0), (30, .iload_n 2, 1, 31, 0), (31, .aload_n 0, 1, 32, 0), (32, .getfield 43, 3, 35, 0), (35, .iload_n 1, 1, 36, 0), (36, .iaload, 1, 37, 0), (37, .iastore, 1, 38, 0), (38, .aload_n 0, 1, 39, 0), (39, .getfield 114, 3, 42, 0), (42, .iload_n 2, 1, 43, 0), (43, .aload_n 0, 1, 44, 0), (44, .getfield 49, 3, 47, 0), (47, .iload_n 1, 1, 48, 0), (48, .iaload, 1, 49, 0), (49, .iastore, 1, 50, 0), (50, .iconst 1, 1, 51, 0), (51, .ireturn, 1, 52, 0)]
theorem E_X11_lend_0 {e : En} (i : Nat) (h : nthq cd_X11_lend_0 i = some e) : dok prog_13_method_44_code e := dok_at (by decide +kernel) i h
def cd_X11_handOut_0 : List En := [(0, .aload_n 0, 1, 1, 0), (1, .getfield 99, 3, 4, 0), (4, .iload_n 2, 1, 5, 0), (5, .iaload, 1, 6, 0), (6, .istore_n 3, 1, 7, 0), (7, .aload_n 0, 1, 8, 0), (8, .getfield 102, 3, 11, 0), (11, .iload_n 2, 1, 12, 0), (12, .iaload, 1, 13, 0), (13, .aload_n 0, 1, 14, 0), (14, .getfield 49, 3, 17, 0), (17, .iload_n 1, 1, 18, 0), (18, .iaload, 1, 19, 0), (19, .if_icmp .lt 35, 3, 22, 54), (22, .aload_n 0, 1, 23, 0), (23, .iload_n 3, 1, 24, 0), (24, .invokevirtual 348, 3, 27, 0), (27, .aload_n 0, 1, 28, 0), (28, .getfield 49, 3, 31, 0), (31, .iload_n 1, 1, 32, 0), (32, .iaload, 1, 33, 0), (33, .if_icmp .lt 21, 3, 36, 54), (36, .aload_n 0, 1, 37, 0), (37, .getfield 111, 3, 40, 0), (40, .iload_n 2, 1, 41, 0), (41, .iaload, 1, 42, 0), (42, .ifCond .ge 12, 3, 45, 54), (45, .aload_n 0, 1, 46, 0), (46, .getfield 117, 3, 49, 0), (49, .iload_n 2, 1, 50, 0), (50, .iaload, 1, 51, 0), (51, .ifCond .lt 5, 3, 54, 56), (54, .iconst 0, 1, 55, 0), (55, .ireturn, 1, 56, 0), (56, .aload_n 0, 1, 57, 0), (57, .getfield 102, 3, 60, 0), (60, .iload_n 2, 1, 61, 0), (61, .dup2, 1, 62, 0), (62, .iaload, 1, 63, 0), (63, .aload_n 0, 1, 64, 0), (64, .getfield 49, 3, 67, 0), (67, .iload_n 1, 1, 68, 0), (68, .iaload, 1, 69, 0), (69, .isub, 1, 70, 0), (70, .iastore, 1, 71, 0), (71, .aload_n 0, 1, 72, 0), (72, .getfield 120, 3, 75, 0), (75, .iload_n 3, 1, 76, 0), (76, .dup2, 1, 77, 0), (77, .iaload, 1, 78, 0), (78, .aload_n 0, 1, 79, 0), (79, .getfield 49, 3, 82, 0), (82, .iload_n 1, 1, 83, 0), (83, .iaload, 1, 84, 0), (84, .iadd, 1, 85, 0), (85, .iastore, 1, 86, 0), (86, .iconst 1, 1, 87, 0), (87, .ireturn, 1, 88, 0)]
theorem E_X11_handOut_0 {e : En} (i : Nat) (h : nthq cd_X11_handOut_0 i = some e) : dok prog_13_method_45_code e := dok_at (by decide +kernel) i h
def cd_X11_burn_0 : List En := [(0, .aload_n 0, 1, 1, 0), (1, .iload_n 2, 1, 2, 0), (2, .invokevirtual 348, 3, 5, 0), (5, .aload_n 0, 1, 6, 0), (6, .getfield 49, 3, 9, 0), (9, .iload_n 1, 1, 10, 0), (10, .iaload, 1, 11, 0), (11, .if_icmp .ge 5, 3, 14, 16), (14, .iconst 0, 1, 15, 0), (15, .ireturn, 1, 16, 0), (16, .aload_n 0, 1, 17, 0), (17, .getfield 123, 3, 20, 0), (20, .iload_n 2, 1, 21, 0), (21, .dup2, 1, 22, 0), (22, .iaload, 1, 23, 0), (23, .aload_n 0, 1, 24, 0), (24, .getfield 49, 3, 27, 0), (27, .iload_n 1, 1, 28, 0), (28, .iaload, 1, 29, 0), (29, .iadd, 1, 30, 0), (30, .iastore, 1, 31, 0), (31, .iconst 1, 1, 32, 0), (32, .ireturn, 1, 33, 0)]
theorem E_X11_burn_0 {e : En} (i : Nat) (h : nthq cd_X11_burn_0 i = some e) : dok prog_13_method_46_code e := dok_at (by decide +kernel) i h
def cd_X11_issue_0 : List En := [(0, .aload_n 0, 1, 1, 0), (1, .iload_n 1, 1, 2, 0), (2, .aload_n 0, 1, 3, 0), (3, .getfield 40, 3, 6, 0), (6, .iload_n 1, 1, 7, 0), (7, .iaload, 1, 8, 0), (8, .aload_n 0, 1, 9, 0), (9, .getfield 49, 3, 12, 0), (12, .iload_n 1, 1, 13, 0), (13, .iaload, 1, 14, 0), (14, .aload_n 0, 1, 15, 0), (15, .getfield 43, 3, 18, 0), (18, .iload_n 1, 1, 19, 0), (19, .iaload, 1, 20, 0), (20, .aload_n 0, 1, 21, 0), (21, .getfield 43, 3, 24, 0), (24, .iload_n 1, 1, 25, 0), (25, .iaload, 1, 26, 0), (26, .invokevirtual 344, 3, 29, 0), (29, .aload_n 0, 1, 30, 0), (30, .getfield 59, 3, 33, 0), (33, .iload_n 1, 1, 34, 0), (34, .aload_n 0, 1, 35, 0), (35, .aload_n 0, 1, 36, 0), (36, .getfield 40, 3, 39, 0), (39, .iload_n 1, 1, 40, 0), (40, .iaload, 1, 41, 0), (41, .invokevirtual 351, 3, 44, 0), (44, .aload_n 0, 1, 45, 0), (45, .aload_n 0, 1, 46, 0), (46, .getfield 40, 3, 49, 0), (49, .iload_n 1, 1, 50, 0), (50, .iaload, 1, 51, 0), (51, .invokevirtual 348, 3, 54, 0), (54, .if_icmp .le 7, 3, 57, 61), (57, .iconst 1, 1, 58, 0), (58, .goto 4, 3, 61, 62), (61, .iconst 0, 1, 62, 0), (62, .bastore, 1, 63, 0), (63, .iconst 1, 1, 64, 0), (64, .ireturn, 1, 65, 0)]
theorem E_X11_issue_0 {e : En} (i : Nat) (h : nthq cd_X11_issue_0 i = some e) : dok prog_13_method_47_code e := dok_at (by decide +kernel) i h
def cd_X11_change_0 : List En := [(0, .aload_n 0, 1, 1, 0), (1, .getfield 31, 3, 4, 0), (4, .iload_n 1, 1, 5, 0), (5, .iaload, 1, 6, 0), (6, .tableswitch 98 4 6 #[26, 53, 78], 26, 32, 0), (32, .aload_n 0, 1, 33, 0), (33, .getfield 111, 3, 36, 0), (36, .iload_n 2, 1, 37, 0), (37, .iaload, 1, 38, 0), (38, .ifCond .ge 5, 3, 41, 43), (41, .iconst 0, 1, 42, 0), (42, .ireturn, 1, 43, 0), (43, .aload_n 0, 1, 44, 0), (44, .getfield 111, 3, 47, 0), (47, .iload_n 2, 1, 48, 0), (48, .iconst (-1), 1, 49, 0), (49, .iastore, 1, 50, 0), (50, .aload_n 0, 1, 51, 0), (51, .getfield 114, 3, 54, 0), (54, .iload_n 2, 1, 55, 0), (55, .iconst 0, 1, 56, 0), (56, .iastore, 1, 57, 0), (57, .iconst 1, 1, 58, 0), (58, .ireturn, 1, 59, 0), (59, .aload_n 0, 1, 60, 0), (60, .getfield 117, 3, 63, 0), (63, .iload_n 2, 1, 64, 0), (64, .iaload, 1, 65, 0), (65, .ifCond .lt 5, 3, 68, 70), (68, .iconst 0, 1, 69, 0), (69, .ireturn, 1, 70, 0), (70, .aload_n 0, 1, 71, 0), (71, .getfield 117, 3, 74, 0), (74, .iload_n 2, 1, 75, 0), (75, .aload_n 0, 1, 76, 0), (76, .getfield 43, 3, 79, 0), (79, .iload_n 1, 1, 80, 0), (80, .iaload, 1, 81, 0), (81, .iastore, 1, 82, 0), (82, .iconst 1, 1, 83, 0), (83, .ireturn, 1, 84, 0), (84, .aload_n 0, 1, 85, 0), (85, .getfield 117, 3, 88, 0), (88, .iload_n 2, 1, 89, 0), (89, .iaload, 1, 90, 0), (90, .ifCond .ge 5, 3, 93, 95), (93, .iconst 0, 1, 94, 0), (94, .ireturn, 1, 95, 0), (95, .aload_n 0, 1, 96, 0), (96, .getfield 117, 3, 99, 0), (99, .iload_n 2, 1, 100, 0), (100, .iconst (-1), 1, 101, 0), (101, .iastore, 1, 102, 0), (102, .iconst 1, 1, 103, 0), (103, .ireturn, 1, 104, 0), (104, .aload_n 0, 1, 105, 0), (105, .getfield 105, 3, 108, 0), (108, .iload_n 2, 1, 109, 0), (109, .iaload, 1, 110, 0), (110, .aload_n 0, 1, 111, 0)]
def cd_X11_change_1 : List En := [(111, .getfield 43, 3, 114, 0), (114, .iload_n 1, 1, 115, 0), (115, .iaload, 1, 116, 0), (116, .if_icmp .ne 5, 3, 119, 121), (119, .iconst 0, 1, 120, 0), (120, .ireturn, 1, 121, 0), (121, .aload_n 0, 1, 122, 0), (122, .getfield 105, 3, 125, 0), (125, .iload_n 2, 1, 126, 0), (126, .aload_n 0, 1, 127, 0), (127, .getfield 43, 3, 130, 0), (130, .iload_n 1, 1, 131, 0), (131, .iaload, 1, 132, 0), (132, .iastore, 1, 133, 0), (133, .iconst 1, 1, 134, 0), (134, .ireturn, 1, 135, 0)]
theorem E_X11_change_0 {e : En} (i : Nat) (h : nthq cd_X11_change_0 i = some e) : dok prog_13_method_48_code e := dok_at (by decide +kernel) i h
theorem E_X11_change_1 {e : En} (i : Nat) (h : nthq cd_X11_change_1 i = some e) : dok prog_13_method_48_code e := dok_at (by decide +kernel) i h
def cd_X11_befall_0 : List En := [(0, .aload_n 0, 1, 1, 0), (1, .getfield 31, 3, 4, 0), (4, .iload_n 1, 1, 5, 0), (5, .iaload, 1, 6, 0), (6, .istore_n 2, 1, 7, 0), (7, .aload_n 0, 1, 8, 0), (8, .getfield 40, 3, 11, 0), (11, .iload_n 1, 1, 12, 0), (12, .iaload, 1, 13, 0), (13, .istore_n 3, 1, 14, 0), (14, .iload_n 2, 1, 15, 0), (15, .bipush 10, 2, 17, 0), (17, .if_icmp .ne 5, 3, 20, 22), (20, .iconst 1, 1, 21, 0), (21, .ireturn, 1, 22, 0), (22, .iload_n 2, 1, 23, 0), (23, .ifCond .ne 9, 3, 26, 32), (26, .aload_n 0, 1, 27, 0), (27, .iload_n 1, 1, 28, 0), (28, .invokevirtual 354, 3, 31, 0), (31, .ireturn, 1, 32, 0), (32, .iload_n 2, 1, 33, 0), (33, .bipush 8, 2, 35, 0), (35, .if_icmp .ne 10, 3, 38, 45), (38, .aload_n 0, 1, 39, 0), (39, .iload_n 1, 1, 40, 0), (40, .iload_n 3, 1, 41, 0), (41, .invokevirtual 357, 3, 44, 0), (44, .ireturn, 1, 45, 0), (45, .aload_n 0, 1, 46, 0), (46, .getfield 96, 3, 49, 0), (49, .iload_n 3, 1, 50, 0), (50, .baload, 1, 51, 0), (51, .ifCond .ne 5, 3, 54, 56), (54, .iconst 0, 1, 55, 0), (55, .ireturn, 1, 56, 0), (56, .aload_n 0, 1, 57, 0), (57, .aload_n 0, 1, 58, 0), (58, .getfield 34, 3, 61, 0), (61, .iload_n 1, 1, 62, 0), (62, .iaload, 1, 63, 0), (63, .invokevirtual 341, 3, 66, 0), (66, .iload_n 2, 1, 67, 0), (67, .iconst 1, 1, 68, 0), (68, .if_icmp .ne 12, 3, 71, 80), (71, .aload_n 0, 1, 72, 0), (72, .iload_n 1, 1, 73, 0), (73, .iload_n 3, 1, 74, 0), (74, .invokevirtual 360, 3, 77, 0), (77, .goto 52, 3, 80, 129), (80, .iload_n 2, 1, 81, 0), (81, .iconst 2, 1, 82, 0), (82, .if_icmp .ne 12, 3, 85, 94), (85, .aload_n 0, 1, 86, 0), (86, .iload_n 1, 1, 87, 0), (87, .iload_n 3, 1, 88, 0), (88, .invokevirtual 363, 3, 91, 0), (91, .goto 38, 3, 94, 129), (94, .iload_n 2, 1, 95, 0), (95, .iconst 3, 1, 96, 0)]
def cd_X11_befall_1 : List En := [(96, .if_icmp .ne 12, 3, 99, 108), (99, .aload_n 0, 1, 100, 0), (100, .iload_n 1, 1, 101, 0), (101, .iload_n 3, 1, 102, 0), (102, .invokevirtual 366, 3, 105, 0), (105, .goto 24, 3, 108, 129), (108, .iload_n 2, 1, 109, 0), (109, .bipush 7, 2, 111, 0), (111, .if_icmp .ne 12, 3, 114, 123), (114, .aload_n 0, 1, 115, 0), (115, .iload_n 1, 1, 116, 0), (116, .iload_n 3, 1, 117, 0), (117, .invokevirtual 369, 3, 120, 0), (120, .goto 9, 3, 123, 129), (123, .aload_n 0, 1, 124, 0), (124, .iload_n 1, 1, 125, 0), (125, .iload_n 3, 1, 126, 0), (126, .invokevirtual 372, 3, 129, 0), (129, .ireturn, 1, 130, 0)]
theorem E_X11_befall_0 {e : En} (i : Nat) (h : nthq cd_X11_befall_0 i = some e) : dok prog_13_method_49_code e := dok_at (by decide +kernel) i h
theorem E_X11_befall_1 {e : En} (i : Nat) (h : nthq cd_X11_befall_1 i = some e) : dok prog_13_method_49_code e := dok_at (by decide +kernel) i h
def cd_X11_tell_0 : List En := [(0, .aload_n 0, 1, 1, 0), (1, .iload_n 1, 1, 2, 0), (2, .invokevirtual 258, 3, 5, 0), (5, .iconst 0, 1, 6, 0), (6, .istore_n 3, 1, 7, 0), (7, .iload_n 3, 1, 8, 0), (8, .aload_n 0, 1, 9, 0), (9, .getfield 227, 3, 12, 0), (12, .if_icmp .ge 30, 3, 15, 42), (15, .aload_n 0, 1, 16, 0), (16, .getfield 96, 3, 19, 0), (19, .iload_n 3, 1, 20, 0), (20, .iconst 0, 1, 21, 0), (21, .bastore, 1, 22, 0), (22, .aload_n 0, 1, 23, 0), (23, .getfield 56, 3, 26, 0), (26, .iload_n 3, 1, 27, 0), (27, .iconst 0, 1, 28, 0), (28, .bastore, 1, 29, 0), (29, .aload_n 0, 1, 30, 0), (30, .getfield 59, 3, 33, 0), (33, .iload_n 3, 1, 34, 0), (34, .iconst 0, 1, 35, 0), (35, .bastore, 1, 36, 0), (36, .iinc 3 1, 3, 39, 0), (39, .goto (-32), 3, 42, 7), (42, .iconst 0, 1, 43, 0), (43, .istore_n 3, 1, 44, 0), (44, .iload_n 3, 1, 45, 0), (45, .aload_n 0, 1, 46, 0), (46, .getfield 208, 3, 49, 0), (49, .if_icmp .ge 23, 3, 52, 72), (52, .aload_n 0, 1, 53, 0), (53, .getfield 120, 3, 56, 0), (56, .iload_n 3, 1, 57, 0), (57, .iconst 0, 1, 58, 0), (58, .iastore, 1, 59, 0), (59, .aload_n 0, 1, 60, 0), (60, .getfield 123, 3, 63, 0), (63, .iload_n 3, 1, 64, 0), (64, .iconst 0, 1, 65, 0), (65, .iastore, 1, 66, 0), (66, .iinc 3 1, 3, 69, 0), (69, .goto (-25), 3, 72, 44), (72, .iconst 0, 1, 73, 0), (73, .istore_n 3, 1, 74, 0), (74, .iload_n 3, 1, 75, 0), (75, .aload_n 0, 1, 76, 0), (76, .getfield 255, 3, 79, 0), (79, .if_icmp .ge 53, 3, 82, 132), (82, .aload_n 0, 1, 83, 0), (83, .getfield 34, 3, 86, 0), (86, .aload_n 0, 1, 87, 0), (87, .getfield 62, 3, 90, 0), (90, .iload_n 3, 1, 91, 0), (91, .iaload, 1, 92, 0), (92, .iaload, 1, 93, 0), (93, .iload_n 2, 1, 94, 0), (94, .if_icmp .gt 38, 3, 97, 132), (97, .aload_n 0, 1, 98, 0)]
def cd_X11_tell_1 : List En := [(98, .getfield 56, 3, 101, 0), (101, .aload_n 0, 1, 102, 0), (102, .getfield 62, 3, 105, 0), (105, .iload_n 3, 1, 106, 0), (106, .iaload, 1, 107, 0), (107, .aload_n 0, 1, 108, 0), (108, .aload_n 0, 1, 109, 0), (109, .getfield 62, 3, 112, 0), (112, .iload_n 3, 1, 113, 0), (113, .iaload, 1, 114, 0), (114, .invokevirtual 375, 3, 117, 0), (117, .ifCond .ne 7, 3, 120, 124), (120, .iconst 1, 1, 121, 0), (121, .goto 4, 3, 124, 125), (124, .iconst 0, 1, 125, 0), (125, .bastore, 1, 126, 0), (126, .iinc 3 1, 3, 129, 0), (129, .goto (-55), 3, 132, 74), (132, .return_, 1, 133, 0)]
theorem E_X11_tell_0 {e : En} (i : Nat) (h : nthq cd_X11_tell_0 i = some e) : dok prog_13_method_50_code e := dok_at (by decide +kernel) i h
theorem E_X11_tell_1 {e : En} (i : Nat) (h : nthq cd_X11_tell_1 i = some e) : dok prog_13_method_50_code e := dok_at (by decide +kernel) i h
def cd_X11_told_0 : List En := [(0, .iload_n 1, 1, 1, 0), (1, .i2l, 1, 2, 0), (2, .lconst 0, 1, 3, 0), (3, .aload_n 0, 1, 4, 0), (4, .getfield 227, 3, 7, 0), (7, .iconst 1, 1, 8, 0), (8, .isub, 1, 9, 0), (9, .i2l, 1, 10, 0), (10, .invokestatic 197, 3, 13, 0), (13, .ifCond .ne 7, 3, 16, 20), (16, .sipush (-1001), 3, 19, 0), (19, .ireturn, 1, 20, 0), (20, .iload_n 2, 1, 21, 0), (21, .bipush 6, 2, 23, 0), (23, .if_icmp .le 14, 3, 26, 37), (26, .aload_n 0, 1, 27, 0), (27, .aload_n 0, 1, 28, 0), (28, .getfield 205, 3, 31, 0), (31, .sipush 2000, 3, 34, 0), (34, .invokevirtual 378, 3, 37, 0), (37, .iload_n 2, 1, 38, 0), (38, .tableswitch 119 0 8 #[50, 57, 64, 71, 78, 85, 92, 99, 109], 50, 88, 0), (88, .aload_n 0, 1, 89, 0), (89, .getfield 31, 3, 92, 0), (92, .iload_n 1, 1, 93, 0), (93, .iaload, 1, 94, 0), (94, .ireturn, 1, 95, 0), (95, .aload_n 0, 1, 96, 0), (96, .getfield 34, 3, 99, 0), (99, .iload_n 1, 1, 100, 0), (100, .iaload, 1, 101, 0), (101, .ireturn, 1, 102, 0), (102, .aload_n 0, 1, 103, 0), (103, .getfield 37, 3, 106, 0), (106, .iload_n 1, 1, 107, 0), (107, .iaload, 1, 108, 0), (108, .ireturn, 1, 109, 0), (109, .aload_n 0, 1, 110, 0), (110, .getfield 40, 3, 113, 0), (113, .iload_n 1, 1, 114, 0), (114, .iaload, 1, 115, 0), (115, .ireturn, 1, 116, 0), (116, .aload_n 0, 1, 117, 0), (117, .getfield 43, 3, 120, 0), (120, .iload_n 1, 1, 121, 0), (121, .iaload, 1, 122, 0), (122, .ireturn, 1, 123, 0), (123, .aload_n 0, 1, 124, 0), (124, .getfield 46, 3, 127, 0), (127, .iload_n 1, 1, 128, 0), (128, .iaload, 1, 129, 0), (129, .ireturn, 1, 130, 0), (130, .aload_n 0, 1, 131, 0), (131, .getfield 49, 3, 134, 0), (134, .iload_n 1, 1, 135, 0), (135, .iaload, 1, 136, 0), (136, .ireturn, 1, 137, 0), (137, .aload_n 0, 1, 138, 0), (138, .getfield 52, 3, 141, 0), (141, .iload_n 1, 1, 142, 0)]
def cd_X11_told_1 : List En := [(142, .baload, 1, 143, 0), (143, .invokestatic 307, 3, 146, 0), (146, .ireturn, 1, 147, 0), (147, .aload_n 0, 1, 148, 0), (148, .getfield 56, 3, 151, 0), (151, .iload_n 1, 1, 152, 0), (152, .baload, 1, 153, 0), (153, .invokestatic 307, 3, 156, 0), (156, .ireturn, 1, 157, 0), (157, .sipush (-1002), 3, 160, 0), (160, .ireturn, 1, 161, 0)]
theorem E_X11_told_0 {e : En} (i : Nat) (h : nthq cd_X11_told_0 i = some e) : dok prog_13_method_51_code e := dok_at (by decide +kernel) i h
theorem E_X11_told_1 {e : En} (i : Nat) (h : nthq cd_X11_told_1 i = some e) : dok prog_13_method_51_code e := dok_at (by decide +kernel) i h
def cd_X11_linesNow_0 : List En := [(0, .aload_n 0, 1, 1, 0), (1, .aload_n 0, 1, 2, 0), (2, .getfield 205, 3, 5, 0), (5, .sipush 2000, 3, 8, 0), (8, .invokevirtual 378, 3, 11, 0), (11, .iconst 0, 1, 12, 0), (12, .istore_n 2, 1, 13, 0), (13, .iconst 0, 1, 14, 0), (14, .istore_n 3, 1, 15, 0), (15, .iload_n 3, 1, 16, 0), (16, .aload_n 0, 1, 17, 0), (17, .getfield 227, 3, 20, 0), (20, .if_icmp .ge 48, 3, 23, 68), (23, .iload_n 2, 1, 24, 0), (24, .iload_n 1, 1, 25, 0), (25, .ifCond .ne 12, 3, 28, 37), (28, .aload_n 0, 1, 29, 0), (29, .getfield 52, 3, 32, 0), (32, .iload_n 3, 1, 33, 0), (33, .baload, 1, 34, 0), (34, .goto 23, 3, 37, 57), (37, .iload_n 1, 1, 38, 0), (38, .iconst 1, 1, 39, 0), (39, .if_icmp .ne 12, 3, 42, 51), (42, .aload_n 0, 1, 43, 0), (43, .getfield 56, 3, 46, 0), (46, .iload_n 3, 1, 47, 0), (47, .baload, 1, 48, 0), (48, .goto 9, 3, 51, 57), (51, .aload_n 0, 1, 52, 0), (52, .getfield 59, 3, 55, 0), (55, .iload_n 3, 1, 56, 0), (56, .baload, 1, 57, 0), (57, .invokestatic 307, 3, 60, 0), (60, .iadd, 1, 61, 0), (61, .istore_n 2, 1, 62, 0), (62, .iinc 3 1, 3, 65, 0), (65, .goto (-50), 3, 68, 15), (68, .iload_n 2, 1, 69, 0), (69, .ireturn, 1, 70, 0)]
theorem E_X11_linesNow_0 {e : En} (i : Nat) (h : nthq cd_X11_linesNow_0 i = some e) : dok prog_13_method_52_code e := dok_at (by decide +kernel) i h
def cd_X11_papersToday_0 : List En := [(0, .aload_n 0, 1, 1, 0), (1, .aload_n 0, 1, 2, 0), (2, .getfield 205, 3, 5, 0), (5, .aload_n 0, 1, 6, 0), (6, .getfield 205, 3, 9, 0), (9, .invokevirtual 378, 3, 12, 0), (12, .iconst 0, 1, 13, 0), (13, .istore_n 1, 1, 14, 0), (14, .iconst 0, 1, 15, 0), (15, .istore_n 2, 1, 16, 0), (16, .iload_n 2, 1, 17, 0), (17, .aload_n 0, 1, 18, 0), (18, .getfield 227, 3, 21, 0), (21, .if_icmp .ge 38, 3, 24, 59), (24, .iload_n 1, 1, 25, 0), (25, .aload_n 0, 1, 26, 0), (26, .getfield 96, 3, 29, 0), (29, .iload_n 2, 1, 30, 0), (30, .baload, 1, 31, 0), (31, .ifCond .eq 16, 3, 34, 47), (34, .aload_n 0, 1, 35, 0), (35, .getfield 102, 3, 38, 0), (38, .iload_n 2, 1, 39, 0), (39, .iaload, 1, 40, 0), (40, .ifCond .le 7, 3, 43, 47), (43, .iconst 1, 1, 44, 0), (44, .goto 4, 3, 47, 48), (47, .iconst 0, 1, 48, 0), (48, .invokestatic 307, 3, 51, 0), (51, .iadd, 1, 52, 0), (52, .istore_n 1, 1, 53, 0), (53, .iinc 2 1, 3, 56, 0), (56, .goto (-40), 3, 59, 16), (59, .iload_n 1, 1, 60, 0), (60, .ireturn, 1, 61, 0)]
theorem E_X11_papersToday_0 {e : En} (i : Nat) (h : nthq cd_X11_papersToday_0 i = some e) : dok prog_13_method_53_code e := dok_at (by decide +kernel) i h
def cd_X11_count_0 : List En := [(0, .iload_n 1, 1, 1, 0), (1, .tableswitch 126 0 11 #[63, 68, 73, 78, 84, 90, 95, 101, 106, 111, 116, 121], 63, 64, 0), (64, .aload_n 0, 1, 65, 0), (65, .getfield 205, 3, 68, 0), (68, .ireturn, 1, 69, 0), (69, .aload_n 0, 1, 70, 0), (70, .getfield 208, 3, 73, 0), (73, .ireturn, 1, 74, 0), (74, .aload_n 0, 1, 75, 0), (75, .getfield 227, 3, 78, 0), (78, .ireturn, 1, 79, 0), (79, .aload_n 0, 1, 80, 0), (80, .iconst 0, 1, 81, 0), (81, .invokevirtual 381, 3, 84, 0), (84, .ireturn, 1, 85, 0), (85, .aload_n 0, 1, 86, 0), (86, .iconst 1, 1, 87, 0), (87, .invokevirtual 381, 3, 90, 0), (90, .ireturn, 1, 91, 0), (91, .aload_n 0, 1, 92, 0), (92, .invokevirtual 384, 3, 95, 0), (95, .ireturn, 1, 96, 0), (96, .aload_n 0, 1, 97, 0), (97, .iconst 2, 1, 98, 0), (98, .invokevirtual 381, 3, 101, 0), (101, .ireturn, 1, 102, 0), (102, .aload_n 0, 1, 103, 0), (103, .getfield 323, 3, 106, 0), (106, .ireturn, 1, 107, 0), (107, .aload_n 0, 1, 108, 0), (108, .getfield 387, 3, 111, 0), (111, .ireturn, 1, 112, 0), (112, .aload_n 0, 1, 113, 0), (113, .getfield 390, 3, 116, 0), (116, .ireturn, 1, 117, 0), (117, .aload_n 0, 1, 118, 0), (118, .getfield 264, 3, 121, 0), (121, .ireturn, 1, 122, 0), (122, .aload_n 0, 1, 123, 0), (123, .getfield 393, 3, 126, 0), (126, .ireturn, 1, 127, 0), (127, .sipush (-1002), 3, 130, 0), (130, .ireturn, 1, 131, 0)]
theorem E_X11_count_0 {e : En} (i : Nat) (h : nthq cd_X11_count_0 i = some e) : dok prog_13_method_54_code e := dok_at (by decide +kernel) i h
def cd_X11_whyNot_0 : List En := [(0, .aload_n 0, 1, 1, 0), (1, .iload_n 1, 1, 2, 0), (2, .invokevirtual 233, 3, 5, 0), (5, .ifCond .ne 7, 3, 8, 12), (8, .sipush (-1001), 3, 11, 0), (11, .ireturn, 1, 12, 0), (12, .iload_n 2, 1, 13, 0), (13, .invokestatic 326, 3, 16, 0), (16, .ifCond .eq 24, 3, 19, 40), (19, .aload_n 0, 1, 20, 0), (20, .iload_n 3, 1, 21, 0), (21, .invokevirtual 245, 3, 24, 0), (24, .ifCond .eq 16, 3, 27, 40), (27, .iload 4, 2, 29, 0), (29, .i2l, 1, 30, 0), (30, .lconst 0, 1, 31, 0), (31, .iload 5, 2, 33, 0), (33, .i2l, 1, 34, 0), (34, .invokestatic 197, 3, 37, 0), (37, .ifCond .ne 7, 3, 40, 44), (40, .sipush (-1002), 3, 43, 0), (43, .ireturn, 1, 44, 0), (44, .aload_n 0, 1, 45, 0), (45, .iload_n 3, 1, 46, 0), (46, .iload_n 2, 1, 47, 0), (47, .invokevirtual 378, 3, 50, 0), (50, .aload_n 0, 1, 51, 0), (51, .getfield 96, 3, 54, 0), (54, .iload_n 1, 1, 55, 0), (55, .baload, 1, 56, 0), (56, .ifCond .eq 7, 3, 59, 63), (59, .iconst 0, 1, 60, 0), (60, .goto 6, 3, 63, 66), (63, .sipush (-1003), 3, 66, 0), (66, .ireturn, 1, 67, 0)]
theorem E_X11_whyNot_0 {e : En} (i : Nat) (h : nthq cd_X11_whyNot_0 i = some e) : dok prog_13_method_55_code e := dok_at (by decide +kernel) i h
def cd_X11_paper_0 : List En := [(0, .aload_n 0, 1, 1, 0), (1, .iload_n 1, 1, 2, 0), (2, .iload_n 2, 1, 3, 0), (3, .iload_n 3, 1, 4, 0), (4, .iload 4, 2, 6, 0), (6, .bipush 6, 2, 8, 0), (8, .invokevirtual 396, 3, 11, 0), (11, .istore 5, 2, 13, 0), (13, .iload 5, 2, 15, 0), (15, .ifCond .eq 6, 3, 18, 21), (18, .iload 5, 2, 20, 0), (20, .ireturn, 1, 21, 0), (21, .iload 4, 2, 23, 0), (23, .tableswitch 79 0 5 #[37, 44, 51, 58, 65, 72], 37, 60, 0), (60, .aload_n 0, 1, 61, 0), (61, .getfield 102, 3, 64, 0), (64, .iload_n 1, 1, 65, 0), (65, .iaload, 1, 66, 0), (66, .ireturn, 1, 67, 0), (67, .aload_n 0, 1, 68, 0), (68, .getfield 105, 3, 71, 0), (71, .iload_n 1, 1, 72, 0), (72, .iaload, 1, 73, 0), (73, .ireturn, 1, 74, 0), (74, .aload_n 0, 1, 75, 0), (75, .getfield 108, 3, 78, 0), (78, .iload_n 1, 1, 79, 0), (79, .iaload, 1, 80, 0), (80, .ireturn, 1, 81, 0), (81, .aload_n 0, 1, 82, 0), (82, .getfield 111, 3, 85, 0), (85, .iload_n 1, 1, 86, 0), (86, .iaload, 1, 87, 0), (87, .ireturn, 1, 88, 0), (88, .aload_n 0, 1, 89, 0), (89, .getfield 114, 3, 92, 0), (92, .iload_n 1, 1, 93, 0), (93, .iaload, 1, 94, 0), (94, .ireturn, 1, 95, 0), (95, .aload_n 0, 1, 96, 0), (96, .getfield 117, 3, 99, 0), (99, .iload_n 1, 1, 100, 0), (100, .iaload, 1, 101, 0), (101, .ireturn, 1, 102, 0), (102, .aload_n 0, 1, 103, 0), (103, .getfield 99, 3, 106, 0), (106, .iload_n 1, 1, 107, 0), (107, .iaload, 1, 108, 0), (108, .ireturn, 1, 109, 0)]
theorem E_X11_paper_0 {e : En} (i : Nat) (h : nthq cd_X11_paper_0 i = some e) : dok prog_13_method_56_code e := dok_at (by decide +kernel) i h
def cd_X11_over_0 : List En := [(0, .aload_n 0, 1, 1, 0), (1, .iload_n 1, 1, 2, 0), (2, .invokevirtual 351, 3, 5, 0), (5, .aload_n 0, 1, 6, 0), (6, .iload_n 1, 1, 7, 0), (7, .invokevirtual 348, 3, 10, 0), (10, .isub, 1, 11, 0), (11, .istore_n 2, 1, 12, 0), (12, .iload_n 2, 1, 13, 0), (13, .ifCond .ge 7, 3, 16, 20), (16, .iconst 0, 1, 17, 0), (17, .goto 4, 3, 20, 21), (20, .iload_n 2, 1, 21, 0), (21, .ireturn, 1, 22, 0)]
theorem E_X11_over_0 {e : En} (i : Nat) (h : nthq cd_X11_over_0 i = some e) : dok prog_13_method_57_code e := dok_at (by decide +kernel) i h
def cd_X11_goods_0 : List En := [(0, .aload_n 0, 1, 1, 0), (1, .iload_n 1, 1, 2, 0), (2, .invokevirtual 224, 3, 5, 0), (5, .ifCond .eq 7, 3, 8, 12), (8, .sipush (-1001), 3, 11, 0), (11, .ireturn, 1, 12, 0), (12, .iload_n 2, 1, 13, 0), (13, .invokestatic 326, 3, 16, 0), (16, .ifCond .eq 24, 3, 19, 40), (19, .aload_n 0, 1, 20, 0), (20, .iload_n 3, 1, 21, 0), (21, .invokevirtual 245, 3, 24, 0), (24, .ifCond .eq 16, 3, 27, 40), (27, .iload 4, 2, 29, 0), (29, .i2l, 1, 30, 0), (30, .lconst 0, 1, 31, 0), (31, .ldc2_w 201, 3, 34, 0), (34, .invokestatic 197, 3, 37, 0), (37, .ifCond .ne 7, 3, 40, 44), (40, .sipush (-1002), 3, 43, 0), (43, .ireturn, 1, 44, 0), (44, .aload_n 0, 1, 45, 0), (45, .iload_n 3, 1, 46, 0), (46, .iload_n 2, 1, 47, 0), (47, .invokevirtual 378, 3, 50, 0), (50, .iconst 0, 1, 51, 0), (51, .istore 5, 2, 53, 0), (53, .iconst 0, 1, 54, 0), (54, .istore 6, 2, 56, 0), (56, .iload 6, 2, 58, 0), (58, .aload_n 0, 1, 59, 0), (59, .getfield 227, 3, 62, 0), (62, .if_icmp .ge 53, 3, 65, 115), (65, .iload 5, 2, 67, 0), (67, .aload_n 0, 1, 68, 0), (68, .getfield 96, 3, 71, 0), (71, .iload 6, 2, 73, 0), (73, .baload, 1, 74, 0), (74, .ifCond .eq 28, 3, 77, 102), (77, .aload_n 0, 1, 78, 0), (78, .getfield 99, 3, 81, 0), (81, .iload 6, 2, 83, 0), (83, .iaload, 1, 84, 0), (84, .iload_n 1, 1, 85, 0), (85, .if_icmp .ne 17, 3, 88, 102), (88, .aload_n 0, 1, 89, 0), (89, .getfield 102, 3, 92, 0), (92, .iload 6, 2, 94, 0), (94, .iaload, 1, 95, 0), (95, .ifCond .le 7, 3, 98, 102), (98, .iconst 1, 1, 99, 0), (99, .goto 4, 3, 102, 103), (102, .iconst 0, 1, 103, 0), (103, .invokestatic 307, 3, 106, 0), (106, .iadd, 1, 107, 0), (107, .istore 5, 2, 109, 0), (109, .iinc 6 1, 3, 112, 0), (112, .goto (-56), 3, 115, 56), (115, .iload 4, 2, 117, 0), (117, .ifCond .ne 11, 3, 120, 128)]
def cd_X11_goods_1 : List En := [(120, .aload_n 0, 1, 121, 0), (121, .iload_n 1, 1, 122, 0), (122, .invokevirtual 348, 3, 125, 0), (125, .goto 63, 3, 128, 188), (128, .iload 4, 2, 130, 0), (130, .iconst 1, 1, 131, 0), (131, .if_icmp .ne 12, 3, 134, 143), (134, .aload_n 0, 1, 135, 0), (135, .getfield 120, 3, 138, 0), (138, .iload_n 1, 1, 139, 0), (139, .iaload, 1, 140, 0), (140, .goto 48, 3, 143, 188), (143, .iload 4, 2, 145, 0), (145, .iconst 2, 1, 146, 0), (146, .if_icmp .ne 12, 3, 149, 158), (149, .aload_n 0, 1, 150, 0), (150, .getfield 123, 3, 153, 0), (153, .iload_n 1, 1, 154, 0), (154, .iaload, 1, 155, 0), (155, .goto 33, 3, 158, 188), (158, .iload 4, 2, 160, 0), (160, .iconst 3, 1, 161, 0), (161, .if_icmp .ne 11, 3, 164, 172), (164, .aload_n 0, 1, 165, 0), (165, .iload_n 1, 1, 166, 0), (166, .invokevirtual 351, 3, 169, 0), (169, .goto 19, 3, 172, 188), (172, .iload 4, 2, 174, 0), (174, .iconst 4, 1, 175, 0), (175, .if_icmp .ne 11, 3, 178, 186), (178, .aload_n 0, 1, 179, 0), (179, .iload_n 1, 1, 180, 0), (180, .invokevirtual 400, 3, 183, 0), (183, .goto 5, 3, 186, 188), (186, .iload 5, 2, 188, 0), (188, .ireturn, 1, 189, 0)]
theorem E_X11_goods_0 {e : En} (i : Nat) (h : nthq cd_X11_goods_0 i = some e) : dok prog_13_method_58_code e := dok_at (by decide +kernel) i h
theorem E_X11_goods_1 {e : En} (i : Nat) (h : nthq cd_X11_goods_1 i = some e) : dok prog_13_method_58_code e := dok_at (by decide +kernel) i h
def cd_X11_share_0 : List En := [(0, .aload_n 0, 1, 1, 0), (1, .iload_n 1, 1, 2, 0), (2, .iload_n 2, 1, 3, 0), (3, .iload_n 3, 1, 4, 0), (4, .iload 4, 2, 6, 0), (6, .iconst 1, 1, 7, 0), (7, .invokevirtual 396, 3, 10, 0), (10, .istore 5, 2, 12, 0), (12, .iload 5, 2, 14, 0), (14, .ifCond .eq 6, 3, 17, 20), (17, .iload 5, 2, 19, 0), (19, .ireturn, 1, 20, 0), (20, .aload_n 0, 1, 21, 0), (21, .getfield 99, 3, 24, 0), (24, .iload_n 1, 1, 25, 0), (25, .iaload, 1, 26, 0), (26, .istore 6, 2, 28, 0), (28, .aload_n 0, 1, 29, 0), (29, .iload 6, 2, 31, 0), (31, .invokevirtual 351, 3, 34, 0), (34, .istore 7, 2, 36, 0), (36, .iload 7, 2, 38, 0), (38, .aload_n 0, 1, 39, 0), (39, .iload 6, 2, 41, 0), (41, .invokevirtual 348, 3, 44, 0), (44, .if_icmp .le 7, 3, 47, 51), (47, .iconst 1, 1, 48, 0), (48, .goto 4, 3, 51, 52), (51, .iconst 0, 1, 52, 0), (52, .istore 8, 2, 54, 0), (54, .iload 8, 2, 56, 0), (56, .ifCond .eq 19, 3, 59, 75), (59, .aload_n 0, 1, 60, 0), (60, .getfield 102, 3, 63, 0), (63, .iload_n 1, 1, 64, 0), (64, .iaload, 1, 65, 0), (65, .aload_n 0, 1, 66, 0), (66, .iload 6, 2, 68, 0), (68, .invokevirtual 348, 3, 71, 0), (71, .imul, 1, 72, 0), (72, .goto 9, 3, 75, 81), (75, .aload_n 0, 1, 76, 0), (76, .getfield 102, 3, 79, 0), (79, .iload_n 1, 1, 80, 0), (80, .iaload, 1, 81, 0), (81, .istore 9, 2, 83, 0), (83, .iload 8, 2, 85, 0), (85, .ifCond .eq 8, 3, 88, 93), (88, .iload 7, 2, 90, 0), (90, .goto 4, 3, 93, 94), (93, .iconst 1, 1, 94, 0), (94, .istore 10, 2, 96, 0), (96, .iload 9, 2, 98, 0), (98, .iload 10, 2, 100, 0), (100, .invokestatic 403, 3, 103, 0), (103, .istore 11, 2, 105, 0), (105, .iload 4, 2, 107, 0), (107, .ifCond .ne 11, 3, 110, 118), (110, .iload 9, 2, 112, 0), (112, .iload 11, 2, 114, 0)]
def cd_X11_share_1 : List En := [(114, .idiv, 1, 115, 0), (115, .goto 8, 3, 118, 123), (118, .iload 10, 2, 120, 0), (120, .iload 11, 2, 122, 0), (122, .idiv, 1, 123, 0), (123, .ireturn, 1, 124, 0)]
theorem E_X11_share_0 {e : En} (i : Nat) (h : nthq cd_X11_share_0 i = some e) : dok prog_13_method_59_code e := dok_at (by decide +kernel) i h
theorem E_X11_share_1 {e : En} (i : Nat) (h : nthq cd_X11_share_1 i = some e) : dok prog_13_method_59_code e := dok_at (by decide +kernel) i h
def cd_X11_fewestFrom_0 : List En := [(0, .iconst 0, 1, 1, 0), (1, .istore_n 3, 1, 2, 0), (2, .iload_n 2, 1, 3, 0), (3, .istore 4, 2, 5, 0), (5, .sipush 201, 3, 8, 0), (8, .istore 5, 2, 10, 0), (10, .iconst (-1), 1, 11, 0), (11, .istore 6, 2, 13, 0), (13, .iload 4, 2, 15, 0), (15, .ifCond .le 142, 3, 18, 157), (18, .iconst (-1), 1, 19, 0), (19, .istore 7, 2, 21, 0), (21, .iload_n 1, 1, 22, 0), (22, .istore 8, 2, 24, 0), (24, .iload 8, 2, 26, 0), (26, .aload_n 0, 1, 27, 0), (27, .getfield 407, 3, 30, 0), (30, .if_icmp .ge 87, 3, 33, 117), (33, .aload_n 0, 1, 34, 0), (34, .getfield 102, 3, 37, 0), (37, .aload_n 0, 1, 38, 0), (38, .getfield 126, 3, 41, 0), (41, .iload 8, 2, 43, 0), (43, .iaload, 1, 44, 0), (44, .iaload, 1, 45, 0), (45, .istore 9, 2, 47, 0), (47, .iload 9, 2, 49, 0), (49, .iload 5, 2, 51, 0), (51, .if_icmp .lt 17, 3, 54, 68), (54, .iload 9, 2, 56, 0), (56, .iload 5, 2, 58, 0), (58, .if_icmp .ne 14, 3, 61, 72), (61, .iload 8, 2, 63, 0), (63, .iload 6, 2, 65, 0), (65, .if_icmp .le 7, 3, 68, 72), (68, .iconst 1, 1, 69, 0), (69, .goto 4, 3, 72, 73), (72, .iconst 0, 1, 73, 0), (73, .istore 10, 2, 75, 0), (75, .iload 10, 2, 77, 0), (77, .ifCond .eq 30, 3, 80, 107), (80, .iload 7, 2, 82, 0), (82, .ifCond .lt 20, 3, 85, 102), (85, .iload 9, 2, 87, 0), (87, .aload_n 0, 1, 88, 0), (88, .getfield 102, 3, 91, 0), (91, .aload_n 0, 1, 92, 0), (92, .getfield 126, 3, 95, 0), (95, .iload 7, 2, 97, 0), (97, .iaload, 1, 98, 0), (98, .iaload, 1, 99, 0), (99, .if_icmp .le 8, 3, 102, 107), (102, .iload 8, 2, 104, 0), (104, .goto 5, 3, 107, 109), (107, .iload 7, 2, 109, 0), (109, .istore 7, 2, 111, 0), (111, .iinc 8 1, 3, 114, 0), (114, .goto (-90), 3, 117, 24), (117, .iload 7, 2, 119, 0), (119, .ifCond .ge 7, 3, 122, 126)]
def cd_X11_fewestFrom_1 : List En := [(122, .sipush 1000, 3, 125, 0), (125, .ireturn, 1, 126, 0), (126, .aload_n 0, 1, 127, 0), (127, .getfield 102, 3, 130, 0), (130, .aload_n 0, 1, 131, 0), (131, .getfield 126, 3, 134, 0), (134, .iload 7, 2, 136, 0), (136, .iaload, 1, 137, 0), (137, .iaload, 1, 138, 0), (138, .istore 5, 2, 140, 0), (140, .iload 7, 2, 142, 0), (142, .istore 6, 2, 144, 0), (144, .iload 4, 2, 146, 0), (146, .iload 5, 2, 148, 0), (148, .isub, 1, 149, 0), (149, .istore 4, 2, 151, 0), (151, .iinc 3 1, 3, 154, 0), (154, .goto (-141), 3, 157, 13), (157, .iload_n 3, 1, 158, 0), (158, .ireturn, 1, 159, 0)]
theorem E_X11_fewestFrom_0 {e : En} (i : Nat) (h : nthq cd_X11_fewestFrom_0 i = some e) : dok prog_13_method_60_code e := dok_at (by decide +kernel) i h
theorem E_X11_fewestFrom_1 {e : En} (i : Nat) (h : nthq cd_X11_fewestFrom_1 i = some e) : dok prog_13_method_60_code e := dok_at (by decide +kernel) i h
def cd_X11_doubt_0 : List En := [(0, .aload_n 0, 1, 1, 0), (1, .iload_n 1, 1, 2, 0), (2, .invokevirtual 224, 3, 5, 0), (5, .ifCond .eq 7, 3, 8, 12), (8, .sipush (-1001), 3, 11, 0), (11, .ireturn, 1, 12, 0), (12, .iload_n 2, 1, 13, 0), (13, .invokestatic 326, 3, 16, 0), (16, .ifCond .eq 11, 3, 19, 27), (19, .aload_n 0, 1, 20, 0), (20, .iload_n 3, 1, 21, 0), (21, .invokevirtual 245, 3, 24, 0), (24, .ifCond .ne 7, 3, 27, 31), (27, .sipush (-1002), 3, 30, 0), (30, .ireturn, 1, 31, 0), (31, .aload_n 0, 1, 32, 0), (32, .iload_n 3, 1, 33, 0), (33, .iload_n 2, 1, 34, 0), (34, .invokevirtual 378, 3, 37, 0), (37, .aload_n 0, 1, 38, 0), (38, .iconst 0, 1, 39, 0), (39, .putfield 407, 3, 42, 0), (42, .iconst 0, 1, 43, 0), (43, .istore 5, 2, 45, 0), (45, .iload 5, 2, 47, 0), (47, .aload_n 0, 1, 48, 0), (48, .getfield 227, 3, 51, 0), (51, .if_icmp .ge 61, 3, 54, 112), (54, .aload_n 0, 1, 55, 0), (55, .getfield 96, 3, 58, 0), (58, .iload 5, 2, 60, 0), (60, .baload, 1, 61, 0), (61, .ifCond .eq 45, 3, 64, 106), (64, .aload_n 0, 1, 65, 0), (65, .getfield 99, 3, 68, 0), (68, .iload 5, 2, 70, 0), (70, .iaload, 1, 71, 0), (71, .iload_n 1, 1, 72, 0), (72, .if_icmp .ne 34, 3, 75, 106), (75, .aload_n 0, 1, 76, 0), (76, .getfield 102, 3, 79, 0), (79, .iload 5, 2, 81, 0), (81, .iaload, 1, 82, 0), (82, .ifCond .le 24, 3, 85, 106), (85, .aload_n 0, 1, 86, 0), (86, .getfield 126, 3, 89, 0), (89, .aload_n 0, 1, 90, 0), (90, .getfield 407, 3, 93, 0), (93, .iload 5, 2, 95, 0), (95, .iastore, 1, 96, 0), (96, .aload_n 0, 1, 97, 0), (97, .dup, 1, 98, 0), (98, .getfield 407, 3, 101, 0), (101, .iconst 1, 1, 102, 0), (102, .iadd, 1, 103, 0), (103, .putfield 407, 3, 106, 0), (106, .iinc 5 1, 3, 109, 0), (109, .goto (-64), 3, 112, 45), (112, .aload_n 0, 1, 113, 0), (113, .iload_n 1, 1, 114, 0)]
def cd_X11_doubt_1 : List En := [(114, .invokevirtual 400, 3, 117, 0), (117, .istore 5, 2, 119, 0), (119, .aload_n 0, 1, 120, 0), (120, .iconst 0, 1, 121, 0), (121, .iload 5, 2, 123, 0), (123, .invokevirtual 410, 3, 126, 0), (126, .istore 6, 2, 128, 0), (128, .iconst (-1), 1, 129, 0), (129, .istore 7, 2, 131, 0), (131, .iconst 0, 1, 132, 0), (132, .istore 8, 2, 134, 0), (134, .iconst 0, 1, 135, 0), (135, .istore 9, 2, 137, 0), (137, .iload 9, 2, 139, 0), (139, .iload 6, 2, 141, 0), (141, .if_icmp .ge 89, 3, 144, 230), (144, .iconst 1, 1, 145, 0), (145, .aload_n 0, 1, 146, 0), (146, .iload 8, 2, 148, 0), (148, .iconst 1, 1, 149, 0), (149, .iadd, 1, 150, 0), (150, .iload 5, 2, 152, 0), (152, .aload_n 0, 1, 153, 0), (153, .getfield 102, 3, 156, 0), (156, .aload_n 0, 1, 157, 0), (157, .getfield 126, 3, 160, 0), (160, .iload 8, 2, 162, 0), (162, .iaload, 1, 163, 0), (163, .iaload, 1, 164, 0), (164, .isub, 1, 165, 0), (165, .invokevirtual 410, 3, 168, 0), (168, .iadd, 1, 169, 0), (169, .iload 6, 2, 171, 0), (171, .iload 9, 2, 173, 0), (173, .isub, 1, 174, 0), (174, .if_icmp .eq 9, 3, 177, 183), (177, .iinc 8 1, 3, 180, 0), (180, .goto (-36), 3, 183, 144), (183, .iload 9, 2, 185, 0), (185, .iload 4, 2, 187, 0), (187, .if_icmp .ne 13, 3, 190, 200), (190, .aload_n 0, 1, 191, 0), (191, .getfield 126, 3, 194, 0), (194, .iload 8, 2, 196, 0), (196, .iaload, 1, 197, 0), (197, .goto 5, 3, 200, 202), (200, .iload 7, 2, 202, 0), (202, .istore 7, 2, 204, 0), (204, .iload 5, 2, 206, 0), (206, .aload_n 0, 1, 207, 0), (207, .getfield 102, 3, 210, 0), (210, .aload_n 0, 1, 211, 0), (211, .getfield 126, 3, 214, 0), (214, .iload 8, 2, 216, 0), (216, .iaload, 1, 217, 0), (217, .iaload, 1, 218, 0), (218, .isub, 1, 219, 0), (219, .istore 5, 2, 221, 0), (221, .iinc 8 1, 3, 224, 0), (224, .iinc 9 1, 3, 227, 0)]
def cd_X11_doubt_2 : List En := [(227, .goto (-90), 3, 230, 137), (230, .iload 4, 2, 232, 0), (232, .iconst (-1), 1, 233, 0), (233, .if_icmp .ne 8, 3, 236, 241), (236, .iload 6, 2, 238, 0), (238, .goto 5, 3, 241, 243), (241, .iload 7, 2, 243, 0), (243, .ireturn, 1, 244, 0)]
theorem E_X11_doubt_0 {e : En} (i : Nat) (h : nthq cd_X11_doubt_0 i = some e) : dok prog_13_method_61_code e := dok_at (by decide +kernel) i h
theorem E_X11_doubt_1 {e : En} (i : Nat) (h : nthq cd_X11_doubt_1 i = some e) : dok prog_13_method_61_code e := dok_at (by decide +kernel) i h
theorem E_X11_doubt_2 {e : En} (i : Nat) (h : nthq cd_X11_doubt_2 i = some e) : dok prog_13_method_61_code e := dok_at (by decide +kernel) i h
def cd_X11_stock_0 : List En := [(0, .iload_n 1, 1, 1, 0), (1, .invokestatic 213, 3, 4, 0), (4, .ifCond .ne 7, 3, 7, 11), (7, .sipush (-1001), 3, 10, 0), (10, .ireturn, 1, 11, 0), (11, .iload_n 2, 1, 12, 0), (12, .i2l, 1, 13, 0), (13, .lconst 0, 1, 14, 0), (14, .ldc2_w 220, 3, 17, 0), (17, .invokestatic 197, 3, 20, 0), (20, .ifCond .eq 13, 3, 23, 33), (23, .iload_n 3, 1, 24, 0), (24, .i2l, 1, 25, 0), (25, .lconst 0, 1, 26, 0), (26, .lconst 1, 1, 27, 0), (27, .invokestatic 197, 3, 30, 0), (30, .ifCond .ne 7, 3, 33, 37), (33, .sipush (-1002), 3, 36, 0), (36, .ireturn, 1, 37, 0), (37, .aload_n 0, 1, 38, 0), (38, .aload_n 0, 1, 39, 0), (39, .getfield 205, 3, 42, 0), (42, .aload_n 0, 1, 43, 0), (43, .getfield 205, 3, 46, 0), (46, .invokevirtual 378, 3, 49, 0), (49, .iconst 0, 1, 50, 0), (50, .istore 4, 2, 52, 0), (52, .iconst 0, 1, 53, 0), (53, .istore 5, 2, 55, 0), (55, .iload 5, 2, 57, 0), (57, .aload_n 0, 1, 58, 0), (58, .getfield 227, 3, 61, 0), (61, .if_icmp .ge 88, 3, 64, 149), (64, .aload_n 0, 1, 65, 0), (65, .getfield 96, 3, 68, 0), (68, .iload 5, 2, 70, 0), (70, .baload, 1, 71, 0), (71, .ifCond .eq 48, 3, 74, 119), (74, .aload_n 0, 1, 75, 0), (75, .getfield 7, 3, 78, 0), (78, .aload_n 0, 1, 79, 0), (79, .getfield 99, 3, 82, 0), (82, .iload 5, 2, 84, 0), (84, .iaload, 1, 85, 0), (85, .iaload, 1, 86, 0), (86, .iload_n 2, 1, 87, 0), (87, .if_icmp .ne 32, 3, 90, 119), (90, .iload_n 3, 1, 91, 0), (91, .ifCond .ne 13, 3, 94, 104), (94, .aload_n 0, 1, 95, 0), (95, .getfield 108, 3, 98, 0), (98, .iload 5, 2, 100, 0), (100, .iaload, 1, 101, 0), (101, .goto 10, 3, 104, 111), (104, .aload_n 0, 1, 105, 0), (105, .getfield 105, 3, 108, 0), (108, .iload 5, 2, 110, 0), (110, .iaload, 1, 111, 0), (111, .iload_n 1, 1, 112, 0), (112, .if_icmp .ne 7, 3, 115, 119)]
def cd_X11_stock_1 : List En := [(115, .iconst 1, 1, 116, 0), (116, .goto 4, 3, 119, 120), (119, .iconst 0, 1, 120, 0), (120, .istore 6, 2, 122, 0), (122, .iload 4, 2, 124, 0), (124, .iload 6, 2, 126, 0), (126, .ifCond .eq 13, 3, 129, 139), (129, .aload_n 0, 1, 130, 0), (130, .getfield 102, 3, 133, 0), (133, .iload 5, 2, 135, 0), (135, .iaload, 1, 136, 0), (136, .goto 4, 3, 139, 140), (139, .iconst 0, 1, 140, 0), (140, .iadd, 1, 141, 0), (141, .istore 4, 2, 143, 0), (143, .iinc 5 1, 3, 146, 0), (146, .goto (-91), 3, 149, 55), (149, .iload 4, 2, 151, 0), (151, .ireturn, 1, 152, 0)]
theorem E_X11_stock_0 {e : En} (i : Nat) (h : nthq cd_X11_stock_0 i = some e) : dok prog_13_method_62_code e := dok_at (by decide +kernel) i h
theorem E_X11_stock_1 {e : En} (i : Nat) (h : nthq cd_X11_stock_1 i = some e) : dok prog_13_method_62_code e := dok_at (by decide +kernel) i h
def cd_X11_news_0 : List En := [(0, .iload_n 1, 1, 1, 0), (1, .invokestatic 326, 3, 4, 0), (4, .ifCond .eq 19, 3, 7, 23), (7, .aload_n 0, 1, 8, 0), (8, .iload_n 2, 1, 9, 0), (9, .invokevirtual 245, 3, 12, 0), (12, .ifCond .eq 11, 3, 15, 23), (15, .aload_n 0, 1, 16, 0), (16, .iload_n 3, 1, 17, 0), (17, .invokevirtual 245, 3, 20, 0), (20, .ifCond .ne 7, 3, 23, 27), (23, .sipush (-1002), 3, 26, 0), (26, .ireturn, 1, 27, 0), (27, .aload_n 0, 1, 28, 0), (28, .iload_n 2, 1, 29, 0), (29, .iload_n 1, 1, 30, 0), (30, .invokevirtual 378, 3, 33, 0), (33, .iconst 0, 1, 34, 0), (34, .istore 4, 2, 36, 0), (36, .iload 4, 2, 38, 0), (38, .aload_n 0, 1, 39, 0), (39, .getfield 227, 3, 42, 0), (42, .if_icmp .ge 65, 3, 45, 107), (45, .aload_n 0, 1, 46, 0), (46, .getfield 129, 3, 49, 0), (49, .iload 4, 2, 51, 0), (51, .aload_n 0, 1, 52, 0), (52, .getfield 96, 3, 55, 0), (55, .iload 4, 2, 57, 0), (57, .baload, 1, 58, 0), (58, .ifCond .eq 13, 3, 61, 71), (61, .aload_n 0, 1, 62, 0), (62, .getfield 105, 3, 65, 0), (65, .iload 4, 2, 67, 0), (67, .iaload, 1, 68, 0), (68, .goto 4, 3, 71, 72), (71, .iconst (-1), 1, 72, 0), (72, .iastore, 1, 73, 0), (73, .aload_n 0, 1, 74, 0), (74, .getfield 132, 3, 77, 0), (77, .iload 4, 2, 79, 0), (79, .aload_n 0, 1, 80, 0), (80, .getfield 96, 3, 83, 0), (83, .iload 4, 2, 85, 0), (85, .baload, 1, 86, 0), (86, .ifCond .eq 13, 3, 89, 99), (89, .aload_n 0, 1, 90, 0), (90, .getfield 108, 3, 93, 0), (93, .iload 4, 2, 95, 0), (95, .iaload, 1, 96, 0), (96, .goto 4, 3, 99, 100), (99, .iconst (-1), 1, 100, 0), (100, .iastore, 1, 101, 0), (101, .iinc 4 1, 3, 104, 0), (104, .goto (-68), 3, 107, 36), (107, .aload_n 0, 1, 108, 0), (108, .iload_n 3, 1, 109, 0), (109, .iload_n 1, 1, 110, 0), (110, .invokevirtual 378, 3, 113, 0), (113, .iconst 0, 1, 114, 0)]
def cd_X11_news_1 : List En := [(114, .istore 4, 2, 116, 0), (116, .iconst 0, 1, 117, 0), (117, .istore 5, 2, 119, 0), (119, .iload 5, 2, 121, 0), (121, .aload_n 0, 1, 122, 0), (122, .getfield 227, 3, 125, 0), (125, .if_icmp .ge 92, 3, 128, 217), (128, .aload_n 0, 1, 129, 0), (129, .getfield 96, 3, 132, 0), (132, .iload 5, 2, 134, 0), (134, .baload, 1, 135, 0), (135, .ifCond .eq 13, 3, 138, 148), (138, .aload_n 0, 1, 139, 0), (139, .getfield 105, 3, 142, 0), (142, .iload 5, 2, 144, 0), (144, .iaload, 1, 145, 0), (145, .goto 4, 3, 148, 149), (148, .iconst (-1), 1, 149, 0), (149, .istore 6, 2, 151, 0), (151, .aload_n 0, 1, 152, 0), (152, .getfield 96, 3, 155, 0), (155, .iload 5, 2, 157, 0), (157, .baload, 1, 158, 0), (158, .ifCond .eq 13, 3, 161, 171), (161, .aload_n 0, 1, 162, 0), (162, .getfield 108, 3, 165, 0), (165, .iload 5, 2, 167, 0), (167, .iaload, 1, 168, 0), (168, .goto 4, 3, 171, 172), (171, .iconst (-1), 1, 172, 0), (172, .istore 7, 2, 174, 0), (174, .iload 4, 2, 176, 0), (176, .iload 6, 2, 178, 0), (178, .aload_n 0, 1, 179, 0), (179, .getfield 129, 3, 182, 0), (182, .iload 5, 2, 184, 0), (184, .iaload, 1, 185, 0), (185, .if_icmp .ne 15, 3, 188, 200), (188, .iload 7, 2, 190, 0), (190, .aload_n 0, 1, 191, 0), (191, .getfield 132, 3, 194, 0), (194, .iload 5, 2, 196, 0), (196, .iaload, 1, 197, 0), (197, .if_icmp .eq 7, 3, 200, 204), (200, .iconst 1, 1, 201, 0), (201, .goto 4, 3, 204, 205), (204, .iconst 0, 1, 205, 0), (205, .invokestatic 307, 3, 208, 0), (208, .iadd, 1, 209, 0), (209, .istore 4, 2, 211, 0), (211, .iinc 5 1, 3, 214, 0), (214, .goto (-95), 3, 217, 119), (217, .iload 4, 2, 219, 0), (219, .ireturn, 1, 220, 0)]
theorem E_X11_news_0 {e : En} (i : Nat) (h : nthq cd_X11_news_0 i = some e) : dok prog_13_method_63_code e := dok_at (by decide +kernel) i h
theorem E_X11_news_1 {e : En} (i : Nat) (h : nthq cd_X11_news_1 i = some e) : dok prog_13_method_63_code e := dok_at (by decide +kernel) i h
def cd_X11_rentOf_0 : List En := [(0, .iload_n 2, 1, 1, 0), (1, .aload_n 0, 1, 2, 0), (2, .getfield 25, 3, 5, 0), (5, .iload_n 1, 1, 6, 0), (6, .iaload, 1, 7, 0), (7, .if_icmp .ge 5, 3, 10, 12), (10, .iconst 0, 1, 11, 0), (11, .ireturn, 1, 12, 0), (12, .aload_n 0, 1, 13, 0), (13, .aload_n 0, 1, 14, 0), (14, .getfield 205, 3, 17, 0), (17, .iload_n 2, 1, 18, 0), (18, .invokevirtual 378, 3, 21, 0), (21, .aload_n 0, 1, 22, 0), (22, .iload_n 2, 1, 23, 0), (23, .invokevirtual 341, 3, 26, 0), (26, .aload_n 0, 1, 27, 0), (27, .iload_n 1, 1, 28, 0), (28, .invokevirtual 348, 3, 31, 0), (31, .aload_n 0, 1, 32, 0), (32, .getfield 93, 3, 35, 0), (35, .iconst 0, 1, 36, 0), (36, .iaload, 1, 37, 0), (37, .imul, 1, 38, 0), (38, .iload_n 2, 1, 39, 0), (39, .aload_n 0, 1, 40, 0), (40, .getfield 25, 3, 43, 0), (43, .iload_n 1, 1, 44, 0), (44, .iaload, 1, 45, 0), (45, .isub, 1, 46, 0), (46, .bipush 7, 2, 48, 0), (48, .idiv, 1, 49, 0), (49, .iconst 1, 1, 50, 0), (50, .iadd, 1, 51, 0), (51, .imul, 1, 52, 0), (52, .ireturn, 1, 53, 0)]
theorem E_X11_rentOf_0 {e : En} (i : Nat) (h : nthq cd_X11_rentOf_0 i = some e) : dok prog_13_method_64_code e := dok_at (by decide +kernel) i h
def cd_X11_rent_0 : List En := [(0, .aload_n 0, 1, 1, 0), (1, .iload_n 1, 1, 2, 0), (2, .invokevirtual 224, 3, 5, 0), (5, .ifCond .eq 7, 3, 8, 12), (8, .sipush (-1001), 3, 11, 0), (11, .ireturn, 1, 12, 0), (12, .iload_n 2, 1, 13, 0), (13, .invokestatic 326, 3, 16, 0), (16, .ifCond .eq 12, 3, 19, 28), (19, .aload_n 0, 1, 20, 0), (20, .iload_n 1, 1, 21, 0), (21, .iload_n 2, 1, 22, 0), (22, .invokevirtual 413, 3, 25, 0), (25, .goto 6, 3, 28, 31), (28, .sipush (-1002), 3, 31, 0), (31, .ireturn, 1, 32, 0)]
theorem E_X11_rent_0 {e : En} (i : Nat) (h : nthq cd_X11_rent_0 i = some e) : dok prog_13_method_65_code e := dok_at (by decide +kernel) i h
def cd_X11_weightOn_0 : List En := [(0, .aload_n 0, 1, 1, 0), (1, .iload_n 2, 1, 2, 0), (2, .invokevirtual 341, 3, 5, 0), (5, .iload_n 2, 1, 6, 0), (6, .aload_n 0, 1, 7, 0), (7, .getfield 25, 3, 10, 0), (10, .iload_n 1, 1, 11, 0), (11, .iaload, 1, 12, 0), (12, .if_icmp .ge 7, 3, 15, 19), (15, .iconst 0, 1, 16, 0), (16, .goto 14, 3, 19, 30), (19, .iload_n 2, 1, 20, 0), (20, .aload_n 0, 1, 21, 0), (21, .getfield 25, 3, 24, 0), (24, .iload_n 1, 1, 25, 0), (25, .iaload, 1, 26, 0), (26, .isub, 1, 27, 0), (27, .bipush 7, 2, 29, 0), (29, .idiv, 1, 30, 0), (30, .istore_n 3, 1, 31, 0), (31, .sipush 1000, 3, 34, 0), (34, .aload_n 0, 1, 35, 0), (35, .getfield 93, 3, 38, 0), (38, .iconst 5, 1, 39, 0), (39, .aload_n 0, 1, 40, 0), (40, .getfield 7, 3, 43, 0), (43, .iload_n 1, 1, 44, 0), (44, .iaload, 1, 45, 0), (45, .iadd, 1, 46, 0), (46, .iaload, 1, 47, 0), (47, .iload_n 3, 1, 48, 0), (48, .imul, 1, 49, 0), (49, .isub, 1, 50, 0), (50, .istore 4, 2, 52, 0), (52, .iload 4, 2, 54, 0), (54, .ifCond .ge 7, 3, 57, 61), (57, .iconst 0, 1, 58, 0), (58, .goto 16, 3, 61, 74), (61, .aload_n 0, 1, 62, 0), (62, .getfield 16, 3, 65, 0), (65, .iload_n 1, 1, 66, 0), (66, .iaload, 1, 67, 0), (67, .iload 4, 2, 69, 0), (69, .imul, 1, 70, 0), (70, .sipush 1000, 3, 73, 0), (73, .idiv, 1, 74, 0), (74, .ireturn, 1, 75, 0)]
theorem E_X11_weightOn_0 {e : En} (i : Nat) (h : nthq cd_X11_weightOn_0 i = some e) : dok prog_13_method_66_code e := dok_at (by decide +kernel) i h
def cd_X11_weight_0 : List En := [(0, .aload_n 0, 1, 1, 0), (1, .iload_n 1, 1, 2, 0), (2, .invokevirtual 224, 3, 5, 0), (5, .ifCond .eq 7, 3, 8, 12), (8, .sipush (-1001), 3, 11, 0), (11, .ireturn, 1, 12, 0), (12, .iload_n 2, 1, 13, 0), (13, .invokestatic 326, 3, 16, 0), (16, .ifCond .eq 12, 3, 19, 28), (19, .aload_n 0, 1, 20, 0), (20, .iload_n 1, 1, 21, 0), (21, .iload_n 2, 1, 22, 0), (22, .invokevirtual 416, 3, 25, 0), (25, .goto 6, 3, 28, 31), (28, .sipush (-1002), 3, 31, 0), (31, .ireturn, 1, 32, 0)]
theorem E_X11_weight_0 {e : En} (i : Nat) (h : nthq cd_X11_weight_0 i = some e) : dok prog_13_method_67_code e := dok_at (by decide +kernel) i h
def cd_X11_weigh_0 : List En := [(0, .aload_n 0, 1, 1, 0), (1, .iload_n 1, 1, 2, 0), (2, .invokevirtual 224, 3, 5, 0), (5, .ifCond .eq 7, 3, 8, 12), (8, .sipush (-1001), 3, 11, 0), (11, .ireturn, 1, 12, 0), (12, .iload_n 2, 1, 13, 0), (13, .i2l, 1, 14, 0), (14, .lconst 1, 1, 15, 0), (15, .ldc2_w 222, 3, 18, 0), (18, .invokestatic 197, 3, 21, 0), (21, .ifCond .eq 15, 3, 24, 36), (24, .iload_n 3, 1, 25, 0), (25, .i2l, 1, 26, 0), (26, .lconst 0, 1, 27, 0), (27, .ldc2_w 419, 3, 30, 0), (30, .invokestatic 197, 3, 33, 0), (33, .ifCond .ne 7, 3, 36, 40), (36, .sipush (-1002), 3, 39, 0), (39, .ireturn, 1, 40, 0), (40, .aload_n 0, 1, 41, 0), (41, .getfield 393, 3, 44, 0), (44, .bipush 40, 2, 46, 0), (46, .if_icmp .ne 7, 3, 49, 53), (49, .sipush (-1004), 3, 52, 0), (52, .ireturn, 1, 53, 0), (53, .aload_n 0, 1, 54, 0), (54, .getfield 135, 3, 57, 0), (57, .aload_n 0, 1, 58, 0), (58, .getfield 393, 3, 61, 0), (61, .iload_n 1, 1, 62, 0), (62, .iastore, 1, 63, 0), (63, .aload_n 0, 1, 64, 0), (64, .getfield 138, 3, 67, 0), (67, .aload_n 0, 1, 68, 0), (68, .getfield 393, 3, 71, 0), (71, .iload_n 2, 1, 72, 0), (72, .iastore, 1, 73, 0), (73, .aload_n 0, 1, 74, 0), (74, .getfield 141, 3, 77, 0), (77, .aload_n 0, 1, 78, 0), (78, .getfield 393, 3, 81, 0), (81, .iload_n 3, 1, 82, 0), (82, .iastore, 1, 83, 0), (83, .aload_n 0, 1, 84, 0), (84, .getfield 144, 3, 87, 0), (87, .aload_n 0, 1, 88, 0), (88, .getfield 393, 3, 91, 0), (91, .aload_n 0, 1, 92, 0), (92, .getfield 205, 3, 95, 0), (95, .iastore, 1, 96, 0), (96, .aload_n 0, 1, 97, 0), (97, .dup, 1, 98, 0), (98, .getfield 393, 3, 101, 0), (101, .iconst 1, 1, 102, 0), (102, .iadd, 1, 103, 0), (103, .putfield 393, 3, 106, 0), (106, .aload_n 0, 1, 107, 0), (107, .getfield 393, 3, 110, 0), (110, .ireturn, 1, 111, 0)]
theorem E_X11_weigh_0 {e : En} (i : Nat) (h : nthq cd_X11_weigh_0 i = some e) : dok prog_13_method_68_code e := dok_at (by decide +kernel) i h
def cd_X11_loss_0 : List En := [(0, .iload_n 1, 1, 1, 0), (1, .i2l, 1, 2, 0), (2, .lconst 0, 1, 3, 0), (3, .aload_n 0, 1, 4, 0), (4, .getfield 393, 3, 7, 0), (7, .iconst 1, 1, 8, 0), (8, .isub, 1, 9, 0), (9, .i2l, 1, 10, 0), (10, .invokestatic 197, 3, 13, 0), (13, .ifCond .ne 7, 3, 16, 20), (16, .sipush (-1001), 3, 19, 0), (19, .ireturn, 1, 20, 0), (20, .iload_n 2, 1, 21, 0), (21, .i2l, 1, 22, 0), (22, .lconst 0, 1, 23, 0), (23, .ldc2_w 421, 3, 26, 0), (26, .invokestatic 197, 3, 29, 0), (29, .ifCond .ne 7, 3, 32, 36), (32, .sipush (-1002), 3, 35, 0), (35, .ireturn, 1, 36, 0), (36, .aload_n 0, 1, 37, 0), (37, .getfield 138, 3, 40, 0), (40, .iload_n 1, 1, 41, 0), (41, .iaload, 1, 42, 0), (42, .aload_n 0, 1, 43, 0), (43, .aload_n 0, 1, 44, 0), (44, .getfield 135, 3, 47, 0), (47, .iload_n 1, 1, 48, 0), (48, .iaload, 1, 49, 0), (49, .aload_n 0, 1, 50, 0), (50, .getfield 144, 3, 53, 0), (53, .iload_n 1, 1, 54, 0), (54, .iaload, 1, 55, 0), (55, .invokevirtual 416, 3, 58, 0), (58, .imul, 1, 59, 0), (59, .istore_n 3, 1, 60, 0), (60, .iload_n 3, 1, 61, 0), (61, .aload_n 0, 1, 62, 0), (62, .getfield 141, 3, 65, 0), (65, .iload_n 1, 1, 66, 0), (66, .iaload, 1, 67, 0), (67, .isub, 1, 68, 0), (68, .istore 4, 2, 70, 0), (70, .iload 4, 2, 72, 0), (72, .ifCond .ge 7, 3, 75, 79), (75, .iconst 0, 1, 76, 0), (76, .goto 5, 3, 79, 81), (79, .iload 4, 2, 81, 0), (81, .istore 4, 2, 83, 0), (83, .ldc2_w 423, 3, 86, 0), (86, .iload 4, 2, 88, 0), (88, .i2l, 1, 89, 0), (89, .lmul, 1, 90, 0), (90, .aload_n 0, 1, 91, 0), (91, .getfield 93, 3, 94, 0), (94, .iconst 3, 1, 95, 0), (95, .iaload, 1, 96, 0), (96, .i2l, 1, 97, 0), (97, .iload_n 3, 1, 98, 0), (98, .i2l, 1, 99, 0)]
def cd_X11_loss_1 : List En := [(99, .lmul, 1, 100, 0), (100, .lcmp, 1, 101, 0), (101, .ifCond .le 7, 3, 104, 108), (104, .iconst 1, 1, 105, 0), (105, .goto 4, 3, 108, 109), (108, .iconst 0, 1, 109, 0), (109, .istore 5, 2, 111, 0), (111, .iload_n 2, 1, 112, 0), (112, .ifCond .ne 8, 3, 115, 120), (115, .iload 4, 2, 117, 0), (117, .goto 37, 3, 120, 154), (120, .iload_n 2, 1, 121, 0), (121, .iconst 1, 1, 122, 0), (122, .if_icmp .ne 17, 3, 125, 139), (125, .iload 5, 2, 127, 0), (127, .ifCond .eq 8, 3, 130, 135), (130, .iload 4, 2, 132, 0), (132, .goto 22, 3, 135, 154), (135, .iconst 0, 1, 136, 0), (136, .goto 18, 3, 139, 154), (139, .iload 5, 2, 141, 0), (141, .ifCond .eq 12, 3, 144, 153), (144, .aload_n 0, 1, 145, 0), (145, .getfield 93, 3, 148, 0), (148, .iconst 4, 1, 149, 0), (149, .iaload, 1, 150, 0), (150, .goto 4, 3, 153, 154), (153, .iconst (-1), 1, 154, 0), (154, .ireturn, 1, 155, 0)]
theorem E_X11_loss_0 {e : En} (i : Nat) (h : nthq cd_X11_loss_0 i = some e) : dok prog_13_method_69_code e := dok_at (by decide +kernel) i h
theorem E_X11_loss_1 {e : En} (i : Nat) (h : nthq cd_X11_loss_1 i = some e) : dok prog_13_method_69_code e := dok_at (by decide +kernel) i h
def cd_X11_unpaid_0 : List En := [(0, .iload_n 1, 1, 1, 0), (1, .invokestatic 213, 3, 4, 0), (4, .ifCond .eq 11, 3, 7, 15), (7, .aload_n 0, 1, 8, 0), (8, .iload_n 2, 1, 9, 0), (9, .invokevirtual 224, 3, 12, 0), (12, .ifCond .eq 7, 3, 15, 19), (15, .sipush (-1001), 3, 18, 0), (18, .ireturn, 1, 19, 0), (19, .iload_n 3, 1, 20, 0), (20, .i2l, 1, 21, 0), (21, .lconst 0, 1, 22, 0), (22, .ldc2_w 425, 3, 25, 0), (25, .invokestatic 197, 3, 28, 0), (28, .ifCond .ne 7, 3, 31, 35), (31, .sipush (-1002), 3, 34, 0), (34, .ireturn, 1, 35, 0), (35, .aload_n 0, 1, 36, 0), (36, .getfield 147, 3, 39, 0), (39, .bipush 8, 2, 41, 0), (41, .iload_n 2, 1, 42, 0), (42, .imul, 1, 43, 0), (43, .iload_n 1, 1, 44, 0), (44, .iadd, 1, 45, 0), (45, .iaload, 1, 46, 0), (46, .istore 4, 2, 48, 0), (48, .aload_n 0, 1, 49, 0), (49, .getfield 147, 3, 52, 0), (52, .bipush 8, 2, 54, 0), (54, .iload_n 2, 1, 55, 0), (55, .imul, 1, 56, 0), (56, .iload_n 1, 1, 57, 0), (57, .iadd, 1, 58, 0), (58, .iload_n 3, 1, 59, 0), (59, .iastore, 1, 60, 0), (60, .iload 4, 2, 62, 0), (62, .ireturn, 1, 63, 0)]
theorem E_X11_unpaid_0 {e : En} (i : Nat) (h : nthq cd_X11_unpaid_0 i = some e) : dok prog_13_method_70_code e := dok_at (by decide +kernel) i h
def cd_X11_wants_0 : List En := [(0, .iconst 0, 1, 1, 0), (1, .istore 4, 2, 3, 0), (3, .iload_n 1, 1, 4, 0), (4, .tableswitch 138 0 2 #[28, 35, 102], 28, 32, 0), (32, .aload_n 0, 1, 33, 0), (33, .iload_n 2, 1, 34, 0), (34, .iload_n 3, 1, 35, 0), (35, .invokevirtual 413, 3, 38, 0), (38, .ireturn, 1, 39, 0), (39, .aload_n 0, 1, 40, 0), (40, .aload_n 0, 1, 41, 0), (41, .getfield 205, 3, 44, 0), (44, .iload_n 3, 1, 45, 0), (45, .invokevirtual 378, 3, 48, 0), (48, .iconst 0, 1, 49, 0), (49, .istore 5, 2, 51, 0), (51, .iload 5, 2, 53, 0), (53, .aload_n 0, 1, 54, 0), (54, .getfield 227, 3, 57, 0), (57, .if_icmp .ge 46, 3, 60, 103), (60, .iload 4, 2, 62, 0), (62, .aload_n 0, 1, 63, 0), (63, .getfield 96, 3, 66, 0), (66, .iload 5, 2, 68, 0), (68, .baload, 1, 69, 0), (69, .ifCond .eq 24, 3, 72, 93), (72, .aload_n 0, 1, 73, 0), (73, .getfield 99, 3, 76, 0), (76, .iload 5, 2, 78, 0), (78, .iaload, 1, 79, 0), (79, .iload_n 2, 1, 80, 0), (80, .if_icmp .ne 13, 3, 83, 93), (83, .aload_n 0, 1, 84, 0), (84, .getfield 114, 3, 87, 0), (87, .iload 5, 2, 89, 0), (89, .iaload, 1, 90, 0), (90, .goto 4, 3, 93, 94), (93, .iconst 0, 1, 94, 0), (94, .iadd, 1, 95, 0), (95, .istore 4, 2, 97, 0), (97, .iinc 5 1, 3, 100, 0), (100, .goto (-49), 3, 103, 51), (103, .iload 4, 2, 105, 0), (105, .ireturn, 1, 106, 0), (106, .iconst 0, 1, 107, 0), (107, .istore 5, 2, 109, 0), (109, .iload 5, 2, 111, 0), (111, .bipush 8, 2, 113, 0), (113, .if_icmp .ge 26, 3, 116, 139), (116, .iload 4, 2, 118, 0), (118, .aload_n 0, 1, 119, 0), (119, .getfield 147, 3, 122, 0), (122, .bipush 8, 2, 124, 0), (124, .iload_n 2, 1, 125, 0), (125, .imul, 1, 126, 0), (126, .iload 5, 2, 128, 0), (128, .iadd, 1, 129, 0), (129, .iaload, 1, 130, 0), (130, .iadd, 1, 131, 0), (131, .istore 4, 2, 133, 0)]
def cd_X11_wants_1 : List En := [(133, .iinc 5 1, 3, 136, 0), (136, .goto (-27), 3, 139, 109), (139, .iload 4, 2, 141, 0), (141, .ireturn, 1, 142, 0), (142, .ldc_w 427, 3, 145, 0), (145, .ireturn, 1, 146, 0)]
theorem E_X11_wants_0 {e : En} (i : Nat) (h : nthq cd_X11_wants_0 i = some e) : dok prog_13_method_71_code e := dok_at (by decide +kernel) i h
theorem E_X11_wants_1 {e : En} (i : Nat) (h : nthq cd_X11_wants_1 i = some e) : dok prog_13_method_71_code e := dok_at (by decide +kernel) i h
def cd_X11_money_0 : List En := [(0, .aload_n 0, 1, 1, 0), (1, .iload_n 1, 1, 2, 0), (2, .invokevirtual 224, 3, 5, 0), (5, .ifCond .eq 7, 3, 8, 12), (8, .sipush (-1001), 3, 11, 0), (11, .ireturn, 1, 12, 0), (12, .iload_n 2, 1, 13, 0), (13, .i2l, 1, 14, 0), (14, .lconst 0, 1, 15, 0), (15, .ldc2_w 428, 3, 18, 0), (18, .invokestatic 197, 3, 21, 0), (21, .ifCond .eq 23, 3, 24, 44), (24, .iload_n 3, 1, 25, 0), (25, .invokestatic 326, 3, 28, 0), (28, .ifCond .eq 16, 3, 31, 44), (31, .iload 4, 2, 33, 0), (33, .i2l, 1, 34, 0), (34, .lconst 0, 1, 35, 0), (35, .ldc2_w 430, 3, 38, 0), (38, .invokestatic 197, 3, 41, 0), (41, .ifCond .ne 7, 3, 44, 48), (44, .sipush (-1002), 3, 47, 0), (47, .ireturn, 1, 48, 0), (48, .aload_n 0, 1, 49, 0), (49, .iload_n 3, 1, 50, 0), (50, .invokevirtual 341, 3, 53, 0), (53, .aload_n 0, 1, 54, 0), (54, .getfield 333, 3, 57, 0), (57, .istore 5, 2, 59, 0), (59, .aload_n 0, 1, 60, 0), (60, .getfield 336, 3, 63, 0), (63, .istore 6, 2, 65, 0), (65, .iload_n 2, 1, 66, 0), (66, .istore 7, 2, 68, 0), (68, .iconst 0, 1, 69, 0), (69, .istore 8, 2, 71, 0), (71, .iconst 0, 1, 72, 0), (72, .istore 9, 2, 74, 0), (74, .iload 9, 2, 76, 0), (76, .iload 6, 2, 78, 0), (78, .if_icmp .ge 69, 3, 81, 147), (81, .iload 5, 2, 83, 0), (83, .iconst 2, 1, 84, 0), (84, .iload 9, 2, 86, 0), (86, .imul, 1, 87, 0), (87, .ishr, 1, 88, 0), (88, .iconst 3, 1, 89, 0), (89, .iand, 1, 90, 0), (90, .istore 10, 2, 92, 0), (92, .aload_n 0, 1, 93, 0), (93, .iload 10, 2, 95, 0), (95, .iload_n 1, 1, 96, 0), (96, .iload_n 3, 1, 97, 0), (97, .invokevirtual 432, 3, 100, 0), (100, .istore 11, 2, 102, 0), (102, .iload 11, 2, 104, 0), (104, .iload 7, 2, 106, 0), (106, .if_icmp .ge 8, 3, 109, 114), (109, .iload 11, 2, 111, 0), (111, .goto 5, 3, 114, 116)]
def cd_X11_money_1 : List En := [(114, .iload 7, 2, 116, 0), (116, .istore 12, 2, 118, 0), (118, .iload 10, 2, 120, 0), (120, .iload 4, 2, 122, 0), (122, .if_icmp .ne 8, 3, 125, 130), (125, .iload 12, 2, 127, 0), (127, .goto 5, 3, 130, 132), (130, .iload 8, 2, 132, 0), (132, .istore 8, 2, 134, 0), (134, .iload 7, 2, 136, 0), (136, .iload 12, 2, 138, 0), (138, .isub, 1, 139, 0), (139, .istore 7, 2, 141, 0), (141, .iinc 9 1, 3, 144, 0), (144, .goto (-70), 3, 147, 74), (147, .iload 4, 2, 149, 0), (149, .iconst 4, 1, 150, 0), (150, .if_icmp .ne 8, 3, 153, 158), (153, .iload 7, 2, 155, 0), (155, .goto 5, 3, 158, 160), (158, .iload 8, 2, 160, 0), (160, .ireturn, 1, 161, 0)]
theorem E_X11_money_0 {e : En} (i : Nat) (h : nthq cd_X11_money_0 i = some e) : dok prog_13_method_72_code e := dok_at (by decide +kernel) i h
theorem E_X11_money_1 {e : En} (i : Nat) (h : nthq cd_X11_money_1 i = some e) : dok prog_13_method_72_code e := dok_at (by decide +kernel) i h
def cd_X11_sale_0 : List En := [(0, .iload_n 1, 1, 1, 0), (1, .invokestatic 213, 3, 4, 0), (4, .ifCond .eq 10, 3, 7, 14), (7, .iload_n 2, 1, 8, 0), (8, .invokestatic 213, 3, 11, 0), (11, .ifCond .ne 7, 3, 14, 18), (14, .sipush (-1001), 3, 17, 0), (17, .ireturn, 1, 18, 0), (18, .iload_n 1, 1, 19, 0), (19, .iload_n 2, 1, 20, 0), (20, .if_icmp .eq 28, 3, 23, 48), (23, .iload_n 3, 1, 24, 0), (24, .i2l, 1, 25, 0), (25, .lconst 0, 1, 26, 0), (26, .ldc2_w 220, 3, 29, 0), (29, .invokestatic 197, 3, 32, 0), (32, .ifCond .eq 16, 3, 35, 48), (35, .iload 4, 2, 37, 0), (37, .i2l, 1, 38, 0), (38, .lconst 1, 1, 39, 0), (39, .ldc2_w 436, 3, 42, 0), (42, .invokestatic 197, 3, 45, 0), (45, .ifCond .ne 7, 3, 48, 52), (48, .sipush (-1002), 3, 51, 0), (51, .ireturn, 1, 52, 0), (52, .aload_n 0, 1, 53, 0), (53, .getfield 387, 3, 56, 0), (56, .bipush 24, 2, 58, 0), (58, .if_icmp .ne 7, 3, 61, 65), (61, .sipush (-1004), 3, 64, 0), (64, .ireturn, 1, 65, 0), (65, .aload_n 0, 1, 66, 0), (66, .getfield 150, 3, 69, 0), (69, .bipush 8, 2, 71, 0), (71, .iload_n 3, 1, 72, 0), (72, .imul, 1, 73, 0), (73, .iload_n 1, 1, 74, 0), (74, .iadd, 1, 75, 0), (75, .dup2, 1, 76, 0), (76, .iaload, 1, 77, 0), (77, .iload 4, 2, 79, 0), (79, .isub, 1, 80, 0), (80, .iastore, 1, 81, 0), (81, .aload_n 0, 1, 82, 0), (82, .getfield 150, 3, 85, 0), (85, .bipush 8, 2, 87, 0), (87, .iload_n 3, 1, 88, 0), (88, .imul, 1, 89, 0), (89, .iload_n 2, 1, 90, 0), (90, .iadd, 1, 91, 0), (91, .dup2, 1, 92, 0), (92, .iaload, 1, 93, 0), (93, .iload 4, 2, 95, 0), (95, .iadd, 1, 96, 0), (96, .iastore, 1, 97, 0), (97, .aload_n 0, 1, 98, 0), (98, .dup, 1, 99, 0), (99, .getfield 387, 3, 102, 0), (102, .iconst 1, 1, 103, 0), (103, .iadd, 1, 104, 0)]
def cd_X11_sale_1 : List En := [(104, .putfield 387, 3, 107, 0), (107, .aload_n 0, 1, 108, 0), (108, .getfield 387, 3, 111, 0), (111, .ireturn, 1, 112, 0)]
theorem E_X11_sale_0 {e : En} (i : Nat) (h : nthq cd_X11_sale_0 i = some e) : dok prog_13_method_73_code e := dok_at (by decide +kernel) i h
theorem E_X11_sale_1 {e : En} (i : Nat) (h : nthq cd_X11_sale_1 i = some e) : dok prog_13_method_73_code e := dok_at (by decide +kernel) i h
def cd_X11_net_0 : List En := [(0, .iload_n 1, 1, 1, 0), (1, .invokestatic 213, 3, 4, 0), (4, .ifCond .ne 7, 3, 7, 11), (7, .sipush (-1001), 3, 10, 0), (10, .ireturn, 1, 11, 0), (11, .iload_n 2, 1, 12, 0), (12, .i2l, 1, 13, 0), (13, .lconst 0, 1, 14, 0), (14, .ldc2_w 220, 3, 17, 0), (17, .invokestatic 197, 3, 20, 0), (20, .ifCond .eq 17, 3, 23, 37), (23, .aload_n 0, 1, 24, 0), (24, .getfield 150, 3, 27, 0), (27, .bipush 8, 2, 29, 0), (29, .iload_n 2, 1, 30, 0), (30, .imul, 1, 31, 0), (31, .iload_n 1, 1, 32, 0), (32, .iadd, 1, 33, 0), (33, .iaload, 1, 34, 0), (34, .goto 6, 3, 37, 40), (37, .sipush (-1002), 3, 40, 0), (40, .ireturn, 1, 41, 0)]
theorem E_X11_net_0 {e : En} (i : Nat) (h : nthq cd_X11_net_0 i = some e) : dok prog_13_method_74_code e := dok_at (by decide +kernel) i h
def cd_X11_handings_0 : List En := [(0, .iload_n 1, 1, 1, 0), (1, .i2l, 1, 2, 0), (2, .lconst 0, 1, 3, 0), (3, .ldc2_w 220, 3, 6, 0), (6, .invokestatic 197, 3, 9, 0), (9, .ifCond .ne 7, 3, 12, 16), (12, .sipush (-1002), 3, 15, 0), (15, .ireturn, 1, 16, 0), (16, .iconst 0, 1, 17, 0), (17, .istore_n 2, 1, 18, 0), (18, .iconst 0, 1, 19, 0), (19, .istore_n 3, 1, 20, 0), (20, .iload_n 3, 1, 21, 0), (21, .bipush 8, 2, 23, 0), (23, .if_icmp .ge 36, 3, 26, 59), (26, .iload_n 2, 1, 27, 0), (27, .aload_n 0, 1, 28, 0), (28, .getfield 150, 3, 31, 0), (31, .bipush 8, 2, 33, 0), (33, .iload_n 1, 1, 34, 0), (34, .imul, 1, 35, 0), (35, .iload_n 3, 1, 36, 0), (36, .iadd, 1, 37, 0), (37, .iaload, 1, 38, 0), (38, .ifCond .eq 7, 3, 41, 45), (41, .iconst 1, 1, 42, 0), (42, .goto 4, 3, 45, 46), (45, .iconst 0, 1, 46, 0), (46, .invokestatic 307, 3, 49, 0), (49, .iload_n 3, 1, 50, 0), (50, .ishl, 1, 51, 0), (51, .ior, 1, 52, 0), (52, .istore_n 2, 1, 53, 0), (53, .iinc 3 1, 3, 56, 0), (56, .goto (-36), 3, 59, 20), (59, .iconst 0, 1, 60, 0), (60, .istore_n 3, 1, 61, 0), (61, .iconst 0, 1, 62, 0), (62, .istore 4, 2, 64, 0), (64, .iload 4, 2, 66, 0), (66, .sipush 256, 3, 69, 0), (69, .if_icmp .ge 140, 3, 72, 209), (72, .iconst 0, 1, 73, 0), (73, .istore 5, 2, 75, 0), (75, .iconst 0, 1, 76, 0), (76, .istore 6, 2, 78, 0), (78, .iconst 0, 1, 79, 0), (79, .istore 7, 2, 81, 0), (81, .iload 7, 2, 83, 0), (83, .bipush 8, 2, 85, 0), (85, .if_icmp .ge 77, 3, 88, 162), (88, .iload 4, 2, 90, 0), (90, .iload 7, 2, 92, 0), (92, .ishr, 1, 93, 0), (93, .iconst 1, 1, 94, 0), (94, .iand, 1, 95, 0), (95, .iconst 1, 1, 96, 0), (96, .if_icmp .ne 60, 3, 99, 156), (99, .iload 5, 2, 101, 0), (101, .aload_n 0, 1, 102, 0)]
def cd_X11_handings_1 : List En := [(102, .getfield 150, 3, 105, 0), (105, .bipush 8, 2, 107, 0), (107, .iload_n 1, 1, 108, 0), (108, .imul, 1, 109, 0), (109, .iload 7, 2, 111, 0), (111, .iadd, 1, 112, 0), (112, .iaload, 1, 113, 0), (113, .iadd, 1, 114, 0), (114, .istore 5, 2, 116, 0), (116, .aload_n 0, 1, 117, 0), (117, .getfield 153, 3, 120, 0), (120, .iload 4, 2, 122, 0), (122, .iconst 1, 1, 123, 0), (123, .iload 7, 2, 125, 0), (125, .ishl, 1, 126, 0), (126, .iconst (-1), 1, 127, 0), (127, .ixor, 1, 128, 0), (128, .iand, 1, 129, 0), (129, .iaload, 1, 130, 0), (130, .iload 6, 2, 132, 0), (132, .if_icmp .le 20, 3, 135, 152), (135, .aload_n 0, 1, 136, 0), (136, .getfield 153, 3, 139, 0), (139, .iload 4, 2, 141, 0), (141, .iconst 1, 1, 142, 0), (142, .iload 7, 2, 144, 0), (144, .ishl, 1, 145, 0), (145, .iconst (-1), 1, 146, 0), (146, .ixor, 1, 147, 0), (147, .iand, 1, 148, 0), (148, .iaload, 1, 149, 0), (149, .goto 5, 3, 152, 154), (152, .iload 6, 2, 154, 0), (154, .istore 6, 2, 156, 0), (156, .iinc 7 1, 3, 159, 0), (159, .goto (-78), 3, 162, 81), (162, .aload_n 0, 1, 163, 0), (163, .getfield 153, 3, 166, 0), (166, .iload 4, 2, 168, 0), (168, .iload 4, 2, 170, 0), (170, .iload_n 2, 1, 171, 0), (171, .iconst (-1), 1, 172, 0), (172, .ixor, 1, 173, 0), (173, .iand, 1, 174, 0), (174, .ifCond .eq 7, 3, 177, 181), (177, .iconst 0, 1, 178, 0), (178, .goto 24, 3, 181, 202), (181, .iload 6, 2, 183, 0), (183, .iload 4, 2, 185, 0), (185, .ifCond .eq 12, 3, 188, 197), (188, .iload 5, 2, 190, 0), (190, .ifCond .ne 7, 3, 193, 197), (193, .iconst 1, 1, 194, 0), (194, .goto 4, 3, 197, 198), (197, .iconst 0, 1, 198, 0), (198, .invokestatic 307, 3, 201, 0), (201, .iadd, 1, 202, 0), (202, .iastore, 1, 203, 0), (203, .iinc 4 1, 3, 206, 0), (206, .goto (-142), 3, 209, 64)]
def cd_X11_handings_2 : List En := [(209, .iconst 0, 1, 210, 0), (210, .istore 4, 2, 212, 0), (212, .iload 4, 2, 214, 0), (214, .bipush 8, 2, 216, 0), (216, .if_icmp .ge 18, 3, 219, 234), (219, .iload_n 3, 1, 220, 0), (220, .iload_n 2, 1, 221, 0), (221, .iload 4, 2, 223, 0), (223, .ishr, 1, 224, 0), (224, .iconst 1, 1, 225, 0), (225, .iand, 1, 226, 0), (226, .iadd, 1, 227, 0), (227, .istore_n 3, 1, 228, 0), (228, .iinc 4 1, 3, 231, 0), (231, .goto (-19), 3, 234, 212), (234, .iload_n 3, 1, 235, 0), (235, .aload_n 0, 1, 236, 0), (236, .getfield 153, 3, 239, 0), (239, .iload_n 2, 1, 240, 0), (240, .iaload, 1, 241, 0), (241, .isub, 1, 242, 0), (242, .ireturn, 1, 243, 0)]
theorem E_X11_handings_0 {e : En} (i : Nat) (h : nthq cd_X11_handings_0 i = some e) : dok prog_13_method_75_code e := dok_at (by decide +kernel) i h
theorem E_X11_handings_1 {e : En} (i : Nat) (h : nthq cd_X11_handings_1 i = some e) : dok prog_13_method_75_code e := dok_at (by decide +kernel) i h
theorem E_X11_handings_2 {e : En} (i : Nat) (h : nthq cd_X11_handings_2 i = some e) : dok prog_13_method_75_code e := dok_at (by decide +kernel) i h
def cd_X11_due_0 : List En := [(0, .iload_n 1, 1, 1, 0), (1, .invokestatic 213, 3, 4, 0), (4, .ifCond .eq 10, 3, 7, 14), (7, .iload_n 2, 1, 8, 0), (8, .invokestatic 213, 3, 11, 0), (11, .ifCond .ne 7, 3, 14, 18), (14, .sipush (-1001), 3, 17, 0), (17, .ireturn, 1, 18, 0), (18, .iload_n 1, 1, 19, 0), (19, .iload_n 2, 1, 20, 0), (20, .if_icmp .eq 15, 3, 23, 35), (23, .iload_n 3, 1, 24, 0), (24, .i2l, 1, 25, 0), (25, .lconst 1, 1, 26, 0), (26, .ldc2_w 425, 3, 29, 0), (29, .invokestatic 197, 3, 32, 0), (32, .ifCond .ne 7, 3, 35, 39), (35, .sipush (-1002), 3, 38, 0), (38, .ireturn, 1, 39, 0), (39, .aload_n 0, 1, 40, 0), (40, .getfield 390, 3, 43, 0), (43, .bipush 24, 2, 45, 0), (45, .if_icmp .ne 7, 3, 48, 52), (48, .sipush (-1004), 3, 51, 0), (51, .ireturn, 1, 52, 0), (52, .aload_n 0, 1, 53, 0), (53, .getfield 156, 3, 56, 0), (56, .aload_n 0, 1, 57, 0), (57, .getfield 390, 3, 60, 0), (60, .iload_n 1, 1, 61, 0), (61, .iastore, 1, 62, 0), (62, .aload_n 0, 1, 63, 0), (63, .getfield 159, 3, 66, 0), (66, .aload_n 0, 1, 67, 0), (67, .getfield 390, 3, 70, 0), (70, .iload_n 2, 1, 71, 0), (71, .iastore, 1, 72, 0), (72, .aload_n 0, 1, 73, 0), (73, .getfield 162, 3, 76, 0), (76, .aload_n 0, 1, 77, 0), (77, .getfield 390, 3, 80, 0), (80, .iload_n 3, 1, 81, 0), (81, .iastore, 1, 82, 0), (82, .aload_n 0, 1, 83, 0), (83, .dup, 1, 84, 0), (84, .getfield 390, 3, 87, 0), (87, .iconst 1, 1, 88, 0), (88, .iadd, 1, 89, 0), (89, .putfield 390, 3, 92, 0), (92, .aload_n 0, 1, 93, 0), (93, .getfield 390, 3, 96, 0), (96, .ireturn, 1, 97, 0)]
theorem E_X11_due_0 {e : En} (i : Nat) (h : nthq cd_X11_due_0 i = some e) : dok prog_13_method_76_code e := dok_at (by decide +kernel) i h
def cd_X11_coin_0 : List En := [(0, .iload_n 1, 1, 1, 0), (1, .invokestatic 213, 3, 4, 0), (4, .ifCond .ne 7, 3, 7, 11), (7, .sipush (-1001), 3, 10, 0), (10, .ireturn, 1, 11, 0), (11, .iload_n 2, 1, 12, 0), (12, .i2l, 1, 13, 0), (13, .lconst 0, 1, 14, 0), (14, .ldc2_w 425, 3, 17, 0), (17, .invokestatic 197, 3, 20, 0), (20, .ifCond .ne 7, 3, 23, 27), (23, .sipush (-1002), 3, 26, 0), (26, .ireturn, 1, 27, 0), (27, .aload_n 0, 1, 28, 0), (28, .getfield 171, 3, 31, 0), (31, .iload_n 1, 1, 32, 0), (32, .iaload, 1, 33, 0), (33, .istore_n 3, 1, 34, 0), (34, .aload_n 0, 1, 35, 0), (35, .getfield 171, 3, 38, 0), (38, .iload_n 1, 1, 39, 0), (39, .iload_n 2, 1, 40, 0), (40, .iastore, 1, 41, 0), (41, .iload_n 3, 1, 42, 0), (42, .ireturn, 1, 43, 0)]
theorem E_X11_coin_0 {e : En} (i : Nat) (h : nthq cd_X11_coin_0 i = some e) : dok prog_13_method_77_code e := dok_at (by decide +kernel) i h
def cd_X11_owes_0 : List En := [(0, .iconst 0, 1, 1, 0), (1, .istore_n 2, 1, 2, 0), (2, .iconst 0, 1, 3, 0), (3, .istore_n 3, 1, 4, 0), (4, .iload_n 3, 1, 5, 0), (5, .aload_n 0, 1, 6, 0), (6, .getfield 390, 3, 9, 0), (9, .if_icmp .ge 32, 3, 12, 41), (12, .iload_n 2, 1, 13, 0), (13, .aload_n 0, 1, 14, 0), (14, .getfield 156, 3, 17, 0), (17, .iload_n 3, 1, 18, 0), (18, .iaload, 1, 19, 0), (19, .iload_n 1, 1, 20, 0), (20, .if_icmp .ne 12, 3, 23, 32), (23, .aload_n 0, 1, 24, 0), (24, .getfield 162, 3, 27, 0), (27, .iload_n 3, 1, 28, 0), (28, .iaload, 1, 29, 0), (29, .goto 4, 3, 32, 33), (32, .iconst 0, 1, 33, 0), (33, .iadd, 1, 34, 0), (34, .istore_n 2, 1, 35, 0), (35, .iinc 3 1, 3, 38, 0), (38, .goto (-34), 3, 41, 4), (41, .iload_n 2, 1, 42, 0), (42, .ireturn, 1, 43, 0)]
theorem E_X11_owes_0 {e : En} (i : Nat) (h : nthq cd_X11_owes_0 i = some e) : dok prog_13_method_78_code e := dok_at (by decide +kernel) i h
def cd_X11_has_0 : List En := [(0, .aload_n 0, 1, 1, 0), (1, .getfield 171, 3, 4, 0), (4, .iload_n 1, 1, 5, 0), (5, .iaload, 1, 6, 0), (6, .istore_n 2, 1, 7, 0), (7, .iconst 0, 1, 8, 0), (8, .istore_n 3, 1, 9, 0), (9, .iload_n 3, 1, 10, 0), (10, .aload_n 0, 1, 11, 0), (11, .getfield 390, 3, 14, 0), (14, .if_icmp .ge 32, 3, 17, 46), (17, .iload_n 2, 1, 18, 0), (18, .aload_n 0, 1, 19, 0), (19, .getfield 159, 3, 22, 0), (22, .iload_n 3, 1, 23, 0), (23, .iaload, 1, 24, 0), (24, .iload_n 1, 1, 25, 0), (25, .if_icmp .ne 12, 3, 28, 37), (28, .aload_n 0, 1, 29, 0), (29, .getfield 165, 3, 32, 0), (32, .iload_n 3, 1, 33, 0), (33, .iaload, 1, 34, 0), (34, .goto 4, 3, 37, 38), (37, .iconst 0, 1, 38, 0), (38, .iadd, 1, 39, 0), (39, .istore_n 2, 1, 40, 0), (40, .iinc 3 1, 3, 43, 0), (43, .goto (-34), 3, 46, 9), (46, .iload_n 2, 1, 47, 0), (47, .ireturn, 1, 48, 0)]
theorem E_X11_has_0 {e : En} (i : Nat) (h : nthq cd_X11_has_0 i = some e) : dok prog_13_method_79_code e := dok_at (by decide +kernel) i h
def cd_X11_gives_0 : List En := [(0, .iconst 0, 1, 1, 0), (1, .istore_n 2, 1, 2, 0), (2, .iconst 0, 1, 3, 0), (3, .istore_n 3, 1, 4, 0), (4, .iload_n 3, 1, 5, 0), (5, .aload_n 0, 1, 6, 0), (6, .getfield 390, 3, 9, 0), (9, .if_icmp .ge 32, 3, 12, 41), (12, .iload_n 2, 1, 13, 0), (13, .aload_n 0, 1, 14, 0), (14, .getfield 156, 3, 17, 0), (17, .iload_n 3, 1, 18, 0), (18, .iaload, 1, 19, 0), (19, .iload_n 1, 1, 20, 0), (20, .if_icmp .ne 12, 3, 23, 32), (23, .aload_n 0, 1, 24, 0), (24, .getfield 165, 3, 27, 0), (27, .iload_n 3, 1, 28, 0), (28, .iaload, 1, 29, 0), (29, .goto 4, 3, 32, 33), (32, .iconst 0, 1, 33, 0), (33, .iadd, 1, 34, 0), (34, .istore_n 2, 1, 35, 0), (35, .iinc 3 1, 3, 38, 0), (38, .goto (-34), 3, 41, 4), (41, .iload_n 2, 1, 42, 0), (42, .ireturn, 1, 43, 0)]
theorem E_X11_gives_0 {e : En} (i : Nat) (h : nthq cd_X11_gives_0 i = some e) : dok prog_13_method_80_code e := dok_at (by decide +kernel) i h
def cd_X11_goRounds_0 : List En := [(0, .iconst 0, 1, 1, 0), (1, .istore_n 1, 1, 2, 0), (2, .iload_n 1, 1, 3, 0), (3, .aload_n 0, 1, 4, 0), (4, .getfield 390, 3, 7, 0), (7, .if_icmp .ge 21, 3, 10, 28), (10, .aload_n 0, 1, 11, 0), (11, .getfield 165, 3, 14, 0), (14, .iload_n 1, 1, 15, 0), (15, .aload_n 0, 1, 16, 0), (16, .getfield 162, 3, 19, 0), (19, .iload_n 1, 1, 20, 0), (20, .iaload, 1, 21, 0), (21, .iastore, 1, 22, 0), (22, .iinc 1 1, 3, 25, 0), (25, .goto (-23), 3, 28, 2), (28, .aload_n 0, 1, 29, 0), (29, .iconst 0, 1, 30, 0), (30, .putfield 438, 3, 33, 0), (33, .iconst 1, 1, 34, 0), (34, .istore_n 1, 1, 35, 0), (35, .iconst 0, 1, 36, 0), (36, .istore_n 2, 1, 37, 0), (37, .iload_n 2, 1, 38, 0), (38, .bipush 50, 2, 40, 0), (40, .if_icmp .ge 159, 3, 43, 199), (43, .iload_n 1, 1, 44, 0), (44, .ifCond .eq 155, 3, 47, 199), (47, .iconst 0, 1, 48, 0), (48, .istore_n 1, 1, 49, 0), (49, .iconst 0, 1, 50, 0), (50, .istore_n 3, 1, 51, 0), (51, .iload_n 3, 1, 52, 0), (52, .aload_n 0, 1, 53, 0), (53, .getfield 390, 3, 56, 0), (56, .if_icmp .ge 71, 3, 59, 127), (59, .aload_n 0, 1, 60, 0), (60, .aload_n 0, 1, 61, 0), (61, .getfield 156, 3, 64, 0), (64, .iload_n 3, 1, 65, 0), (65, .iaload, 1, 66, 0), (66, .invokevirtual 441, 3, 69, 0), (69, .istore 4, 2, 71, 0), (71, .aload_n 0, 1, 72, 0), (72, .aload_n 0, 1, 73, 0), (73, .getfield 156, 3, 76, 0), (76, .iload_n 3, 1, 77, 0), (77, .iaload, 1, 78, 0), (78, .invokevirtual 444, 3, 81, 0), (81, .istore 5, 2, 83, 0), (83, .aload_n 0, 1, 84, 0), (84, .getfield 168, 3, 87, 0), (87, .iload_n 3, 1, 88, 0), (88, .iload 5, 2, 90, 0), (90, .iload 4, 2, 92, 0), (92, .if_icmp .ge 22, 3, 95, 114), (95, .aload_n 0, 1, 96, 0), (96, .getfield 162, 3, 99, 0), (99, .iload_n 3, 1, 100, 0), (100, .iaload, 1, 101, 0)]
def cd_X11_goRounds_1 : List En := [(101, .i2l, 1, 102, 0), (102, .iload 5, 2, 104, 0), (104, .i2l, 1, 105, 0), (105, .lmul, 1, 106, 0), (106, .iload 4, 2, 108, 0), (108, .i2l, 1, 109, 0), (109, .ldiv, 1, 110, 0), (110, .l2i, 1, 111, 0), (111, .goto 9, 3, 114, 120), (114, .aload_n 0, 1, 115, 0), (115, .getfield 162, 3, 118, 0), (118, .iload_n 3, 1, 119, 0), (119, .iaload, 1, 120, 0), (120, .iastore, 1, 121, 0), (121, .iinc 3 1, 3, 124, 0), (124, .goto (-73), 3, 127, 51), (127, .iconst 0, 1, 128, 0), (128, .istore_n 3, 1, 129, 0), (129, .iload_n 3, 1, 130, 0), (130, .aload_n 0, 1, 131, 0), (131, .getfield 390, 3, 134, 0), (134, .if_icmp .ge 46, 3, 137, 180), (137, .iload_n 1, 1, 138, 0), (138, .ifCond .ne 18, 3, 141, 156), (141, .aload_n 0, 1, 142, 0), (142, .getfield 168, 3, 145, 0), (145, .iload_n 3, 1, 146, 0), (146, .iaload, 1, 147, 0), (147, .aload_n 0, 1, 148, 0), (148, .getfield 165, 3, 151, 0), (151, .iload_n 3, 1, 152, 0), (152, .iaload, 1, 153, 0), (153, .if_icmp .eq 7, 3, 156, 160), (156, .iconst 1, 1, 157, 0), (157, .goto 4, 3, 160, 161), (160, .iconst 0, 1, 161, 0), (161, .istore_n 1, 1, 162, 0), (162, .aload_n 0, 1, 163, 0), (163, .getfield 165, 3, 166, 0), (166, .iload_n 3, 1, 167, 0), (167, .aload_n 0, 1, 168, 0), (168, .getfield 168, 3, 171, 0), (171, .iload_n 3, 1, 172, 0), (172, .iaload, 1, 173, 0), (173, .iastore, 1, 174, 0), (174, .iinc 3 1, 3, 177, 0), (177, .goto (-48), 3, 180, 129), (180, .aload_n 0, 1, 181, 0), (181, .dup, 1, 182, 0), (182, .getfield 438, 3, 185, 0), (185, .iload_n 1, 1, 186, 0), (186, .invokestatic 307, 3, 189, 0), (189, .iadd, 1, 190, 0), (190, .putfield 438, 3, 193, 0), (193, .iinc 2 1, 3, 196, 0), (196, .goto (-159), 3, 199, 37), (199, .return_, 1, 200, 0)]
theorem E_X11_goRounds_0 {e : En} (i : Nat) (h : nthq cd_X11_goRounds_0 i = some e) : dok prog_13_method_81_code e := dok_at (by decide +kernel) i h
theorem E_X11_goRounds_1 {e : En} (i : Nat) (h : nthq cd_X11_goRounds_1 i = some e) : dok prog_13_method_81_code e := dok_at (by decide +kernel) i h
def cd_X11_fails_0 : List En := [(0, .iload_n 1, 1, 1, 0), (1, .iconst (-1), 1, 2, 0), (2, .if_icmp .eq 14, 3, 5, 16), (5, .iload_n 1, 1, 6, 0), (6, .invokestatic 213, 3, 9, 0), (9, .ifCond .ne 7, 3, 12, 16), (12, .sipush (-1001), 3, 15, 0), (15, .ireturn, 1, 16, 0), (16, .iload_n 1, 1, 17, 0), (17, .iconst (-1), 1, 18, 0), (18, .if_icmp .ne 20, 3, 21, 38), (21, .iload_n 2, 1, 22, 0), (22, .i2l, 1, 23, 0), (23, .ldc2_w 430, 3, 26, 0), (26, .ldc2_w 201, 3, 29, 0), (29, .invokestatic 197, 3, 32, 0), (32, .ifCond .ne 22, 3, 35, 54), (35, .goto 15, 3, 38, 50), (38, .iload_n 2, 1, 39, 0), (39, .i2l, 1, 40, 0), (40, .lconst 0, 1, 41, 0), (41, .ldc2_w 220, 3, 44, 0), (44, .invokestatic 197, 3, 47, 0), (47, .ifCond .ne 7, 3, 50, 54), (50, .sipush (-1002), 3, 53, 0), (53, .ireturn, 1, 54, 0), (54, .aload_n 0, 1, 55, 0), (55, .invokevirtual 447, 3, 58, 0), (58, .iconst 0, 1, 59, 0), (59, .istore_n 3, 1, 60, 0), (60, .iconst 0, 1, 61, 0), (61, .istore 4, 2, 63, 0), (63, .iload 4, 2, 65, 0), (65, .bipush 8, 2, 67, 0), (67, .if_icmp .ge 35, 3, 70, 102), (70, .iload_n 3, 1, 71, 0), (71, .aload_n 0, 1, 72, 0), (72, .iload 4, 2, 74, 0), (74, .invokevirtual 444, 3, 77, 0), (77, .aload_n 0, 1, 78, 0), (78, .iload 4, 2, 80, 0), (80, .invokevirtual 441, 3, 83, 0), (83, .if_icmp .ge 7, 3, 86, 90), (86, .iconst 1, 1, 87, 0), (87, .goto 4, 3, 90, 91), (90, .iconst 0, 1, 91, 0), (91, .invokestatic 307, 3, 94, 0), (94, .iadd, 1, 95, 0), (95, .istore_n 3, 1, 96, 0), (96, .iinc 4 1, 3, 99, 0), (99, .goto (-36), 3, 102, 63), (102, .iload_n 2, 1, 103, 0), (103, .tableswitch 78 0 4 #[33, 55, 61, 67, 73], 33, 136, 0), (136, .aload_n 0, 1, 137, 0), (137, .iload_n 1, 1, 138, 0), (138, .invokevirtual 444, 3, 141, 0), (141, .aload_n 0, 1, 142, 0), (142, .iload_n 1, 1, 143, 0), (143, .invokevirtual 441, 3, 146, 0), (146, .if_icmp .ge 7, 3, 149, 153)]
def cd_X11_fails_1 : List En := [(149, .iconst 1, 1, 150, 0), (150, .goto 4, 3, 153, 154), (153, .iconst 0, 1, 154, 0), (154, .invokestatic 307, 3, 157, 0), (157, .ireturn, 1, 158, 0), (158, .aload_n 0, 1, 159, 0), (159, .iload_n 1, 1, 160, 0), (160, .invokevirtual 444, 3, 163, 0), (163, .ireturn, 1, 164, 0), (164, .aload_n 0, 1, 165, 0), (165, .iload_n 1, 1, 166, 0), (166, .invokevirtual 450, 3, 169, 0), (169, .ireturn, 1, 170, 0), (170, .aload_n 0, 1, 171, 0), (171, .iload_n 1, 1, 172, 0), (172, .invokevirtual 441, 3, 175, 0), (175, .ireturn, 1, 176, 0), (176, .aload_n 0, 1, 177, 0), (177, .getfield 438, 3, 180, 0), (180, .ireturn, 1, 181, 0), (181, .iload_n 3, 1, 182, 0), (182, .ireturn, 1, 183, 0)]
theorem E_X11_fails_0 {e : En} (i : Nat) (h : nthq cd_X11_fails_0 i = some e) : dok prog_13_method_82_code e := dok_at (by decide +kernel) i h
theorem E_X11_fails_1 {e : En} (i : Nat) (h : nthq cd_X11_fails_1 i = some e) : dok prog_13_method_82_code e := dok_at (by decide +kernel) i h
def cd_X11_part_0 : List En := [(0, .iload_n 1, 1, 1, 0), (1, .i2l, 1, 2, 0), (2, .lconst 0, 1, 3, 0), (3, .ldc2_w 220, 3, 6, 0), (6, .invokestatic 197, 3, 9, 0), (9, .ifCond .eq 20, 3, 12, 29), (12, .iload_n 2, 1, 13, 0), (13, .i2l, 1, 14, 0), (14, .lconst 0, 1, 15, 0), (15, .ldc2_w 220, 3, 18, 0), (18, .invokestatic 197, 3, 21, 0), (21, .ifCond .eq 8, 3, 24, 29), (24, .iload_n 1, 1, 25, 0), (25, .iload_n 2, 1, 26, 0), (26, .if_icmp .ne 7, 3, 29, 33), (29, .sipush (-1002), 3, 32, 0), (32, .ireturn, 1, 33, 0), (33, .aload_n 0, 1, 34, 0), (34, .getfield 174, 3, 37, 0), (37, .iconst 4, 1, 38, 0), (38, .iload_n 1, 1, 39, 0), (39, .imul, 1, 40, 0), (40, .iload_n 2, 1, 41, 0), (41, .iadd, 1, 42, 0), (42, .baload, 1, 43, 0), (43, .invokestatic 307, 3, 46, 0), (46, .istore 4, 2, 48, 0), (48, .aload_n 0, 1, 49, 0), (49, .getfield 174, 3, 52, 0), (52, .iconst 4, 1, 53, 0), (53, .iload_n 1, 1, 54, 0), (54, .imul, 1, 55, 0), (55, .iload_n 2, 1, 56, 0), (56, .iadd, 1, 57, 0), (57, .iload_n 3, 1, 58, 0), (58, .bastore, 1, 59, 0), (59, .aload_n 0, 1, 60, 0), (60, .getfield 174, 3, 63, 0), (63, .iconst 4, 1, 64, 0), (64, .iload_n 2, 1, 65, 0), (65, .imul, 1, 66, 0), (66, .iload_n 1, 1, 67, 0), (67, .iadd, 1, 68, 0), (68, .iload_n 3, 1, 69, 0), (69, .bastore, 1, 70, 0), (70, .iload 4, 2, 72, 0), (72, .ireturn, 1, 73, 0)]
theorem E_X11_part_0 {e : En} (i : Nat) (h : nthq cd_X11_part_0 i = some e) : dok prog_13_method_83_code e := dok_at (by decide +kernel) i h
def cd_X11_mayLie_0 : List En := [(0, .aload_n 0, 1, 1, 0), (1, .getfield 186, 3, 4, 0), (4, .iload_n 2, 1, 5, 0), (5, .iaload, 1, 6, 0), (6, .aload_n 0, 1, 7, 0), (7, .iload_n 1, 1, 8, 0), (8, .invokevirtual 348, 3, 11, 0), (11, .iadd, 1, 12, 0), (12, .aload_n 0, 1, 13, 0), (13, .getfield 28, 3, 16, 0), (16, .iload_n 2, 1, 17, 0), (17, .iaload, 1, 18, 0), (18, .if_icmp .gt 7, 3, 21, 25), (21, .iconst 1, 1, 22, 0), (22, .goto 4, 3, 25, 26), (25, .iconst 0, 1, 26, 0), (26, .istore_n 3, 1, 27, 0), (27, .iconst 0, 1, 28, 0), (28, .istore 4, 2, 30, 0), (30, .iload 4, 2, 32, 0), (32, .iconst 4, 1, 33, 0), (33, .if_icmp .ge 52, 3, 36, 85), (36, .iload_n 3, 1, 37, 0), (37, .ifCond .eq 40, 3, 40, 77), (40, .aload_n 0, 1, 41, 0), (41, .getfield 189, 3, 44, 0), (44, .iconst 4, 1, 45, 0), (45, .iload_n 2, 1, 46, 0), (46, .imul, 1, 47, 0), (47, .iload 4, 2, 49, 0), (49, .iadd, 1, 50, 0), (50, .iaload, 1, 51, 0), (51, .ifCond .eq 22, 3, 54, 73), (54, .aload_n 0, 1, 55, 0), (55, .getfield 174, 3, 58, 0), (58, .iconst 4, 1, 59, 0), (59, .aload_n 0, 1, 60, 0), (60, .getfield 7, 3, 63, 0), (63, .iload_n 1, 1, 64, 0), (64, .iaload, 1, 65, 0), (65, .imul, 1, 66, 0), (66, .iload 4, 2, 68, 0), (68, .iadd, 1, 69, 0), (69, .baload, 1, 70, 0), (70, .ifCond .ne 7, 3, 73, 77), (73, .iconst 1, 1, 74, 0), (74, .goto 4, 3, 77, 78), (77, .iconst 0, 1, 78, 0), (78, .istore_n 3, 1, 79, 0), (79, .iinc 4 1, 3, 82, 0), (82, .goto (-52), 3, 85, 30), (85, .iload_n 3, 1, 86, 0), (86, .ireturn, 1, 87, 0)]
theorem E_X11_mayLie_0 {e : En} (i : Nat) (h : nthq cd_X11_mayLie_0 i = some e) : dok prog_13_method_84_code e := dok_at (by decide +kernel) i h
def cd_X11_put_0 : List En := [(0, .aload_n 0, 1, 1, 0), (1, .getfield 186, 3, 4, 0), (4, .iload_n 2, 1, 5, 0), (5, .dup2, 1, 6, 0), (6, .iaload, 1, 7, 0), (7, .iload_n 3, 1, 8, 0), (8, .aload_n 0, 1, 9, 0), (9, .iload_n 1, 1, 10, 0), (10, .invokevirtual 348, 3, 13, 0), (13, .imul, 1, 14, 0), (14, .iadd, 1, 15, 0), (15, .iastore, 1, 16, 0), (16, .aload_n 0, 1, 17, 0), (17, .getfield 189, 3, 20, 0), (20, .iconst 4, 1, 21, 0), (21, .iload_n 2, 1, 22, 0), (22, .imul, 1, 23, 0), (23, .aload_n 0, 1, 24, 0), (24, .getfield 7, 3, 27, 0), (27, .iload_n 1, 1, 28, 0), (28, .iaload, 1, 29, 0), (29, .iadd, 1, 30, 0), (30, .dup2, 1, 31, 0), (31, .iaload, 1, 32, 0), (32, .iload_n 3, 1, 33, 0), (33, .iadd, 1, 34, 0), (34, .iastore, 1, 35, 0), (35, .return_, 1, 36, 0)]
theorem E_X11_put_0 {e : En} (i : Nat) (h : nthq cd_X11_put_0 i = some e) : dok prog_13_method_85_code e := dok_at (by decide +kernel) i h
def cd_X11_layAll_0 : List En := [(0, .iconst (-1), 1, 1, 0), (1, .istore_n 1, 1, 2, 0), (2, .iconst 0, 1, 3, 0), (3, .istore_n 2, 1, 4, 0), (4, .aload_n 0, 1, 5, 0), (5, .getfield 177, 3, 8, 0), (8, .iconst 0, 1, 9, 0), (9, .iconst (-1), 1, 10, 0), (10, .iastore, 1, 11, 0), (11, .aload_n 0, 1, 12, 0), (12, .getfield 192, 3, 15, 0), (15, .iconst 0, 1, 16, 0), (16, .iconst 0, 1, 17, 0), (17, .iastore, 1, 18, 0), (18, .iload_n 2, 1, 19, 0), (19, .ifCond .lt 263, 3, 22, 282), (22, .iload_n 2, 1, 23, 0), (23, .aload_n 0, 1, 24, 0), (24, .getfield 453, 3, 27, 0), (27, .if_icmp .ge 12, 3, 30, 39), (30, .aload_n 0, 1, 31, 0), (31, .getfield 183, 3, 34, 0), (34, .iload_n 2, 1, 35, 0), (35, .iaload, 1, 36, 0), (36, .goto 4, 3, 39, 40), (39, .iconst (-1), 1, 40, 0), (40, .istore_n 3, 1, 41, 0), (41, .iload_n 2, 1, 42, 0), (42, .aload_n 0, 1, 43, 0), (43, .getfield 453, 3, 46, 0), (46, .if_icmp .ne 62, 3, 49, 108), (49, .iload_n 1, 1, 50, 0), (50, .ifCond .lt 13, 3, 53, 63), (53, .aload_n 0, 1, 54, 0), (54, .getfield 192, 3, 57, 0), (57, .iload_n 2, 1, 58, 0), (58, .iaload, 1, 59, 0), (59, .iload_n 1, 1, 60, 0), (60, .if_icmp .ge 42, 3, 63, 102), (63, .aload_n 0, 1, 64, 0), (64, .getfield 192, 3, 67, 0), (67, .iload_n 2, 1, 68, 0), (68, .iaload, 1, 69, 0), (69, .istore_n 1, 1, 70, 0), (70, .iconst 0, 1, 71, 0), (71, .istore 4, 2, 73, 0), (73, .iload 4, 2, 75, 0), (75, .aload_n 0, 1, 76, 0), (76, .getfield 453, 3, 79, 0), (79, .if_icmp .ge 23, 3, 82, 102), (82, .aload_n 0, 1, 83, 0), (83, .getfield 180, 3, 86, 0), (86, .iload 4, 2, 88, 0), (88, .aload_n 0, 1, 89, 0), (89, .getfield 177, 3, 92, 0), (92, .iload 4, 2, 94, 0), (94, .iaload, 1, 95, 0), (95, .iastore, 1, 96, 0), (96, .iinc 4 1, 3, 99, 0), (99, .goto (-26), 3, 102, 73)]
def cd_X11_layAll_1 : List En := [(102, .iinc 2 (-1), 3, 105, 0), (105, .goto 174, 3, 108, 279), (108, .aload_n 0, 1, 109, 0), (109, .getfield 177, 3, 112, 0), (112, .iload_n 2, 1, 113, 0), (113, .iaload, 1, 114, 0), (114, .ifCond .lt 15, 3, 117, 129), (117, .aload_n 0, 1, 118, 0), (118, .iload_n 3, 1, 119, 0), (119, .aload_n 0, 1, 120, 0), (120, .getfield 177, 3, 123, 0), (123, .iload_n 2, 1, 124, 0), (124, .iaload, 1, 125, 0), (125, .iconst (-1), 1, 126, 0), (126, .invokevirtual 456, 3, 129, 0), (129, .aload_n 0, 1, 130, 0), (130, .getfield 177, 3, 133, 0), (133, .iload_n 2, 1, 134, 0), (134, .iaload, 1, 135, 0), (135, .iconst 1, 1, 136, 0), (136, .iadd, 1, 137, 0), (137, .istore 4, 2, 139, 0), (139, .iload 4, 2, 141, 0), (141, .bipush 6, 2, 143, 0), (143, .if_icmp .ge 54, 3, 146, 197), (146, .aload_n 0, 1, 147, 0), (147, .iload_n 3, 1, 148, 0), (148, .iload 4, 2, 150, 0), (150, .invokevirtual 460, 3, 153, 0), (153, .ifCond .eq 38, 3, 156, 191), (156, .iload_n 1, 1, 157, 0), (157, .ifCond .lt 40, 3, 160, 197), (160, .aload_n 0, 1, 161, 0), (161, .getfield 192, 3, 164, 0), (164, .iload_n 2, 1, 165, 0), (165, .iaload, 1, 166, 0), (166, .iload 4, 2, 168, 0), (168, .aload_n 0, 1, 169, 0), (169, .getfield 22, 3, 172, 0), (172, .iload_n 3, 1, 173, 0), (173, .iaload, 1, 174, 0), (174, .if_icmp .ne 7, 3, 177, 181), (177, .iconst 0, 1, 178, 0), (178, .goto 8, 3, 181, 186), (181, .aload_n 0, 1, 182, 0), (182, .iload_n 3, 1, 183, 0), (183, .invokevirtual 348, 3, 186, 0), (186, .iadd, 1, 187, 0), (187, .iload_n 1, 1, 188, 0), (188, .if_icmp .lt 9, 3, 191, 197), (191, .iinc 4 1, 3, 194, 0), (194, .goto (-55), 3, 197, 139), (197, .iload 4, 2, 199, 0), (199, .bipush 6, 2, 201, 0), (201, .if_icmp .ne 9, 3, 204, 210), (204, .iinc 2 (-1), 3, 207, 0), (207, .goto 72, 3, 210, 279), (210, .aload_n 0, 1, 211, 0), (211, .getfield 177, 3, 214, 0), (214, .iload_n 2, 1, 215, 0)]
def cd_X11_layAll_2 : List En := [(215, .iload 4, 2, 217, 0), (217, .iastore, 1, 218, 0), (218, .aload_n 0, 1, 219, 0), (219, .iload_n 3, 1, 220, 0), (220, .iload 4, 2, 222, 0), (222, .iconst 1, 1, 223, 0), (223, .invokevirtual 456, 3, 226, 0), (226, .aload_n 0, 1, 227, 0), (227, .getfield 192, 3, 230, 0), (230, .iload_n 2, 1, 231, 0), (231, .iconst 1, 1, 232, 0), (232, .iadd, 1, 233, 0), (233, .aload_n 0, 1, 234, 0), (234, .getfield 192, 3, 237, 0), (237, .iload_n 2, 1, 238, 0), (238, .iaload, 1, 239, 0), (239, .iload 4, 2, 241, 0), (241, .aload_n 0, 1, 242, 0), (242, .getfield 22, 3, 245, 0), (245, .iload_n 3, 1, 246, 0), (246, .iaload, 1, 247, 0), (247, .if_icmp .ne 7, 3, 250, 254), (250, .iconst 0, 1, 251, 0), (251, .goto 8, 3, 254, 259), (254, .aload_n 0, 1, 255, 0), (255, .iload_n 3, 1, 256, 0), (256, .invokevirtual 348, 3, 259, 0), (259, .iadd, 1, 260, 0), (260, .iastore, 1, 261, 0), (261, .iinc 2 1, 3, 264, 0), (264, .iload_n 2, 1, 265, 0), (265, .aload_n 0, 1, 266, 0), (266, .getfield 453, 3, 269, 0), (269, .if_icmp .ge 10, 3, 272, 279), (272, .aload_n 0, 1, 273, 0), (273, .getfield 177, 3, 276, 0), (276, .iload_n 2, 1, 277, 0), (277, .iconst (-1), 1, 278, 0), (278, .iastore, 1, 279, 0), (279, .goto (-261), 3, 282, 18), (282, .iload_n 1, 1, 283, 0), (283, .ireturn, 1, 284, 0)]
theorem E_X11_layAll_0 {e : En} (i : Nat) (h : nthq cd_X11_layAll_0 i = some e) : dok prog_13_method_86_code e := dok_at (by decide +kernel) i h
theorem E_X11_layAll_1 {e : En} (i : Nat) (h : nthq cd_X11_layAll_1 i = some e) : dok prog_13_method_86_code e := dok_at (by decide +kernel) i h
theorem E_X11_layAll_2 {e : En} (i : Nat) (h : nthq cd_X11_layAll_2 i = some e) : dok prog_13_method_86_code e := dok_at (by decide +kernel) i h
def cd_X11_plan_0 : List En := [(0, .iload_n 1, 1, 1, 0), (1, .ifCond .lt 25, 3, 4, 26), (4, .iload_n 1, 1, 5, 0), (5, .aload_n 0, 1, 6, 0), (6, .getfield 208, 3, 9, 0), (9, .ishr, 1, 10, 0), (10, .ifCond .ne 16, 3, 13, 26), (13, .iload_n 2, 1, 14, 0), (14, .iconst (-1), 1, 15, 0), (15, .if_icmp .eq 15, 3, 18, 30), (18, .aload_n 0, 1, 19, 0), (19, .iload_n 2, 1, 20, 0), (20, .invokevirtual 224, 3, 23, 0), (23, .ifCond .eq 7, 3, 26, 30), (26, .sipush (-1001), 3, 29, 0), (29, .ireturn, 1, 30, 0), (30, .aload_n 0, 1, 31, 0), (31, .aload_n 0, 1, 32, 0), (32, .getfield 205, 3, 35, 0), (35, .aload_n 0, 1, 36, 0), (36, .getfield 205, 3, 39, 0), (39, .invokevirtual 378, 3, 42, 0), (42, .aload_n 0, 1, 43, 0), (43, .iconst 0, 1, 44, 0), (44, .putfield 453, 3, 47, 0), (47, .iconst 0, 1, 48, 0), (48, .istore_n 3, 1, 49, 0), (49, .iconst 0, 1, 50, 0), (50, .istore 4, 2, 52, 0), (52, .iload 4, 2, 54, 0), (54, .aload_n 0, 1, 55, 0), (55, .getfield 208, 3, 58, 0), (58, .if_icmp .ge 18, 3, 61, 76), (61, .iload_n 3, 1, 62, 0), (62, .iload_n 1, 1, 63, 0), (63, .iload 4, 2, 65, 0), (65, .ishr, 1, 66, 0), (66, .iconst 1, 1, 67, 0), (67, .iand, 1, 68, 0), (68, .iadd, 1, 69, 0), (69, .istore_n 3, 1, 70, 0), (70, .iinc 4 1, 3, 73, 0), (73, .goto (-21), 3, 76, 52), (76, .iload_n 3, 1, 77, 0), (77, .bipush 8, 2, 79, 0), (79, .if_icmp .le 7, 3, 82, 86), (82, .sipush (-1002), 3, 85, 0), (85, .ireturn, 1, 86, 0), (86, .iconst 0, 1, 87, 0), (87, .istore 4, 2, 89, 0), (89, .iload 4, 2, 91, 0), (91, .bipush 6, 2, 93, 0), (93, .if_icmp .ge 17, 3, 96, 110), (96, .aload_n 0, 1, 97, 0), (97, .getfield 186, 3, 100, 0), (100, .iload 4, 2, 102, 0), (102, .iconst 0, 1, 103, 0), (103, .iastore, 1, 104, 0), (104, .iinc 4 1, 3, 107, 0), (107, .goto (-18), 3, 110, 89)]
def cd_X11_plan_1 : List En := [(110, .iconst 0, 1, 111, 0), (111, .istore 4, 2, 113, 0), (113, .iload 4, 2, 115, 0), (115, .bipush 24, 2, 117, 0), (117, .if_icmp .ge 17, 3, 120, 134), (120, .aload_n 0, 1, 121, 0), (121, .getfield 189, 3, 124, 0), (124, .iload 4, 2, 126, 0), (126, .iconst 0, 1, 127, 0), (127, .iastore, 1, 128, 0), (128, .iinc 4 1, 3, 131, 0), (131, .goto (-18), 3, 134, 113), (134, .iconst 0, 1, 135, 0), (135, .istore 4, 2, 137, 0), (137, .iload 4, 2, 139, 0), (139, .aload_n 0, 1, 140, 0), (140, .getfield 208, 3, 143, 0), (143, .if_icmp .ge 57, 3, 146, 200), (146, .iload_n 1, 1, 147, 0), (147, .iload 4, 2, 149, 0), (149, .ishr, 1, 150, 0), (150, .iconst 1, 1, 151, 0), (151, .iand, 1, 152, 0), (152, .iconst 1, 1, 153, 0), (153, .if_icmp .ne 27, 3, 156, 180), (156, .aload_n 0, 1, 157, 0), (157, .getfield 183, 3, 160, 0), (160, .aload_n 0, 1, 161, 0), (161, .getfield 453, 3, 164, 0), (164, .iload 4, 2, 166, 0), (166, .iastore, 1, 167, 0), (167, .aload_n 0, 1, 168, 0), (168, .dup, 1, 169, 0), (169, .getfield 453, 3, 172, 0), (172, .iconst 1, 1, 173, 0), (173, .iadd, 1, 174, 0), (174, .putfield 453, 3, 177, 0), (177, .goto 17, 3, 180, 194), (180, .aload_n 0, 1, 181, 0), (181, .iload 4, 2, 183, 0), (183, .aload_n 0, 1, 184, 0), (184, .getfield 22, 3, 187, 0), (187, .iload 4, 2, 189, 0), (189, .iaload, 1, 190, 0), (190, .iconst 1, 1, 191, 0), (191, .invokevirtual 456, 3, 194, 0), (194, .iinc 4 1, 3, 197, 0), (197, .goto (-60), 3, 200, 137), (200, .aload_n 0, 1, 201, 0), (201, .invokevirtual 463, 3, 204, 0), (204, .istore 4, 2, 206, 0), (206, .iload 4, 2, 208, 0), (208, .ifCond .ge 7, 3, 211, 215), (211, .sipush (-1003), 3, 214, 0), (214, .ireturn, 1, 215, 0), (215, .iconst (-1), 1, 216, 0), (216, .istore 5, 2, 218, 0), (218, .iconst 0, 1, 219, 0), (219, .istore 6, 2, 221, 0), (221, .iload 6, 2, 223, 0)]
def cd_X11_plan_2 : List En := [(223, .aload_n 0, 1, 224, 0), (224, .getfield 453, 3, 227, 0), (227, .if_icmp .ge 34, 3, 230, 261), (230, .aload_n 0, 1, 231, 0), (231, .getfield 183, 3, 234, 0), (234, .iload 6, 2, 236, 0), (236, .iaload, 1, 237, 0), (237, .iload_n 2, 1, 238, 0), (238, .if_icmp .ne 13, 3, 241, 251), (241, .aload_n 0, 1, 242, 0), (242, .getfield 180, 3, 245, 0), (245, .iload 6, 2, 247, 0), (247, .iaload, 1, 248, 0), (248, .goto 5, 3, 251, 253), (251, .iload 5, 2, 253, 0), (253, .istore 5, 2, 255, 0), (255, .iinc 6 1, 3, 258, 0), (258, .goto (-37), 3, 261, 221), (261, .iload_n 2, 1, 262, 0), (262, .iconst (-1), 1, 263, 0), (263, .if_icmp .ne 8, 3, 266, 271), (266, .iload 4, 2, 268, 0), (268, .goto 5, 3, 271, 273), (271, .iload 5, 2, 273, 0), (273, .ireturn, 1, 274, 0)]
theorem E_X11_plan_0 {e : En} (i : Nat) (h : nthq cd_X11_plan_0 i = some e) : dok prog_13_method_87_code e := dok_at (by decide +kernel) i h
theorem E_X11_plan_1 {e : En} (i : Nat) (h : nthq cd_X11_plan_1 i = some e) : dok prog_13_method_87_code e := dok_at (by decide +kernel) i h
theorem E_X11_plan_2 {e : En} (i : Nat) (h : nthq cd_X11_plan_2 i = some e) : dok prog_13_method_87_code e := dok_at (by decide +kernel) i h
def cd_J6_bitCount_0f7a4_0 : List En := [(0, .iload_n 0, 1, 1, 0), (1, .iload_n 0, 1, 2, 0), (2, .iconst 1, 1, 3, 0), (3, .iushr, 1, 4, 0), (4, .ldc_w 265, 3, 7, 0), (7, .iand, 1, 8, 0), (8, .isub, 1, 9, 0), (9, .istore_n 0, 1, 10, 0), (10, .iload_n 0, 1, 11, 0), (11, .ldc_w 266, 3, 14, 0), (14, .iand, 1, 15, 0), (15, .iload_n 0, 1, 16, 0), (16, .iconst 2, 1, 17, 0), (17, .iushr, 1, 18, 0), (18, .ldc_w 266, 3, 21, 0), (21, .iand, 1, 22, 0), (22, .iadd, 1, 23, 0), (23, .istore_n 0, 1, 24, 0), (24, .iload_n 0, 1, 25, 0), (25, .iload_n 0, 1, 26, 0), (26, .iconst 4, 1, 27, 0), (27, .iushr, 1, 28, 0), (28, .iadd, 1, 29, 0), (29, .ldc_w 267, 3, 32, 0), (32, .iand, 1, 33, 0), (33, .istore_n 0, 1, 34, 0), (34, .iload_n 0, 1, 35, 0), (35, .iload_n 0, 1, 36, 0), (36, .bipush 8, 2, 38, 0), (38, .iushr, 1, 39, 0), (39, .iadd, 1, 40, 0), (40, .istore_n 0, 1, 41, 0), (41, .iload_n 0, 1, 42, 0), (42, .iload_n 0, 1, 43, 0), (43, .bipush 16, 2, 45, 0), (45, .iushr, 1, 46, 0), (46, .iadd, 1, 47, 0), (47, .istore_n 0, 1, 48, 0), (48, .iload_n 0, 1, 49, 0), (49, .bipush 63, 2, 51, 0), (51, .iand, 1, 52, 0), (52, .ireturn, 1, 53, 0)]
theorem E_J6_bitCount_0f7a4_0 {e : En} (i : Nat) (h : nthq cd_J6_bitCount_0f7a4_0 i = some e) : dok prog_14_method_49_code e := dok_at (by decide +kernel) i h
def cd_J9_max_7cf53_0 : List En := [(0, .iload_n 0, 1, 1, 0), (1, .iload_n 1, 1, 2, 0), (2, .if_icmp .lt 7, 3, 5, 9), (5, .iload_n 0, 1, 6, 0), (6, .goto 4, 3, 9, 10), (9, .iload_n 1, 1, 10, 0), (10, .ireturn, 1, 11, 0)]
theorem E_J9_max_7cf53_0 {e : En} (i : Nat) (h : nthq cd_J9_max_7cf53_0 i = some e) : dok prog_15_method_65_code e := dok_at (by decide +kernel) i h
def cd_J9_min_7cf53_0 : List En := [(0, .iload_n 0, 1, 1, 0), (1, .iload_n 1, 1, 2, 0), (2, .if_icmp .gt 7, 3, 5, 9), (5, .iload_n 0, 1, 6, 0), (6, .goto 4, 3, 9, 10), (9, .iload_n 1, 1, 10, 0), (10, .ireturn, 1, 11, 0)]
theorem E_J9_min_7cf53_0 {e : En} (i : Nat) (h : nthq cd_J9_min_7cf53_0 i = some e) : dok prog_15_method_69_code e := dok_at (by decide +kernel) i h
def cd_J9_min_f86c9_0 : List En := [(0, .lload_n 0, 1, 1, 0), (1, .lload_n 2, 1, 2, 0), (2, .lcmp, 1, 3, 0), (3, .ifCond .gt 7, 3, 6, 10), (6, .lload_n 0, 1, 7, 0), (7, .goto 4, 3, 10, 11), (10, .lload_n 2, 1, 11, 0), (11, .lreturn, 1, 12, 0)]
theorem E_J9_min_f86c9_0 {e : En} (i : Nat) (h : nthq cd_J9_min_f86c9_0 i = some e) : dok prog_15_method_70_code e := dok_at (by decide +kernel) i h
def cd_J0_length_8abf5_0 : List En := [(0, .aload_n 0, 1, 1, 0), (1, .getfield 9, 3, 4, 0), (4, .arraylength, 1, 5, 0), (5, .aload_n 0, 1, 6, 0), (6, .invokevirtual 335, 3, 9, 0), (9, .ishr, 1, 10, 0), (10, .ireturn, 1, 11, 0)]
theorem E_J0_length_8abf5_0 {e : En} (i : Nat) (h : nthq cd_J0_length_8abf5_0 i = some e) : dok prog_16_method_54_code e := dok_at (by decide +kernel) i h
def cd_J0_charAt_5068e_0 : List En := [(0, .aload_n 0, 1, 1, 0), (1, .invokevirtual 492, 3, 4, 0), (4, .ifCond .eq 12, 3, 7, 16), (7, .aload_n 0, 1, 8, 0), (8, .getfield 9, 3, 11, 0), (11, .iload_n 1, 1, 12, 0), (12, .invokestatic 495, 3, 15, 0), (15, .ireturn, 1, 16, 0), (16, .aload_n 0, 1, 17, 0), (17, .getfield 9, 3, 20, 0), (20, .iload_n 1, 1, 21, 0), (21, .invokestatic 498, 3, 24, 0), (24, .ireturn, 1, 25, 0)]
theorem E_J0_charAt_5068e_0 {e : En} (i : Nat) (h : nthq cd_J0_charAt_5068e_0 i = some e) : dok prog_16_method_56_code e := dok_at (by decide +kernel) i h
def cd_J0_coder_7d493_0 : List En := [(0, .getstatic 38, 3, 3, 0), (3, .ifCond .eq 10, 3, 6, 13), (6, .aload_n 0, 1, 7, 0), (7, .getfield 15, 3, 10, 0), (10, .goto 4, 3, 13, 14), (13, .iconst 1, 1, 14, 0), (14, .ireturn, 1, 15, 0)]
theorem E_J0_coder_7d493_0 {e : En} (i : Nat) (h : nthq cd_J0_coder_7d493_0 i = some e) : dok prog_16_method_152_code e := dok_at (by decide +kernel) i h
def cd_J0_isLatin1_aae02_0 : List En := [(0, .getstatic 38, 3, 3, 0), (3, .ifCond .eq 14, 3, 6, 17), (6, .aload_n 0, 1, 7, 0), (7, .getfield 15, 3, 10, 0), (10, .ifCond .ne 7, 3, 13, 17), (13, .iconst 1, 1, 14, 0), (14, .goto 4, 3, 17, 18), (17, .iconst 0, 1, 18, 0), (18, .ireturn, 1, 19, 0)]
theorem E_J0_isLatin1_aae02_0 {e : En} (i : Nat) (h : nthq cd_J0_isLatin1_aae02_0 i = some e) : dok prog_16_method_154_code e := dok_at (by decide +kernel) i h
def cd_J0_checkIndex_df160_0 : List En := [(0, .iload_n 0, 1, 1, 0), (1, .iload_n 1, 1, 2, 0), (2, .getstatic 1053, 3, 5, 0), (5, .invokestatic 1059, 3, 8, 0), (8, .pop, 1, 9, 0), (9, .return_, 1, 10, 0)]
theorem E_J0_checkIndex_df160_0 {e : En} (i : Nat) (h : nthq cd_J0_checkIndex_df160_0 i = some e) : dok prog_16_method_155_code e := dok_at (by decide +kernel) i h
def cd_J1_charAt_3b067_0 : List En := [(0, .iload_n 1, 1, 1, 0), (1, .aload_n 0, 1, 2, 0), (2, .arraylength, 1, 3, 0), (3, .invokestatic 9, 3, 6, 0), (6, .aload_n 0, 1, 7, 0), (7, .iload_n 1, 1, 8, 0), (8, .baload, 1, 9, 0), (9, .sipush 255, 3, 12, 0), (12, .iand, 1, 13, 0), (13, .i2c, 1, 14, 0), (14, .ireturn, 1, 15, 0)]
theorem E_J1_charAt_3b067_0 {e : En} (i : Nat) (h : nthq cd_J1_charAt_3b067_0 i = some e) : dok prog_17_method_2_code e := dok_at (by decide +kernel) i h
def cd_J2_getChar_3b067_0 : List En := [(0, .getstatic 44, 3, 3, 0), (3, .ifCond .ne 25, 3, 6, 28), (6, .iload_n 1, 1, 7, 0), (7, .ifCond .lt 11, 3, 10, 18), (10, .iload_n 1, 1, 11, 0), (11, .aload_n 0, 1, 12, 0), (12, .invokestatic 48, 3, 15, 0), (15, .if_icmp .lt 13, 3, 18, 28), (18, .new 52, 3, 21, 0), (21, .dup, 1, 22, 0), (22, .ldc 54, 2, 24, 0), (24, .invokespecial 56, 3, 27, 0), (27, .athrow, 1, 28, 0), (28, .iload_n 1, 1, 29, 0), (29, .iconst 1, 1, 30, 0), (30, .ishl, 1, 31, 0), (31, .istore_n 1, 1, 32, 0), (32, .aload_n 0, 1, 33, 0), (33, .iload_n 1, 1, 34, 0), (34, .iinc 1 1, 3, 37, 0), (37, .baload, 1, 38, 0), (38, .sipush 255, 3, 41, 0), (41, .iand, 1, 42, 0), (42, .getstatic 59, 3, 45, 0), (45, .ishl, 1, 46, 0), (46, .aload_n 0, 1, 47, 0), (47, .iload_n 1, 1, 48, 0), (48, .baload, 1, 49, 0), (49, .sipush 255, 3, 52, 0), (52, .iand, 1, 53, 0), (53, .getstatic 63, 3, 56, 0), (56, .ishl, 1, 57, 0), (57, .ior, 1, 58, 0), (58, .i2c, 1, 59, 0), (59, .ireturn, 1, 60, 0)]
theorem E_J2_getChar_3b067_0 {e : En} (i : Nat) (h : nthq cd_J2_getChar_3b067_0 i = some e) : dok prog_18_method_5_code e := dok_at (by decide +kernel) i h
def cd_J2_length_9d52b_0 : List En := [(0, .aload_n 0, 1, 1, 0), (1, .arraylength, 1, 2, 0), (2, .iconst 1, 1, 3, 0), (3, .ishr, 1, 4, 0), (4, .ireturn, 1, 5, 0)]
theorem E_J2_length_9d52b_0 {e : En} (i : Nat) (h : nthq cd_J2_length_9d52b_0 i = some e) : dok prog_18_method_6_code e := dok_at (by decide +kernel) i h
def cd_J2_charAt_3b067_0 : List En := [(0, .iload_n 1, 1, 1, 0), (1, .aload_n 0, 1, 2, 0), (2, .invokestatic 67, 3, 5, 0), (5, .aload_n 0, 1, 6, 0), (6, .iload_n 1, 1, 7, 0), (7, .invokestatic 71, 3, 10, 0), (10, .ireturn, 1, 11, 0)]
theorem E_J2_charAt_3b067_0 {e : En} (i : Nat) (h : nthq cd_J2_charAt_3b067_0 i = some e) : dok prog_18_method_83_code e := dok_at (by decide +kernel) i h
def cd_J2_checkIndex_2214a_0 : List En := [(0, .iload_n 0, 1, 1, 0), (1, .aload_n 1, 1, 2, 0), (2, .invokestatic 48, 3, 5, 0), (5, .invokestatic 414, 3, 8, 0), (8, .return_, 1, 9, 0)]
theorem E_J2_checkIndex_2214a_0 {e : En} (i : Nat) (h : nthq cd_J2_checkIndex_2214a_0 i = some e) : dok prog_18_method_91_code e := dok_at (by decide +kernel) i h
def cd_J3_checkIndex_8e157_0 : List En := [(0, .iload_n 0, 1, 1, 0), (1, .ifCond .lt 8, 3, 4, 9), (4, .iload_n 0, 1, 5, 0), (5, .iload_n 1, 1, 6, 0), (6, .if_icmp .lt 10, 3, 9, 16), (9, .aload_n 2, 1, 10, 0), (10, .iload_n 0, 1, 11, 0), (11, .iload_n 1, 1, 12, 0), (12, .invokestatic 95, 3, 15, 0), (15, .athrow, 1, 16, 0), (16, .iload_n 0, 1, 17, 0), (17, .ireturn, 1, 18, 0)]
theorem E_J3_checkIndex_8e157_0 {e : En} (i : Nat) (h : nthq cd_J3_checkIndex_8e157_0 i = some e) : dok prog_19_method_11_code e := dok_at (by decide +kernel) i h
def cd_L_law_0 : List En := [(0, .new 7, 3, 3, 0), (3, .dup, 1, 4, 0), (4, .invokespecial 9, 3, 7, 0), (7, .astore_n 1, 1, 8, 0), (8, .new 10, 3, 11, 0), (11, .dup, 1, 12, 0), (12, .invokespecial 12, 3, 15, 0), (15, .astore_n 2, 1, 16, 0), (16, .iconst 0, 1, 17, 0), (17, .istore_n 3, 1, 18, 0), (18, .iload_n 3, 1, 19, 0), (19, .aload_n 0, 1, 20, 0), (20, .arraylength, 1, 21, 0), (21, .bipush 7, 2, 23, 0), (23, .isub, 1, 24, 0), (24, .if_icmp .gt 1452, 3, 27, 1476), (27, .aload_n 0, 1, 28, 0), (28, .iload_n 3, 1, 29, 0), (29, .iaload, 1, 30, 0), (30, .bipush 31, 2, 32, 0), (32, .iand, 1, 33, 0), (33, .tableswitch 1437 0 31 #[143, 166, 229, 262, 295, 370, 403, 436, 459, 522, 545, 558, 591, 644, 697, 750, 803, 846, 889, 922, 955, 998, 1031, 1074, 1127, 1180, 1213, 1236, 1279, 1312, 1345, 1404], 143, 176, 0), (176, .aload_n 1, 1, 177, 0), (177, .aload_n 0, 1, 178, 0), (178, .iload_n 3, 1, 179, 0), (179, .iconst 1, 1, 180, 0), (180, .iadd, 1, 181, 0), (181, .iaload, 1, 182, 0), (182, .invokevirtual 13, 3, 185, 0), (185, .aload_n 2, 1, 186, 0), (186, .aload_n 0, 1, 187, 0), (187, .iload_n 3, 1, 188, 0), (188, .iconst 1, 1, 189, 0), (189, .iadd, 1, 190, 0), (190, .iaload, 1, 191, 0), (191, .invokevirtual 17, 3, 194, 0), (194, .if_icmp .eq 1276, 3, 197, 1470), (197, .iconst 0, 1, 198, 0), (198, .ireturn, 1, 199, 0), (199, .aload_n 1, 1, 200, 0), (200, .aload_n 0, 1, 201, 0), (201, .iload_n 3, 1, 202, 0), (202, .iconst 1, 1, 203, 0), (203, .iadd, 1, 204, 0), (204, .iaload, 1, 205, 0), (205, .aload_n 0, 1, 206, 0), (206, .iload_n 3, 1, 207, 0), (207, .iconst 2, 1, 208, 0), (208, .iadd, 1, 209, 0), (209, .iaload, 1, 210, 0), (210, .aload_n 0, 1, 211, 0), (211, .iload_n 3, 1, 212, 0), (212, .iconst 3, 1, 213, 0), (213, .iadd, 1, 214, 0), (214, .iaload, 1, 215, 0), (215, .aload_n 0, 1, 216, 0), (216, .iload_n 3, 1, 217, 0), (217, .iconst 4, 1, 218, 0), (218, .iadd, 1, 219, 0), (219, .iaload, 1, 220, 0)]
def cd_L_law_1 : List En := [(220, .aload_n 0, 1, 221, 0), (221, .iload_n 3, 1, 222, 0), (222, .iconst 5, 1, 223, 0), (223, .iadd, 1, 224, 0), (224, .iaload, 1, 225, 0), (225, .invokevirtual 18, 3, 228, 0), (228, .aload_n 2, 1, 229, 0), (229, .aload_n 0, 1, 230, 0), (230, .iload_n 3, 1, 231, 0), (231, .iconst 1, 1, 232, 0), (232, .iadd, 1, 233, 0), (233, .iaload, 1, 234, 0), (234, .aload_n 0, 1, 235, 0), (235, .iload_n 3, 1, 236, 0), (236, .iconst 2, 1, 237, 0), (237, .iadd, 1, 238, 0), (238, .iaload, 1, 239, 0), (239, .aload_n 0, 1, 240, 0), (240, .iload_n 3, 1, 241, 0), (241, .iconst 3, 1, 242, 0), (242, .iadd, 1, 243, 0), (243, .iaload, 1, 244, 0), (244, .aload_n 0, 1, 245, 0), (245, .iload_n 3, 1, 246, 0), (246, .iconst 4, 1, 247, 0), (247, .iadd, 1, 248, 0), (248, .iaload, 1, 249, 0), (249, .aload_n 0, 1, 250, 0), (250, .iload_n 3, 1, 251, 0), (251, .iconst 5, 1, 252, 0), (252, .iadd, 1, 253, 0), (253, .iaload, 1, 254, 0), (254, .invokevirtual 22, 3, 257, 0), (257, .if_icmp .eq 1213, 3, 260, 1470), (260, .iconst 0, 1, 261, 0), (261, .ireturn, 1, 262, 0), (262, .aload_n 1, 1, 263, 0), (263, .aload_n 0, 1, 264, 0), (264, .iload_n 3, 1, 265, 0), (265, .iconst 1, 1, 266, 0), (266, .iadd, 1, 267, 0), (267, .iaload, 1, 268, 0), (268, .aload_n 0, 1, 269, 0), (269, .iload_n 3, 1, 270, 0), (270, .iconst 2, 1, 271, 0), (271, .iadd, 1, 272, 0), (272, .iaload, 1, 273, 0), (273, .invokevirtual 23, 3, 276, 0), (276, .aload_n 2, 1, 277, 0), (277, .aload_n 0, 1, 278, 0), (278, .iload_n 3, 1, 279, 0), (279, .iconst 1, 1, 280, 0), (280, .iadd, 1, 281, 0), (281, .iaload, 1, 282, 0), (282, .aload_n 0, 1, 283, 0), (283, .iload_n 3, 1, 284, 0), (284, .iconst 2, 1, 285, 0), (285, .iadd, 1, 286, 0), (286, .iaload, 1, 287, 0), (287, .invokevirtual 27, 3, 290, 0)]
def cd_L_law_2 : List En := [(290, .if_icmp .eq 1180, 3, 293, 1470), (293, .iconst 0, 1, 294, 0), (294, .ireturn, 1, 295, 0), (295, .aload_n 1, 1, 296, 0), (296, .aload_n 0, 1, 297, 0), (297, .iload_n 3, 1, 298, 0), (298, .iconst 1, 1, 299, 0), (299, .iadd, 1, 300, 0), (300, .iaload, 1, 301, 0), (301, .aload_n 0, 1, 302, 0), (302, .iload_n 3, 1, 303, 0), (303, .iconst 2, 1, 304, 0), (304, .iadd, 1, 305, 0), (305, .iaload, 1, 306, 0), (306, .invokevirtual 28, 3, 309, 0), (309, .aload_n 2, 1, 310, 0), (310, .aload_n 0, 1, 311, 0), (311, .iload_n 3, 1, 312, 0), (312, .iconst 1, 1, 313, 0), (313, .iadd, 1, 314, 0), (314, .iaload, 1, 315, 0), (315, .aload_n 0, 1, 316, 0), (316, .iload_n 3, 1, 317, 0), (317, .iconst 2, 1, 318, 0), (318, .iadd, 1, 319, 0), (319, .iaload, 1, 320, 0), (320, .invokevirtual 31, 3, 323, 0), (323, .if_icmp .eq 1147, 3, 326, 1470), (326, .iconst 0, 1, 327, 0), (327, .ireturn, 1, 328, 0), (328, .aload_n 1, 1, 329, 0), (329, .aload_n 0, 1, 330, 0), (330, .iload_n 3, 1, 331, 0), (331, .iconst 1, 1, 332, 0), (332, .iadd, 1, 333, 0), (333, .iaload, 1, 334, 0), (334, .aload_n 0, 1, 335, 0), (335, .iload_n 3, 1, 336, 0), (336, .iconst 2, 1, 337, 0), (337, .iadd, 1, 338, 0), (338, .iaload, 1, 339, 0), (339, .aload_n 0, 1, 340, 0), (340, .iload_n 3, 1, 341, 0), (341, .iconst 3, 1, 342, 0), (342, .iadd, 1, 343, 0), (343, .iaload, 1, 344, 0), (344, .aload_n 0, 1, 345, 0), (345, .iload_n 3, 1, 346, 0), (346, .iconst 4, 1, 347, 0), (347, .iadd, 1, 348, 0), (348, .iaload, 1, 349, 0), (349, .aload_n 0, 1, 350, 0), (350, .iload_n 3, 1, 351, 0), (351, .iconst 5, 1, 352, 0), (352, .iadd, 1, 353, 0), (353, .iaload, 1, 354, 0), (354, .aload_n 0, 1, 355, 0), (355, .iload_n 3, 1, 356, 0), (356, .bipush 6, 2, 358, 0), (358, .iadd, 1, 359, 0)]
def cd_L_law_3 : List En := [(359, .iaload, 1, 360, 0), (360, .invokevirtual 32, 3, 363, 0), (363, .aload_n 2, 1, 364, 0), (364, .aload_n 0, 1, 365, 0), (365, .iload_n 3, 1, 366, 0), (366, .iconst 1, 1, 367, 0), (367, .iadd, 1, 368, 0), (368, .iaload, 1, 369, 0), (369, .aload_n 0, 1, 370, 0), (370, .iload_n 3, 1, 371, 0), (371, .iconst 2, 1, 372, 0), (372, .iadd, 1, 373, 0), (373, .iaload, 1, 374, 0), (374, .aload_n 0, 1, 375, 0), (375, .iload_n 3, 1, 376, 0), (376, .iconst 3, 1, 377, 0), (377, .iadd, 1, 378, 0), (378, .iaload, 1, 379, 0), (379, .aload_n 0, 1, 380, 0), (380, .iload_n 3, 1, 381, 0), (381, .iconst 4, 1, 382, 0), (382, .iadd, 1, 383, 0), (383, .iaload, 1, 384, 0), (384, .aload_n 0, 1, 385, 0), (385, .iload_n 3, 1, 386, 0), (386, .iconst 5, 1, 387, 0), (387, .iadd, 1, 388, 0), (388, .iaload, 1, 389, 0), (389, .aload_n 0, 1, 390, 0), (390, .iload_n 3, 1, 391, 0), (391, .bipush 6, 2, 393, 0), (393, .iadd, 1, 394, 0), (394, .iaload, 1, 395, 0), (395, .invokevirtual 36, 3, 398, 0), (398, .if_icmp .eq 1072, 3, 401, 1470), (401, .iconst 0, 1, 402, 0), (402, .ireturn, 1, 403, 0), (403, .aload_n 1, 1, 404, 0), (404, .aload_n 0, 1, 405, 0), (405, .iload_n 3, 1, 406, 0), (406, .iconst 1, 1, 407, 0), (407, .iadd, 1, 408, 0), (408, .iaload, 1, 409, 0), (409, .aload_n 0, 1, 410, 0), (410, .iload_n 3, 1, 411, 0), (411, .iconst 2, 1, 412, 0), (412, .iadd, 1, 413, 0), (413, .iaload, 1, 414, 0), (414, .invokevirtual 37, 3, 417, 0), (417, .aload_n 2, 1, 418, 0), (418, .aload_n 0, 1, 419, 0), (419, .iload_n 3, 1, 420, 0), (420, .iconst 1, 1, 421, 0), (421, .iadd, 1, 422, 0), (422, .iaload, 1, 423, 0), (423, .aload_n 0, 1, 424, 0), (424, .iload_n 3, 1, 425, 0), (425, .iconst 2, 1, 426, 0), (426, .iadd, 1, 427, 0), (427, .iaload, 1, 428, 0)]
def cd_L_law_4 : List En := [(428, .invokevirtual 40, 3, 431, 0), (431, .if_icmp .eq 1039, 3, 434, 1470), (434, .iconst 0, 1, 435, 0), (435, .ireturn, 1, 436, 0), (436, .aload_n 1, 1, 437, 0), (437, .aload_n 0, 1, 438, 0), (438, .iload_n 3, 1, 439, 0), (439, .iconst 1, 1, 440, 0), (440, .iadd, 1, 441, 0), (441, .iaload, 1, 442, 0), (442, .aload_n 0, 1, 443, 0), (443, .iload_n 3, 1, 444, 0), (444, .iconst 2, 1, 445, 0), (445, .iadd, 1, 446, 0), (446, .iaload, 1, 447, 0), (447, .invokevirtual 41, 3, 450, 0), (450, .aload_n 2, 1, 451, 0), (451, .aload_n 0, 1, 452, 0), (452, .iload_n 3, 1, 453, 0), (453, .iconst 1, 1, 454, 0), (454, .iadd, 1, 455, 0), (455, .iaload, 1, 456, 0), (456, .aload_n 0, 1, 457, 0), (457, .iload_n 3, 1, 458, 0), (458, .iconst 2, 1, 459, 0), (459, .iadd, 1, 460, 0), (460, .iaload, 1, 461, 0), (461, .invokevirtual 44, 3, 464, 0), (464, .if_icmp .eq 1006, 3, 467, 1470), (467, .iconst 0, 1, 468, 0), (468, .ireturn, 1, 469, 0), (469, .aload_n 1, 1, 470, 0), (470, .aload_n 0, 1, 471, 0), (471, .iload_n 3, 1, 472, 0), (472, .iconst 1, 1, 473, 0), (473, .iadd, 1, 474, 0), (474, .iaload, 1, 475, 0), (475, .invokevirtual 45, 3, 478, 0), (478, .aload_n 2, 1, 479, 0), (479, .aload_n 0, 1, 480, 0), (480, .iload_n 3, 1, 481, 0), (481, .iconst 1, 1, 482, 0), (482, .iadd, 1, 483, 0), (483, .iaload, 1, 484, 0), (484, .invokevirtual 48, 3, 487, 0), (487, .if_icmp .eq 983, 3, 490, 1470), (490, .iconst 0, 1, 491, 0), (491, .ireturn, 1, 492, 0), (492, .aload_n 1, 1, 493, 0), (493, .aload_n 0, 1, 494, 0), (494, .iload_n 3, 1, 495, 0), (495, .iconst 1, 1, 496, 0), (496, .iadd, 1, 497, 0), (497, .iaload, 1, 498, 0), (498, .aload_n 0, 1, 499, 0), (499, .iload_n 3, 1, 500, 0), (500, .iconst 2, 1, 501, 0), (501, .iadd, 1, 502, 0), (502, .iaload, 1, 503, 0), (503, .i2l, 1, 504, 0)]
def cd_L_law_5 : List En := [(504, .bipush 32, 2, 506, 0), (506, .lshl, 1, 507, 0), (507, .aload_n 0, 1, 508, 0), (508, .iload_n 3, 1, 509, 0), (509, .iconst 3, 1, 510, 0), (510, .iadd, 1, 511, 0), (511, .iaload, 1, 512, 0), (512, .i2l, 1, 513, 0), (513, .ldc2_w 49, 3, 516, 0), (516, .land, 1, 517, 0), (517, .lor, 1, 518, 0), (518, .invokevirtual 51, 3, 521, 0), (521, .aload_n 2, 1, 522, 0), (522, .aload_n 0, 1, 523, 0), (523, .iload_n 3, 1, 524, 0), (524, .iconst 1, 1, 525, 0), (525, .iadd, 1, 526, 0), (526, .iaload, 1, 527, 0), (527, .aload_n 0, 1, 528, 0), (528, .iload_n 3, 1, 529, 0), (529, .iconst 2, 1, 530, 0), (530, .iadd, 1, 531, 0), (531, .iaload, 1, 532, 0), (532, .i2l, 1, 533, 0), (533, .bipush 32, 2, 535, 0), (535, .lshl, 1, 536, 0), (536, .aload_n 0, 1, 537, 0), (537, .iload_n 3, 1, 538, 0), (538, .iconst 3, 1, 539, 0), (539, .iadd, 1, 540, 0), (540, .iaload, 1, 541, 0), (541, .i2l, 1, 542, 0), (542, .ldc2_w 49, 3, 545, 0), (545, .land, 1, 546, 0), (546, .lor, 1, 547, 0), (547, .invokevirtual 55, 3, 550, 0), (550, .if_icmp .eq 920, 3, 553, 1470), (553, .iconst 0, 1, 554, 0), (554, .ireturn, 1, 555, 0), (555, .aload_n 1, 1, 556, 0), (556, .aload_n 0, 1, 557, 0), (557, .iload_n 3, 1, 558, 0), (558, .iconst 1, 1, 559, 0), (559, .iadd, 1, 560, 0), (560, .iaload, 1, 561, 0), (561, .invokevirtual 56, 3, 564, 0), (564, .aload_n 2, 1, 565, 0), (565, .aload_n 0, 1, 566, 0), (566, .iload_n 3, 1, 567, 0), (567, .iconst 1, 1, 568, 0), (568, .iadd, 1, 569, 0), (569, .iaload, 1, 570, 0), (570, .invokevirtual 59, 3, 573, 0), (573, .if_icmp .eq 897, 3, 576, 1470), (576, .iconst 0, 1, 577, 0), (577, .ireturn, 1, 578, 0), (578, .aload_n 1, 1, 579, 0), (579, .invokevirtual 60, 3, 582, 0), (582, .aload_n 2, 1, 583, 0), (583, .invokevirtual 64, 3, 586, 0)]
def cd_L_law_6 : List En := [(586, .if_icmp .eq 884, 3, 589, 1470), (589, .iconst 0, 1, 590, 0), (590, .ireturn, 1, 591, 0), (591, .aload_n 1, 1, 592, 0), (592, .aload_n 0, 1, 593, 0), (593, .iload_n 3, 1, 594, 0), (594, .iconst 1, 1, 595, 0), (595, .iadd, 1, 596, 0), (596, .iaload, 1, 597, 0), (597, .aload_n 0, 1, 598, 0), (598, .iload_n 3, 1, 599, 0), (599, .iconst 2, 1, 600, 0), (600, .iadd, 1, 601, 0), (601, .iaload, 1, 602, 0), (602, .invokevirtual 65, 3, 605, 0), (605, .aload_n 2, 1, 606, 0), (606, .aload_n 0, 1, 607, 0), (607, .iload_n 3, 1, 608, 0), (608, .iconst 1, 1, 609, 0), (609, .iadd, 1, 610, 0), (610, .iaload, 1, 611, 0), (611, .aload_n 0, 1, 612, 0), (612, .iload_n 3, 1, 613, 0), (613, .iconst 2, 1, 614, 0), (614, .iadd, 1, 615, 0), (615, .iaload, 1, 616, 0), (616, .invokevirtual 68, 3, 619, 0), (619, .if_icmp .eq 851, 3, 622, 1470), (622, .iconst 0, 1, 623, 0), (623, .ireturn, 1, 624, 0), (624, .aload_n 1, 1, 625, 0), (625, .aload_n 0, 1, 626, 0), (626, .iload_n 3, 1, 627, 0), (627, .iconst 1, 1, 628, 0), (628, .iadd, 1, 629, 0), (629, .iaload, 1, 630, 0), (630, .aload_n 0, 1, 631, 0), (631, .iload_n 3, 1, 632, 0), (632, .iconst 2, 1, 633, 0), (633, .iadd, 1, 634, 0), (634, .iaload, 1, 635, 0), (635, .aload_n 0, 1, 636, 0), (636, .iload_n 3, 1, 637, 0), (637, .iconst 3, 1, 638, 0), (638, .iadd, 1, 639, 0), (639, .iaload, 1, 640, 0), (640, .aload_n 0, 1, 641, 0), (641, .iload_n 3, 1, 642, 0), (642, .iconst 4, 1, 643, 0), (643, .iadd, 1, 644, 0), (644, .iaload, 1, 645, 0), (645, .invokevirtual 69, 3, 648, 0), (648, .aload_n 2, 1, 649, 0), (649, .aload_n 0, 1, 650, 0), (650, .iload_n 3, 1, 651, 0), (651, .iconst 1, 1, 652, 0), (652, .iadd, 1, 653, 0), (653, .iaload, 1, 654, 0), (654, .aload_n 0, 1, 655, 0), (655, .iload_n 3, 1, 656, 0)]
def cd_L_law_7 : List En := [(656, .iconst 2, 1, 657, 0), (657, .iadd, 1, 658, 0), (658, .iaload, 1, 659, 0), (659, .aload_n 0, 1, 660, 0), (660, .iload_n 3, 1, 661, 0), (661, .iconst 3, 1, 662, 0), (662, .iadd, 1, 663, 0), (663, .iaload, 1, 664, 0), (664, .aload_n 0, 1, 665, 0), (665, .iload_n 3, 1, 666, 0), (666, .iconst 4, 1, 667, 0), (667, .iadd, 1, 668, 0), (668, .iaload, 1, 669, 0), (669, .invokevirtual 73, 3, 672, 0), (672, .if_icmp .eq 798, 3, 675, 1470), (675, .iconst 0, 1, 676, 0), (676, .ireturn, 1, 677, 0), (677, .aload_n 1, 1, 678, 0), (678, .aload_n 0, 1, 679, 0), (679, .iload_n 3, 1, 680, 0), (680, .iconst 1, 1, 681, 0), (681, .iadd, 1, 682, 0), (682, .iaload, 1, 683, 0), (683, .aload_n 0, 1, 684, 0), (684, .iload_n 3, 1, 685, 0), (685, .iconst 2, 1, 686, 0), (686, .iadd, 1, 687, 0), (687, .iaload, 1, 688, 0), (688, .aload_n 0, 1, 689, 0), (689, .iload_n 3, 1, 690, 0), (690, .iconst 3, 1, 691, 0), (691, .iadd, 1, 692, 0), (692, .iaload, 1, 693, 0), (693, .aload_n 0, 1, 694, 0), (694, .iload_n 3, 1, 695, 0), (695, .iconst 4, 1, 696, 0), (696, .iadd, 1, 697, 0), (697, .iaload, 1, 698, 0), (698, .invokevirtual 74, 3, 701, 0), (701, .aload_n 2, 1, 702, 0), (702, .aload_n 0, 1, 703, 0), (703, .iload_n 3, 1, 704, 0), (704, .iconst 1, 1, 705, 0), (705, .iadd, 1, 706, 0), (706, .iaload, 1, 707, 0), (707, .aload_n 0, 1, 708, 0), (708, .iload_n 3, 1, 709, 0), (709, .iconst 2, 1, 710, 0), (710, .iadd, 1, 711, 0), (711, .iaload, 1, 712, 0), (712, .aload_n 0, 1, 713, 0), (713, .iload_n 3, 1, 714, 0), (714, .iconst 3, 1, 715, 0), (715, .iadd, 1, 716, 0), (716, .iaload, 1, 717, 0), (717, .aload_n 0, 1, 718, 0), (718, .iload_n 3, 1, 719, 0), (719, .iconst 4, 1, 720, 0), (720, .iadd, 1, 721, 0), (721, .iaload, 1, 722, 0)]
def cd_L_law_8 : List En := [(722, .invokevirtual 77, 3, 725, 0), (725, .if_icmp .eq 745, 3, 728, 1470), (728, .iconst 0, 1, 729, 0), (729, .ireturn, 1, 730, 0), (730, .aload_n 1, 1, 731, 0), (731, .aload_n 0, 1, 732, 0), (732, .iload_n 3, 1, 733, 0), (733, .iconst 1, 1, 734, 0), (734, .iadd, 1, 735, 0), (735, .iaload, 1, 736, 0), (736, .aload_n 0, 1, 737, 0), (737, .iload_n 3, 1, 738, 0), (738, .iconst 2, 1, 739, 0), (739, .iadd, 1, 740, 0), (740, .iaload, 1, 741, 0), (741, .aload_n 0, 1, 742, 0), (742, .iload_n 3, 1, 743, 0), (743, .iconst 3, 1, 744, 0), (744, .iadd, 1, 745, 0), (745, .iaload, 1, 746, 0), (746, .aload_n 0, 1, 747, 0), (747, .iload_n 3, 1, 748, 0), (748, .iconst 4, 1, 749, 0), (749, .iadd, 1, 750, 0), (750, .iaload, 1, 751, 0), (751, .invokevirtual 78, 3, 754, 0), (754, .aload_n 2, 1, 755, 0), (755, .aload_n 0, 1, 756, 0), (756, .iload_n 3, 1, 757, 0), (757, .iconst 1, 1, 758, 0), (758, .iadd, 1, 759, 0), (759, .iaload, 1, 760, 0), (760, .aload_n 0, 1, 761, 0), (761, .iload_n 3, 1, 762, 0), (762, .iconst 2, 1, 763, 0), (763, .iadd, 1, 764, 0), (764, .iaload, 1, 765, 0), (765, .aload_n 0, 1, 766, 0), (766, .iload_n 3, 1, 767, 0), (767, .iconst 3, 1, 768, 0), (768, .iadd, 1, 769, 0), (769, .iaload, 1, 770, 0), (770, .aload_n 0, 1, 771, 0), (771, .iload_n 3, 1, 772, 0), (772, .iconst 4, 1, 773, 0), (773, .iadd, 1, 774, 0), (774, .iaload, 1, 775, 0), (775, .invokevirtual 81, 3, 778, 0), (778, .if_icmp .eq 692, 3, 781, 1470), (781, .iconst 0, 1, 782, 0), (782, .ireturn, 1, 783, 0), (783, .aload_n 1, 1, 784, 0), (784, .aload_n 0, 1, 785, 0), (785, .iload_n 3, 1, 786, 0), (786, .iconst 1, 1, 787, 0), (787, .iadd, 1, 788, 0), (788, .iaload, 1, 789, 0), (789, .aload_n 0, 1, 790, 0), (790, .iload_n 3, 1, 791, 0), (791, .iconst 2, 1, 792, 0)]
def cd_L_law_9 : List En := [(792, .iadd, 1, 793, 0), (793, .iaload, 1, 794, 0), (794, .aload_n 0, 1, 795, 0), (795, .iload_n 3, 1, 796, 0), (796, .iconst 3, 1, 797, 0), (797, .iadd, 1, 798, 0), (798, .iaload, 1, 799, 0), (799, .aload_n 0, 1, 800, 0), (800, .iload_n 3, 1, 801, 0), (801, .iconst 4, 1, 802, 0), (802, .iadd, 1, 803, 0), (803, .iaload, 1, 804, 0), (804, .invokevirtual 82, 3, 807, 0), (807, .aload_n 2, 1, 808, 0), (808, .aload_n 0, 1, 809, 0), (809, .iload_n 3, 1, 810, 0), (810, .iconst 1, 1, 811, 0), (811, .iadd, 1, 812, 0), (812, .iaload, 1, 813, 0), (813, .aload_n 0, 1, 814, 0), (814, .iload_n 3, 1, 815, 0), (815, .iconst 2, 1, 816, 0), (816, .iadd, 1, 817, 0), (817, .iaload, 1, 818, 0), (818, .aload_n 0, 1, 819, 0), (819, .iload_n 3, 1, 820, 0), (820, .iconst 3, 1, 821, 0), (821, .iadd, 1, 822, 0), (822, .iaload, 1, 823, 0), (823, .aload_n 0, 1, 824, 0), (824, .iload_n 3, 1, 825, 0), (825, .iconst 4, 1, 826, 0), (826, .iadd, 1, 827, 0), (827, .iaload, 1, 828, 0), (828, .invokevirtual 85, 3, 831, 0), (831, .if_icmp .eq 639, 3, 834, 1470), (834, .iconst 0, 1, 835, 0), (835, .ireturn, 1, 836, 0), (836, .aload_n 1, 1, 837, 0), (837, .aload_n 0, 1, 838, 0), (838, .iload_n 3, 1, 839, 0), (839, .iconst 1, 1, 840, 0), (840, .iadd, 1, 841, 0), (841, .iaload, 1, 842, 0), (842, .aload_n 0, 1, 843, 0), (843, .iload_n 3, 1, 844, 0), (844, .iconst 2, 1, 845, 0), (845, .iadd, 1, 846, 0), (846, .iaload, 1, 847, 0), (847, .aload_n 0, 1, 848, 0), (848, .iload_n 3, 1, 849, 0), (849, .iconst 3, 1, 850, 0), (850, .iadd, 1, 851, 0), (851, .iaload, 1, 852, 0), (852, .invokevirtual 86, 3, 855, 0), (855, .aload_n 2, 1, 856, 0), (856, .aload_n 0, 1, 857, 0), (857, .iload_n 3, 1, 858, 0), (858, .iconst 1, 1, 859, 0), (859, .iadd, 1, 860, 0)]
def cd_L_law_10 : List En := [(860, .iaload, 1, 861, 0), (861, .aload_n 0, 1, 862, 0), (862, .iload_n 3, 1, 863, 0), (863, .iconst 2, 1, 864, 0), (864, .iadd, 1, 865, 0), (865, .iaload, 1, 866, 0), (866, .aload_n 0, 1, 867, 0), (867, .iload_n 3, 1, 868, 0), (868, .iconst 3, 1, 869, 0), (869, .iadd, 1, 870, 0), (870, .iaload, 1, 871, 0), (871, .invokevirtual 90, 3, 874, 0), (874, .if_icmp .eq 596, 3, 877, 1470), (877, .iconst 0, 1, 878, 0), (878, .ireturn, 1, 879, 0), (879, .aload_n 1, 1, 880, 0), (880, .aload_n 0, 1, 881, 0), (881, .iload_n 3, 1, 882, 0), (882, .iconst 1, 1, 883, 0), (883, .iadd, 1, 884, 0), (884, .iaload, 1, 885, 0), (885, .aload_n 0, 1, 886, 0), (886, .iload_n 3, 1, 887, 0), (887, .iconst 2, 1, 888, 0), (888, .iadd, 1, 889, 0), (889, .iaload, 1, 890, 0), (890, .aload_n 0, 1, 891, 0), (891, .iload_n 3, 1, 892, 0), (892, .iconst 3, 1, 893, 0), (893, .iadd, 1, 894, 0), (894, .iaload, 1, 895, 0), (895, .invokevirtual 91, 3, 898, 0), (898, .aload_n 2, 1, 899, 0), (899, .aload_n 0, 1, 900, 0), (900, .iload_n 3, 1, 901, 0), (901, .iconst 1, 1, 902, 0), (902, .iadd, 1, 903, 0), (903, .iaload, 1, 904, 0), (904, .aload_n 0, 1, 905, 0), (905, .iload_n 3, 1, 906, 0), (906, .iconst 2, 1, 907, 0), (907, .iadd, 1, 908, 0), (908, .iaload, 1, 909, 0), (909, .aload_n 0, 1, 910, 0), (910, .iload_n 3, 1, 911, 0), (911, .iconst 3, 1, 912, 0), (912, .iadd, 1, 913, 0), (913, .iaload, 1, 914, 0), (914, .invokevirtual 94, 3, 917, 0), (917, .if_icmp .eq 553, 3, 920, 1470), (920, .iconst 0, 1, 921, 0), (921, .ireturn, 1, 922, 0), (922, .aload_n 1, 1, 923, 0), (923, .aload_n 0, 1, 924, 0), (924, .iload_n 3, 1, 925, 0), (925, .iconst 1, 1, 926, 0), (926, .iadd, 1, 927, 0), (927, .iaload, 1, 928, 0), (928, .aload_n 0, 1, 929, 0), (929, .iload_n 3, 1, 930, 0)]
def cd_L_law_11 : List En := [(930, .iconst 2, 1, 931, 0), (931, .iadd, 1, 932, 0), (932, .iaload, 1, 933, 0), (933, .invokevirtual 95, 3, 936, 0), (936, .aload_n 2, 1, 937, 0), (937, .aload_n 0, 1, 938, 0), (938, .iload_n 3, 1, 939, 0), (939, .iconst 1, 1, 940, 0), (940, .iadd, 1, 941, 0), (941, .iaload, 1, 942, 0), (942, .aload_n 0, 1, 943, 0), (943, .iload_n 3, 1, 944, 0), (944, .iconst 2, 1, 945, 0), (945, .iadd, 1, 946, 0), (946, .iaload, 1, 947, 0), (947, .invokevirtual 98, 3, 950, 0), (950, .if_icmp .eq 520, 3, 953, 1470), (953, .iconst 0, 1, 954, 0), (954, .ireturn, 1, 955, 0), (955, .aload_n 1, 1, 956, 0), (956, .aload_n 0, 1, 957, 0), (957, .iload_n 3, 1, 958, 0), (958, .iconst 1, 1, 959, 0), (959, .iadd, 1, 960, 0), (960, .iaload, 1, 961, 0), (961, .aload_n 0, 1, 962, 0), (962, .iload_n 3, 1, 963, 0), (963, .iconst 2, 1, 964, 0), (964, .iadd, 1, 965, 0), (965, .iaload, 1, 966, 0), (966, .invokevirtual 99, 3, 969, 0), (969, .aload_n 2, 1, 970, 0), (970, .aload_n 0, 1, 971, 0), (971, .iload_n 3, 1, 972, 0), (972, .iconst 1, 1, 973, 0), (973, .iadd, 1, 974, 0), (974, .iaload, 1, 975, 0), (975, .aload_n 0, 1, 976, 0), (976, .iload_n 3, 1, 977, 0), (977, .iconst 2, 1, 978, 0), (978, .iadd, 1, 979, 0), (979, .iaload, 1, 980, 0), (980, .invokevirtual 102, 3, 983, 0), (983, .if_icmp .eq 487, 3, 986, 1470), (986, .iconst 0, 1, 987, 0), (987, .ireturn, 1, 988, 0), (988, .aload_n 1, 1, 989, 0), (989, .aload_n 0, 1, 990, 0), (990, .iload_n 3, 1, 991, 0), (991, .iconst 1, 1, 992, 0), (992, .iadd, 1, 993, 0), (993, .iaload, 1, 994, 0), (994, .aload_n 0, 1, 995, 0), (995, .iload_n 3, 1, 996, 0), (996, .iconst 2, 1, 997, 0), (997, .iadd, 1, 998, 0), (998, .iaload, 1, 999, 0), (999, .aload_n 0, 1, 1000, 0), (1000, .iload_n 3, 1, 1001, 0), (1001, .iconst 3, 1, 1002, 0)]
def cd_L_law_12 : List En := [(1002, .iadd, 1, 1003, 0), (1003, .iaload, 1, 1004, 0), (1004, .invokevirtual 103, 3, 1007, 0), (1007, .aload_n 2, 1, 1008, 0), (1008, .aload_n 0, 1, 1009, 0), (1009, .iload_n 3, 1, 1010, 0), (1010, .iconst 1, 1, 1011, 0), (1011, .iadd, 1, 1012, 0), (1012, .iaload, 1, 1013, 0), (1013, .aload_n 0, 1, 1014, 0), (1014, .iload_n 3, 1, 1015, 0), (1015, .iconst 2, 1, 1016, 0), (1016, .iadd, 1, 1017, 0), (1017, .iaload, 1, 1018, 0), (1018, .aload_n 0, 1, 1019, 0), (1019, .iload_n 3, 1, 1020, 0), (1020, .iconst 3, 1, 1021, 0), (1021, .iadd, 1, 1022, 0), (1022, .iaload, 1, 1023, 0), (1023, .invokevirtual 106, 3, 1026, 0), (1026, .if_icmp .eq 444, 3, 1029, 1470), (1029, .iconst 0, 1, 1030, 0), (1030, .ireturn, 1, 1031, 0), (1031, .aload_n 1, 1, 1032, 0), (1032, .aload_n 0, 1, 1033, 0), (1033, .iload_n 3, 1, 1034, 0), (1034, .iconst 1, 1, 1035, 0), (1035, .iadd, 1, 1036, 0), (1036, .iaload, 1, 1037, 0), (1037, .aload_n 0, 1, 1038, 0), (1038, .iload_n 3, 1, 1039, 0), (1039, .iconst 2, 1, 1040, 0), (1040, .iadd, 1, 1041, 0), (1041, .iaload, 1, 1042, 0), (1042, .invokevirtual 107, 3, 1045, 0), (1045, .aload_n 2, 1, 1046, 0), (1046, .aload_n 0, 1, 1047, 0), (1047, .iload_n 3, 1, 1048, 0), (1048, .iconst 1, 1, 1049, 0), (1049, .iadd, 1, 1050, 0), (1050, .iaload, 1, 1051, 0), (1051, .aload_n 0, 1, 1052, 0), (1052, .iload_n 3, 1, 1053, 0), (1053, .iconst 2, 1, 1054, 0), (1054, .iadd, 1, 1055, 0), (1055, .iaload, 1, 1056, 0), (1056, .invokevirtual 110, 3, 1059, 0), (1059, .if_icmp .eq 411, 3, 1062, 1470), (1062, .iconst 0, 1, 1063, 0), (1063, .ireturn, 1, 1064, 0), (1064, .aload_n 1, 1, 1065, 0), (1065, .aload_n 0, 1, 1066, 0), (1066, .iload_n 3, 1, 1067, 0), (1067, .iconst 1, 1, 1068, 0), (1068, .iadd, 1, 1069, 0), (1069, .iaload, 1, 1070, 0), (1070, .aload_n 0, 1, 1071, 0), (1071, .iload_n 3, 1, 1072, 0), (1072, .iconst 2, 1, 1073, 0), (1073, .iadd, 1, 1074, 0)]
def cd_L_law_13 : List En := [(1074, .iaload, 1, 1075, 0), (1075, .aload_n 0, 1, 1076, 0), (1076, .iload_n 3, 1, 1077, 0), (1077, .iconst 3, 1, 1078, 0), (1078, .iadd, 1, 1079, 0), (1079, .iaload, 1, 1080, 0), (1080, .invokevirtual 111, 3, 1083, 0), (1083, .aload_n 2, 1, 1084, 0), (1084, .aload_n 0, 1, 1085, 0), (1085, .iload_n 3, 1, 1086, 0), (1086, .iconst 1, 1, 1087, 0), (1087, .iadd, 1, 1088, 0), (1088, .iaload, 1, 1089, 0), (1089, .aload_n 0, 1, 1090, 0), (1090, .iload_n 3, 1, 1091, 0), (1091, .iconst 2, 1, 1092, 0), (1092, .iadd, 1, 1093, 0), (1093, .iaload, 1, 1094, 0), (1094, .aload_n 0, 1, 1095, 0), (1095, .iload_n 3, 1, 1096, 0), (1096, .iconst 3, 1, 1097, 0), (1097, .iadd, 1, 1098, 0), (1098, .iaload, 1, 1099, 0), (1099, .invokevirtual 114, 3, 1102, 0), (1102, .if_icmp .eq 368, 3, 1105, 1470), (1105, .iconst 0, 1, 1106, 0), (1106, .ireturn, 1, 1107, 0), (1107, .aload_n 1, 1, 1108, 0), (1108, .aload_n 0, 1, 1109, 0), (1109, .iload_n 3, 1, 1110, 0), (1110, .iconst 1, 1, 1111, 0), (1111, .iadd, 1, 1112, 0), (1112, .iaload, 1, 1113, 0), (1113, .aload_n 0, 1, 1114, 0), (1114, .iload_n 3, 1, 1115, 0), (1115, .iconst 2, 1, 1116, 0), (1116, .iadd, 1, 1117, 0), (1117, .iaload, 1, 1118, 0), (1118, .aload_n 0, 1, 1119, 0), (1119, .iload_n 3, 1, 1120, 0), (1120, .iconst 3, 1, 1121, 0), (1121, .iadd, 1, 1122, 0), (1122, .iaload, 1, 1123, 0), (1123, .aload_n 0, 1, 1124, 0), (1124, .iload_n 3, 1, 1125, 0), (1125, .iconst 4, 1, 1126, 0), (1126, .iadd, 1, 1127, 0), (1127, .iaload, 1, 1128, 0), (1128, .invokevirtual 115, 3, 1131, 0), (1131, .aload_n 2, 1, 1132, 0), (1132, .aload_n 0, 1, 1133, 0), (1133, .iload_n 3, 1, 1134, 0), (1134, .iconst 1, 1, 1135, 0), (1135, .iadd, 1, 1136, 0), (1136, .iaload, 1, 1137, 0), (1137, .aload_n 0, 1, 1138, 0), (1138, .iload_n 3, 1, 1139, 0), (1139, .iconst 2, 1, 1140, 0), (1140, .iadd, 1, 1141, 0), (1141, .iaload, 1, 1142, 0)]
def cd_L_law_14 : List En := [(1142, .aload_n 0, 1, 1143, 0), (1143, .iload_n 3, 1, 1144, 0), (1144, .iconst 3, 1, 1145, 0), (1145, .iadd, 1, 1146, 0), (1146, .iaload, 1, 1147, 0), (1147, .aload_n 0, 1, 1148, 0), (1148, .iload_n 3, 1, 1149, 0), (1149, .iconst 4, 1, 1150, 0), (1150, .iadd, 1, 1151, 0), (1151, .iaload, 1, 1152, 0), (1152, .invokevirtual 118, 3, 1155, 0), (1155, .if_icmp .eq 315, 3, 1158, 1470), (1158, .iconst 0, 1, 1159, 0), (1159, .ireturn, 1, 1160, 0), (1160, .aload_n 1, 1, 1161, 0), (1161, .aload_n 0, 1, 1162, 0), (1162, .iload_n 3, 1, 1163, 0), (1163, .iconst 1, 1, 1164, 0), (1164, .iadd, 1, 1165, 0), (1165, .iaload, 1, 1166, 0), (1166, .aload_n 0, 1, 1167, 0), (1167, .iload_n 3, 1, 1168, 0), (1168, .iconst 2, 1, 1169, 0), (1169, .iadd, 1, 1170, 0), (1170, .iaload, 1, 1171, 0), (1171, .aload_n 0, 1, 1172, 0), (1172, .iload_n 3, 1, 1173, 0), (1173, .iconst 3, 1, 1174, 0), (1174, .iadd, 1, 1175, 0), (1175, .iaload, 1, 1176, 0), (1176, .aload_n 0, 1, 1177, 0), (1177, .iload_n 3, 1, 1178, 0), (1178, .iconst 4, 1, 1179, 0), (1179, .iadd, 1, 1180, 0), (1180, .iaload, 1, 1181, 0), (1181, .invokevirtual 119, 3, 1184, 0), (1184, .aload_n 2, 1, 1185, 0), (1185, .aload_n 0, 1, 1186, 0), (1186, .iload_n 3, 1, 1187, 0), (1187, .iconst 1, 1, 1188, 0), (1188, .iadd, 1, 1189, 0), (1189, .iaload, 1, 1190, 0), (1190, .aload_n 0, 1, 1191, 0), (1191, .iload_n 3, 1, 1192, 0), (1192, .iconst 2, 1, 1193, 0), (1193, .iadd, 1, 1194, 0), (1194, .iaload, 1, 1195, 0), (1195, .aload_n 0, 1, 1196, 0), (1196, .iload_n 3, 1, 1197, 0), (1197, .iconst 3, 1, 1198, 0), (1198, .iadd, 1, 1199, 0), (1199, .iaload, 1, 1200, 0), (1200, .aload_n 0, 1, 1201, 0), (1201, .iload_n 3, 1, 1202, 0), (1202, .iconst 4, 1, 1203, 0), (1203, .iadd, 1, 1204, 0), (1204, .iaload, 1, 1205, 0), (1205, .invokevirtual 122, 3, 1208, 0), (1208, .if_icmp .eq 262, 3, 1211, 1470), (1211, .iconst 0, 1, 1212, 0)]
def cd_L_law_15 : List En := [(1212, .ireturn, 1, 1213, 0), (1213, .aload_n 1, 1, 1214, 0), (1214, .aload_n 0, 1, 1215, 0), (1215, .iload_n 3, 1, 1216, 0), (1216, .iconst 1, 1, 1217, 0), (1217, .iadd, 1, 1218, 0), (1218, .iaload, 1, 1219, 0), (1219, .aload_n 0, 1, 1220, 0), (1220, .iload_n 3, 1, 1221, 0), (1221, .iconst 2, 1, 1222, 0), (1222, .iadd, 1, 1223, 0), (1223, .iaload, 1, 1224, 0), (1224, .invokevirtual 123, 3, 1227, 0), (1227, .aload_n 2, 1, 1228, 0), (1228, .aload_n 0, 1, 1229, 0), (1229, .iload_n 3, 1, 1230, 0), (1230, .iconst 1, 1, 1231, 0), (1231, .iadd, 1, 1232, 0), (1232, .iaload, 1, 1233, 0), (1233, .aload_n 0, 1, 1234, 0), (1234, .iload_n 3, 1, 1235, 0), (1235, .iconst 2, 1, 1236, 0), (1236, .iadd, 1, 1237, 0), (1237, .iaload, 1, 1238, 0), (1238, .invokevirtual 126, 3, 1241, 0), (1241, .if_icmp .eq 229, 3, 1244, 1470), (1244, .iconst 0, 1, 1245, 0), (1245, .ireturn, 1, 1246, 0), (1246, .aload_n 1, 1, 1247, 0), (1247, .aload_n 0, 1, 1248, 0), (1248, .iload_n 3, 1, 1249, 0), (1249, .iconst 1, 1, 1250, 0), (1250, .iadd, 1, 1251, 0), (1251, .iaload, 1, 1252, 0), (1252, .invokevirtual 127, 3, 1255, 0), (1255, .aload_n 2, 1, 1256, 0), (1256, .aload_n 0, 1, 1257, 0), (1257, .iload_n 3, 1, 1258, 0), (1258, .iconst 1, 1, 1259, 0), (1259, .iadd, 1, 1260, 0), (1260, .iaload, 1, 1261, 0), (1261, .invokevirtual 130, 3, 1264, 0), (1264, .if_icmp .eq 206, 3, 1267, 1470), (1267, .iconst 0, 1, 1268, 0), (1268, .ireturn, 1, 1269, 0), (1269, .aload_n 1, 1, 1270, 0), (1270, .aload_n 0, 1, 1271, 0), (1271, .iload_n 3, 1, 1272, 0), (1272, .iconst 1, 1, 1273, 0), (1273, .iadd, 1, 1274, 0), (1274, .iaload, 1, 1275, 0), (1275, .aload_n 0, 1, 1276, 0), (1276, .iload_n 3, 1, 1277, 0), (1277, .iconst 2, 1, 1278, 0), (1278, .iadd, 1, 1279, 0), (1279, .iaload, 1, 1280, 0), (1280, .aload_n 0, 1, 1281, 0), (1281, .iload_n 3, 1, 1282, 0), (1282, .iconst 3, 1, 1283, 0), (1283, .iadd, 1, 1284, 0)]
def cd_L_law_16 : List En := [(1284, .iaload, 1, 1285, 0), (1285, .invokevirtual 131, 3, 1288, 0), (1288, .aload_n 2, 1, 1289, 0), (1289, .aload_n 0, 1, 1290, 0), (1290, .iload_n 3, 1, 1291, 0), (1291, .iconst 1, 1, 1292, 0), (1292, .iadd, 1, 1293, 0), (1293, .iaload, 1, 1294, 0), (1294, .aload_n 0, 1, 1295, 0), (1295, .iload_n 3, 1, 1296, 0), (1296, .iconst 2, 1, 1297, 0), (1297, .iadd, 1, 1298, 0), (1298, .iaload, 1, 1299, 0), (1299, .aload_n 0, 1, 1300, 0), (1300, .iload_n 3, 1, 1301, 0), (1301, .iconst 3, 1, 1302, 0), (1302, .iadd, 1, 1303, 0), (1303, .iaload, 1, 1304, 0), (1304, .invokevirtual 134, 3, 1307, 0), (1307, .if_icmp .eq 163, 3, 1310, 1470), (1310, .iconst 0, 1, 1311, 0), (1311, .ireturn, 1, 1312, 0), (1312, .aload_n 1, 1, 1313, 0), (1313, .aload_n 0, 1, 1314, 0), (1314, .iload_n 3, 1, 1315, 0), (1315, .iconst 1, 1, 1316, 0), (1316, .iadd, 1, 1317, 0), (1317, .iaload, 1, 1318, 0), (1318, .aload_n 0, 1, 1319, 0), (1319, .iload_n 3, 1, 1320, 0), (1320, .iconst 2, 1, 1321, 0), (1321, .iadd, 1, 1322, 0), (1322, .iaload, 1, 1323, 0), (1323, .invokevirtual 135, 3, 1326, 0), (1326, .aload_n 2, 1, 1327, 0), (1327, .aload_n 0, 1, 1328, 0), (1328, .iload_n 3, 1, 1329, 0), (1329, .iconst 1, 1, 1330, 0), (1330, .iadd, 1, 1331, 0), (1331, .iaload, 1, 1332, 0), (1332, .aload_n 0, 1, 1333, 0), (1333, .iload_n 3, 1, 1334, 0), (1334, .iconst 2, 1, 1335, 0), (1335, .iadd, 1, 1336, 0), (1336, .iaload, 1, 1337, 0), (1337, .invokevirtual 138, 3, 1340, 0), (1340, .if_icmp .eq 130, 3, 1343, 1470), (1343, .iconst 0, 1, 1344, 0), (1344, .ireturn, 1, 1345, 0), (1345, .aload_n 1, 1, 1346, 0), (1346, .aload_n 0, 1, 1347, 0), (1347, .iload_n 3, 1, 1348, 0), (1348, .iconst 1, 1, 1349, 0), (1349, .iadd, 1, 1350, 0), (1350, .iaload, 1, 1351, 0), (1351, .aload_n 0, 1, 1352, 0), (1352, .iload_n 3, 1, 1353, 0), (1353, .iconst 2, 1, 1354, 0), (1354, .iadd, 1, 1355, 0), (1355, .iaload, 1, 1356, 0)]
def cd_L_law_17 : List En := [(1356, .invokevirtual 139, 3, 1359, 0), (1359, .aload_n 2, 1, 1360, 0), (1360, .aload_n 0, 1, 1361, 0), (1361, .iload_n 3, 1, 1362, 0), (1362, .iconst 1, 1, 1363, 0), (1363, .iadd, 1, 1364, 0), (1364, .iaload, 1, 1365, 0), (1365, .aload_n 0, 1, 1366, 0), (1366, .iload_n 3, 1, 1367, 0), (1367, .iconst 2, 1, 1368, 0), (1368, .iadd, 1, 1369, 0), (1369, .iaload, 1, 1370, 0), (1370, .invokevirtual 142, 3, 1373, 0), (1373, .if_icmp .eq 97, 3, 1376, 1470), (1376, .iconst 0, 1, 1377, 0), (1377, .ireturn, 1, 1378, 0), (1378, .aload_n 1, 1, 1379, 0), (1379, .aload_n 0, 1, 1380, 0), (1380, .iload_n 3, 1, 1381, 0), (1381, .iconst 1, 1, 1382, 0), (1382, .iadd, 1, 1383, 0), (1383, .iaload, 1, 1384, 0), (1384, .aload_n 0, 1, 1385, 0), (1385, .iload_n 3, 1, 1386, 0), (1386, .iconst 2, 1, 1387, 0), (1387, .iadd, 1, 1388, 0), (1388, .iaload, 1, 1389, 0), (1389, .aload_n 0, 1, 1390, 0), (1390, .iload_n 3, 1, 1391, 0), (1391, .iconst 3, 1, 1392, 0), (1392, .iadd, 1, 1393, 0), (1393, .iaload, 1, 1394, 0), (1394, .ifCond .eq 7, 3, 1397, 1401), (1397, .iconst 1, 1, 1398, 0), (1398, .goto 4, 3, 1401, 1402), (1401, .iconst 0, 1, 1402, 0), (1402, .invokevirtual 143, 3, 1405, 0), (1405, .aload_n 2, 1, 1406, 0), (1406, .aload_n 0, 1, 1407, 0), (1407, .iload_n 3, 1, 1408, 0), (1408, .iconst 1, 1, 1409, 0), (1409, .iadd, 1, 1410, 0), (1410, .iaload, 1, 1411, 0), (1411, .aload_n 0, 1, 1412, 0), (1412, .iload_n 3, 1, 1413, 0), (1413, .iconst 2, 1, 1414, 0), (1414, .iadd, 1, 1415, 0), (1415, .iaload, 1, 1416, 0), (1416, .aload_n 0, 1, 1417, 0), (1417, .iload_n 3, 1, 1418, 0), (1418, .iconst 3, 1, 1419, 0), (1419, .iadd, 1, 1420, 0), (1420, .iaload, 1, 1421, 0), (1421, .ifCond .eq 7, 3, 1424, 1428), (1424, .iconst 1, 1, 1425, 0), (1425, .goto 4, 3, 1428, 1429), (1428, .iconst 0, 1, 1429, 0), (1429, .invokevirtual 147, 3, 1432, 0), (1432, .if_icmp .eq 38, 3, 1435, 1470), (1435, .iconst 0, 1, 1436, 0)]
def cd_L_law_18 : List En := [(1436, .ireturn, 1, 1437, 0), (1437, .aload_n 1, 1, 1438, 0), (1438, .aload_n 0, 1, 1439, 0), (1439, .iload_n 3, 1, 1440, 0), (1440, .iconst 1, 1, 1441, 0), (1441, .iadd, 1, 1442, 0), (1442, .iaload, 1, 1443, 0), (1443, .aload_n 0, 1, 1444, 0), (1444, .iload_n 3, 1, 1445, 0), (1445, .iconst 2, 1, 1446, 0), (1446, .iadd, 1, 1447, 0), (1447, .iaload, 1, 1448, 0), (1448, .invokevirtual 148, 3, 1451, 0), (1451, .aload_n 2, 1, 1452, 0), (1452, .aload_n 0, 1, 1453, 0), (1453, .iload_n 3, 1, 1454, 0), (1454, .iconst 1, 1, 1455, 0), (1455, .iadd, 1, 1456, 0), (1456, .iaload, 1, 1457, 0), (1457, .aload_n 0, 1, 1458, 0), (1458, .iload_n 3, 1, 1459, 0), (1459, .iconst 2, 1, 1460, 0), (1460, .iadd, 1, 1461, 0), (1461, .iaload, 1, 1462, 0), (1462, .invokevirtual 151, 3, 1465, 0), (1465, .if_icmp .eq 5, 3, 1468, 1470), (1468, .iconst 0, 1, 1469, 0), (1469, .ireturn, 1, 1470, 0), (1470, .iinc 3 7, 3, 1473, 0), (1473, .goto (-1455), 3, 1476, 18), (1476, .iconst 1, 1, 1477, 0), (1477, .ireturn, 1, 1478, 0)]
theorem E_L_law_0 {e : En} (i : Nat) (h : nthq cd_L_law_0 i = some e) : dok code e := dok_at (by decide +kernel) i h
theorem E_L_law_1 {e : En} (i : Nat) (h : nthq cd_L_law_1 i = some e) : dok code e := dok_at (by decide +kernel) i h
theorem E_L_law_2 {e : En} (i : Nat) (h : nthq cd_L_law_2 i = some e) : dok code e := dok_at (by decide +kernel) i h
theorem E_L_law_3 {e : En} (i : Nat) (h : nthq cd_L_law_3 i = some e) : dok code e := dok_at (by decide +kernel) i h
theorem E_L_law_4 {e : En} (i : Nat) (h : nthq cd_L_law_4 i = some e) : dok code e := dok_at (by decide +kernel) i h
theorem E_L_law_5 {e : En} (i : Nat) (h : nthq cd_L_law_5 i = some e) : dok code e := dok_at (by decide +kernel) i h
theorem E_L_law_6 {e : En} (i : Nat) (h : nthq cd_L_law_6 i = some e) : dok code e := dok_at (by decide +kernel) i h
theorem E_L_law_7 {e : En} (i : Nat) (h : nthq cd_L_law_7 i = some e) : dok code e := dok_at (by decide +kernel) i h
theorem E_L_law_8 {e : En} (i : Nat) (h : nthq cd_L_law_8 i = some e) : dok code e := dok_at (by decide +kernel) i h
theorem E_L_law_9 {e : En} (i : Nat) (h : nthq cd_L_law_9 i = some e) : dok code e := dok_at (by decide +kernel) i h
theorem E_L_law_10 {e : En} (i : Nat) (h : nthq cd_L_law_10 i = some e) : dok code e := dok_at (by decide +kernel) i h
theorem E_L_law_11 {e : En} (i : Nat) (h : nthq cd_L_law_11 i = some e) : dok code e := dok_at (by decide +kernel) i h
theorem E_L_law_12 {e : En} (i : Nat) (h : nthq cd_L_law_12 i = some e) : dok code e := dok_at (by decide +kernel) i h
theorem E_L_law_13 {e : En} (i : Nat) (h : nthq cd_L_law_13 i = some e) : dok code e := dok_at (by decide +kernel) i h
theorem E_L_law_14 {e : En} (i : Nat) (h : nthq cd_L_law_14 i = some e) : dok code e := dok_at (by decide +kernel) i h
theorem E_L_law_15 {e : En} (i : Nat) (h : nthq cd_L_law_15 i = some e) : dok code e := dok_at (by decide +kernel) i h
theorem E_L_law_16 {e : En} (i : Nat) (h : nthq cd_L_law_16 i = some e) : dok code e := dok_at (by decide +kernel) i h
theorem E_L_law_17 {e : En} (i : Nat) (h : nthq cd_L_law_17 i = some e) : dok code e := dok_at (by decide +kernel) i h
theorem E_L_law_18 {e : En} (i : Nat) (h : nthq cd_L_law_18 i = some e) : dok code e := dok_at (by decide +kernel) i h
end
section
/-! wrappers: what is made with its numbers named; calls in the world that stands -/
section XW
variable {l : Launch} {G : GC} {M : MI} {R : Room} {pc nx tg : Nat} {L : List (Option AV)} {st rest : List AV} {ca sl ca1 sl1 : Nat} {Q : Option AV → WS → Prop} {n0 n1 : Nat} {ρ : Nat → Int → Option Nat} {σ : Nat → Int → Int}
theorem y_new {idx ci N : Nat} {C : String} {T : u_T} {ty : Nat → FieldType} (hd : dok M.2.1 (pc, .new idx, 3, nx, tg)) (hcl : clkq ci C T N ty) (hty : ∀ j, j < N → (fI ci j = true → ty j = .int) ∧ (fI ci j = false → (∃ n, ty j = .object n) ∨ ∃ t, ty j = .array t)) (hlk : Cond.classLink M.1.cls idx C ∈ tbG) (h2 : Cond.instantiable C N ∈ tbG) (h3 : Cond.initialized C ∈ tbG) (hs : shp n0 = (ci, N)) (h9 : n1 ≤ 175) (hn : n0 + 1 = n1) (hc1 : ca + 1 = ca1) (hs1 : sl + N = sl1) (hca : ca1 ≤ R.cells ∧ sl1 ≤ R.slots) (hz : σ n0 = fun _ => 0) (hρ : ρ n0 = fun _ => none) (kk : RunX l G M R nx L (vr n0 :: st) (n1, ρ, σ) ca1 sl1 Q) : RunX l G M R pc L st (n0, ρ, σ) ca sl Q := by
  subst hn hc1 hs1
  exact x_new hd hcl hty hlk h2 h3 hs h9 hca hz hρ kk
theorem y_newa {at9 : ArrayType} {ty : FieldType} {kd N : Nat} {z : Int} (hd : dok M.2.1 (pc, .newarray at9, 2, nx, tg)) (ht : newarray.typeOf at9 = ty) (hkd : (kd = 12 ∧ ty = .int) ∨ (kd = 13 ∧ ty = .boolean) ∨ (kd = 14 ∧ ty = .long)) (hw : Cond.arrayClass ty ∈ tbG) (hzN : z = (N : Int)) (hN : N ≤ 256) (hs : shp n0 = (kd, N)) (h9 : n1 ≤ 175) (hn : n0 + 1 = n1) (hc1 : ca + 1 = ca1) (hs1 : sl + N = sl1) (hca : ca1 ≤ R.cells ∧ sl1 ≤ R.slots) (hz : σ n0 = fun _ => 0) (kk : RunX l G M R nx L (vr n0 :: st) (n1, ρ, σ) ca1 sl1 Q) : RunX l G M R pc L (vi z :: st) (n0, ρ, σ) ca sl Q := by
  subst hn hc1 hs1
  exact x_newa hd ht hkd hw hzN hN hs h9 hca hz kk
/-- the rows of new int[8][K] -/
def rwq (ρ : Nat → Int → Option Nat) (n0 : Nat) : Nat → Int → Option Nat := fun a => if a = n0 then (fun j => if 0 ≤ j ∧ j < 8 then some (n0 + 1 + j.toNat) else none) else ρ a
theorem y_mna {idx K : Nat} {z w : Int} (hd : dok M.2.1 (pc, .multianewarray idx 2, 4, nx, tg)) (hlk : Cond.classLink M.1.cls idx "[[I" ∈ tbG) (har : Cond.arrayClass .int ∈ tbG) (hz8 : z = 8) (hwK : w = (K : Int)) (hK : K ≤ 256) (hs : shp n0 = (15, 8)) (hsr : ∀ i, i < 8 → shp (n0 + 1 + i) = (12, K)) (h9 : n1 ≤ 175) (hn : n0 + 9 = n1) (hc1 : ca + 9 = ca1) (hs1 : sl + (8 + 8 * K) = sl1) (hca : ca1 ≤ R.cells ∧ sl1 ≤ R.slots) (hz : ∀ i, n0 ≤ i → i < n1 → σ i = fun _ => 0) (kk : RunX l G M R nx L (vr n0 :: st) (n1, rwq ρ n0, σ) ca1 sl1 Q) : RunX l G M R pc L (vi w :: vi z :: st) (n0, ρ, σ) ca sl Q := by
  subst hn hc1 hs1
  refine x_mna hd hlk har hz8 hwK hK hs hsr h9 hca (fun i hi => hz _ (by omega) (by omega)) (fun a ha => ?_) (fun j hj => ?_) kk
  · unfold rwq
    rw [if_neg (by omega)]
  · unfold rwq
    rw [if_pos rfl, if_pos (by omega)]
    rfl
variable {K : MI} {d mc ms n idx : Nat} {As : List AV} {Q1 : Option AV → WS → Prop}
/-- a constructor's call; what it makes is counted -/
theorem y_callI {S S1 : WS} {k : Nat} (hd : dok M.2.1 (pc, .invokespecial idx, 3, nx, tg)) (hlk : Cond.methodLink M.1.cls idx K.1 ∈ tbG) (hm : miq K n) (hct : Ct l G K d mc ms (vr k :: As) S (fun r S' => r = none ∧ S' = S1)) (hR : d + 1 ≤ R.frames ∧ 8 + (K.2.2.1 + 11) + 40 * d ≤ R.locals) (hc1 : ca + mc = ca1) (hs1 : sl + ms = sl1) (hca : ca1 ≤ R.cells ∧ sl1 ≤ R.slots) (hst : st = As.reverse ++ vr k :: rest) (hn : As.length = n) (hcat : catq rest ≤ 8) (kk : RunX l G M R nx L rest S1 ca1 sl1 Q) : RunX l G M R pc L st S ca sl Q := by
  subst hc1 hs1
  refine x_callI hd hlk hm hct hR hca hst hn hcat (fun r S' hq => ?_)
  obtain ⟨rfl, rfl⟩ := hq
  exact kk
theorem y_callIN {S S1 : WS} {k : Nat} {host : String} (hd : dok M.2.1 (pc, .invokespecial idx, 3, nx, tg)) (hlk : (M.1.cls, idx, K.1, host) ∈ nstq) (hm : miq K n) (hct : Ct l G K d mc ms (vr k :: As) S (fun r S' => r = none ∧ S' = S1)) (hR : d + 1 ≤ R.frames ∧ 8 + (K.2.2.1 + 11) + 40 * d ≤ R.locals) (hc1 : ca + mc = ca1) (hs1 : sl + ms = sl1) (hca : ca1 ≤ R.cells ∧ sl1 ≤ R.slots) (hst : st = As.reverse ++ vr k :: rest) (hn : As.length = n) (hcat : catq rest ≤ 8) (kk : RunX l G M R nx L rest S1 ca1 sl1 Q) : RunX l G M R pc L st S ca sl Q := by
  subst hc1 hs1
  refine x_callIN hd hlk hm hct hR hca hst hn hcat (fun r S' hq => ?_)
  obtain ⟨rfl, rfl⟩ := hq
  exact kk
end XW
/-! the world that stands: all is made -/
abbrev Wd (σ : Nat → Int → Int) : WS := (175, ρ0, σ)
def PI (P : Int → (Nat → Int → Int) → Prop) : Option AV → WS → Prop := fun r S' => ∃ z τ, r = some (vi z) ∧ S' = Wd τ ∧ P z τ
def PV (P : (Nat → Int → Int) → Prop) : Option AV → WS → Prop := fun r S' => ∃ τ, r = none ∧ S' = Wd τ ∧ P τ
/-- contracts of methods that answer an int (or boolean), and of void ones -/
abbrev CI (l : Launch) (G : GC) (K : MI) (d : Nat) (As : List AV) (σ : Nat → Int → Int) (P : Int → (Nat → Int → Int) → Prop) : Prop := Ct l G K d 0 0 As (Wd σ) (PI P)
abbrev CV (l : Launch) (G : GC) (K : MI) (d : Nat) (As : List AV) (σ : Nat → Int → Int) (P : (Nat → Int → Int) → Prop) : Prop := Ct l G K d 0 0 As (Wd σ) (PV P)
abbrev XI (l : Launch) (G : GC) (M : MI) (d : Nat) (pc : Nat) (L : List (Option AV)) (st : List AV) (σ : Nat → Int → Int) (P : Int → (Nat → Int → Int) → Prop) : Prop := RunX l G M (rmq d 0 0) pc L st (Wd σ) 0 0 (PI P)
abbrev XV (l : Launch) (G : GC) (M : MI) (d : Nat) (pc : Nat) (L : List (Option AV)) (st : List AV) (σ : Nat → Int → Int) (P : (Nat → Int → Int) → Prop) : Prop := RunX l G M (rmq d 0 0) pc L st (Wd σ) 0 0 (PV P)
section XX
variable {l : Launch} {G : GC} {M : MI} {R : Room} {pc nx tg : Nat} {L : List (Option AV)} {st rest : List AV} {Q : Option AV → WS → Prop} {σ : Nat → Int → Int}
variable {K : MI} {d n idx : Nat} {As : List AV} {P : Int → (Nat → Int → Int) → Prop} {PP : (Nat → Int → Int) → Prop}
theorem z_callVi {k ci N : Nat} (hd : dok M.2.1 (pc, .invokevirtual idx, 3, nx, tg)) (hlk : Cond.methodLink M.1.cls idx K.1 ∈ tbG) (hm : mvq K n) (hs : shp k = (ci, N)) (hk : k < 175) (hcc : ci < 12 ∧ vwCl[ci]?.map (·.1) = some K.1.cls) (hct : CI l G K d (vr k :: As) σ P) (hR : d + 1 ≤ R.frames ∧ 8 + (K.2.2.1 + 11) + 40 * d ≤ R.locals) (hst : st = As.reverse ++ vr k :: rest) (hn : As.length = n) (hcat : catq rest ≤ 8)
    (kk : ∀ z τ, P z τ → RunX l G M R nx L (vi z :: rest) (Wd τ) 0 0 Q) : RunX l G M R pc L st (Wd σ) 0 0 Q := by
  refine x_callV hd hlk hm hs hk hcc hct hR ⟨Nat.zero_le _, Nat.zero_le _⟩ hst hn hcat (fun r S' hq => ?_)
  obtain ⟨z, τ, rfl, rfl, hP⟩ := hq
  exact kk z τ hP
theorem z_callVv {k ci N : Nat} (hd : dok M.2.1 (pc, .invokevirtual idx, 3, nx, tg)) (hlk : Cond.methodLink M.1.cls idx K.1 ∈ tbG) (hm : mvq K n) (hs : shp k = (ci, N)) (hk : k < 175) (hcc : ci < 12 ∧ vwCl[ci]?.map (·.1) = some K.1.cls) (hct : CV l G K d (vr k :: As) σ PP) (hR : d + 1 ≤ R.frames ∧ 8 + (K.2.2.1 + 11) + 40 * d ≤ R.locals) (hst : st = As.reverse ++ vr k :: rest) (hn : As.length = n) (hcat : catq rest ≤ 8)
    (kk : ∀ τ, PP τ → RunX l G M R nx L rest (Wd τ) 0 0 Q) : RunX l G M R pc L st (Wd σ) 0 0 Q := by
  refine x_callV hd hlk hm hs hk hcc hct hR ⟨Nat.zero_le _, Nat.zero_le _⟩ hst hn hcat (fun r S' hq => ?_)
  obtain ⟨τ, rfl, rfl, hP⟩ := hq
  exact kk τ hP
theorem z_callSi (hd : dok M.2.1 (pc, .invokestatic idx, 3, nx, tg)) (hlk : Cond.methodLink M.1.cls idx K.1 ∈ tbG) (hm : msq K n) (hct : CI l G K d As σ P) (hR : d + 1 ≤ R.frames ∧ 8 + (K.2.2.1 + 11) + 40 * d ≤ R.locals) (hst : st = As.reverse ++ rest) (hn : As.length = n) (hcat : catq rest ≤ 8)
    (kk : ∀ z τ, P z τ → RunX l G M R nx L (vi z :: rest) (Wd τ) 0 0 Q) : RunX l G M R pc L st (Wd σ) 0 0 Q := by
  refine x_callS hd hlk hm hct hR ⟨Nat.zero_le _, Nat.zero_le _⟩ hst hn hcat (fun r S' hq => ?_)
  obtain ⟨z, τ, rfl, rfl, hP⟩ := hq
  exact kk z τ hP
theorem z_callSNi {host : String} (hd : dok M.2.1 (pc, .invokestatic idx, 3, nx, tg)) (hlk : (M.1.cls, idx, K.1, host) ∈ nstq) (hm : msq K n) (hct : CI l G K d As σ P) (hR : d + 1 ≤ R.frames ∧ 8 + (K.2.2.1 + 11) + 40 * d ≤ R.locals) (hst : st = As.reverse ++ rest) (hn : As.length = n) (hcat : catq rest ≤ 8)
    (kk : ∀ z τ, P z τ → RunX l G M R nx L (vi z :: rest) (Wd τ) 0 0 Q) : RunX l G M R pc L st (Wd σ) 0 0 Q := by
  refine x_callSN hd hlk hm hct hR ⟨Nat.zero_le _, Nat.zero_le _⟩ hst hn hcat (fun r S' hq => ?_)
  obtain ⟨z, τ, rfl, rfl, hP⟩ := hq
  exact kk z τ hP
theorem z_iret {z : Int} (hd : dok M.2.1 (pc, .ireturn, 1, nx, tg)) (hok : rokq M.2.2.2 (some (vi z))) (hq : P z σ) : RunX l G M R pc L [vi z] (Wd σ) 0 0 (PI P) := x_iret hd hok ⟨z, σ, rfl, rfl, hq⟩
theorem z_vret (hd : dok M.2.1 (pc, .return_, 1, nx, tg)) (hok : rokq M.2.2.2 none) (hq : PP σ) : RunX l G M R pc L [] (Wd σ) 0 0 (PV PP) := x_vret hd hok (Nat.zero_le _) (Nat.zero_le _) ⟨σ, rfl, rfl, hq⟩
theorem CI.mono {P' : Int → (Nat → Int → Int) → Prop} (h : XI l G M d pc L st σ P) (hP : ∀ z τ, P z τ → P' z τ) : XI l G M d pc L st σ P' := RunX.mono h (fun r S' q => by
  obtain ⟨z, τ, a, b, c⟩ := q
  exact ⟨z, τ, a, b, hP z τ c⟩)
end XX
end
section
theorem ty_X0 : ∀ j, j < 3 → (fI 0 j = true → tyX0 j = .int) ∧ (fI 0 j = false → (∃ n, tyX0 j = .object n) ∨ ∃ t, tyX0 j = .array t) := by
  intro j hj
  match j with
  | 0 => exact ⟨fun h => (by cases h), fun _ => Or.inr ⟨_, rfl⟩⟩
  | 1 => exact ⟨fun h => (by cases h), fun _ => Or.inr ⟨_, rfl⟩⟩
  | 2 => exact ⟨fun _ => rfl, fun h => (by cases h)⟩
  | j + 3 => exact absurd hj (by omega)
theorem ty_X1 : ∀ j, j < 10 → (fI 1 j = true → tyX1 j = .int) ∧ (fI 1 j = false → (∃ n, tyX1 j = .object n) ∨ ∃ t, tyX1 j = .array t) := by
  intro j hj
  match j with
  | 0 => exact ⟨fun h => (by cases h), fun _ => Or.inr ⟨_, rfl⟩⟩
  | 1 => exact ⟨fun h => (by cases h), fun _ => Or.inr ⟨_, rfl⟩⟩
  | 2 => exact ⟨fun h => (by cases h), fun _ => Or.inr ⟨_, rfl⟩⟩
  | 3 => exact ⟨fun h => (by cases h), fun _ => Or.inr ⟨_, rfl⟩⟩
  | 4 => exact ⟨fun _ => rfl, fun h => (by cases h)⟩
  | 5 => exact ⟨fun h => (by cases h), fun _ => Or.inr ⟨_, rfl⟩⟩
  | 6 => exact ⟨fun h => (by cases h), fun _ => Or.inr ⟨_, rfl⟩⟩
  | 7 => exact ⟨fun h => (by cases h), fun _ => Or.inr ⟨_, rfl⟩⟩
  | 8 => exact ⟨fun h => (by cases h), fun _ => Or.inr ⟨_, rfl⟩⟩
  | 9 => exact ⟨fun _ => rfl, fun h => (by cases h)⟩
  | j + 10 => exact absurd hj (by omega)
theorem ty_X2 : ∀ j, j < 11 → (fI 2 j = true → tyX2 j = .int) ∧ (fI 2 j = false → (∃ n, tyX2 j = .object n) ∨ ∃ t, tyX2 j = .array t) := by
  intro j hj
  match j with
  | 0 => exact ⟨fun h => (by cases h), fun _ => Or.inr ⟨_, rfl⟩⟩
  | 1 => exact ⟨fun h => (by cases h), fun _ => Or.inr ⟨_, rfl⟩⟩
  | 2 => exact ⟨fun h => (by cases h), fun _ => Or.inr ⟨_, rfl⟩⟩
  | 3 => exact ⟨fun h => (by cases h), fun _ => Or.inr ⟨_, rfl⟩⟩
  | 4 => exact ⟨fun h => (by cases h), fun _ => Or.inr ⟨_, rfl⟩⟩
  | 5 => exact ⟨fun h => (by cases h), fun _ => Or.inr ⟨_, rfl⟩⟩
  | 6 => exact ⟨fun h => (by cases h), fun _ => Or.inr ⟨_, rfl⟩⟩
  | 7 => exact ⟨fun h => (by cases h), fun _ => Or.inr ⟨_, rfl⟩⟩
  | 8 => exact ⟨fun h => (by cases h), fun _ => Or.inr ⟨_, rfl⟩⟩
  | 9 => exact ⟨fun _ => rfl, fun h => (by cases h)⟩
  | 10 => exact ⟨fun _ => rfl, fun h => (by cases h)⟩
  | j + 11 => exact absurd hj (by omega)
theorem ty_X3 : ∀ j, j < 6 → (fI 3 j = true → tyX3 j = .int) ∧ (fI 3 j = false → (∃ n, tyX3 j = .object n) ∨ ∃ t, tyX3 j = .array t) := by
  intro j hj
  match j with
  | 0 => exact ⟨fun h => (by cases h), fun _ => Or.inr ⟨_, rfl⟩⟩
  | 1 => exact ⟨fun h => (by cases h), fun _ => Or.inr ⟨_, rfl⟩⟩
  | 2 => exact ⟨fun h => (by cases h), fun _ => Or.inr ⟨_, rfl⟩⟩
  | 3 => exact ⟨fun h => (by cases h), fun _ => Or.inr ⟨_, rfl⟩⟩
  | 4 => exact ⟨fun h => (by cases h), fun _ => Or.inr ⟨_, rfl⟩⟩
  | 5 => exact ⟨fun _ => rfl, fun h => (by cases h)⟩
  | j + 6 => exact absurd hj (by omega)
theorem ty_X4 : ∀ j, j < 7 → (fI 4 j = true → tyX4 j = .int) ∧ (fI 4 j = false → (∃ n, tyX4 j = .object n) ∨ ∃ t, tyX4 j = .array t) := by
  intro j hj
  match j with
  | 0 => exact ⟨fun h => (by cases h), fun _ => Or.inr ⟨_, rfl⟩⟩
  | 1 => exact ⟨fun h => (by cases h), fun _ => Or.inr ⟨_, rfl⟩⟩
  | 2 => exact ⟨fun _ => rfl, fun h => (by cases h)⟩
  | 3 => exact ⟨fun h => (by cases h), fun _ => Or.inr ⟨_, rfl⟩⟩
  | 4 => exact ⟨fun h => (by cases h), fun _ => Or.inr ⟨_, rfl⟩⟩
  | 5 => exact ⟨fun h => (by cases h), fun _ => Or.inr ⟨_, rfl⟩⟩
  | 6 => exact ⟨fun h => (by cases h), fun _ => Or.inr ⟨_, rfl⟩⟩
  | j + 7 => exact absurd hj (by omega)
theorem ty_X5 : ∀ j, j < 9 → (fI 5 j = true → tyX5 j = .int) ∧ (fI 5 j = false → (∃ n, tyX5 j = .object n) ∨ ∃ t, tyX5 j = .array t) := by
  intro j hj
  match j with
  | 0 => exact ⟨fun h => (by cases h), fun _ => Or.inr ⟨_, rfl⟩⟩
  | 1 => exact ⟨fun _ => rfl, fun h => (by cases h)⟩
  | 2 => exact ⟨fun h => (by cases h), fun _ => Or.inr ⟨_, rfl⟩⟩
  | 3 => exact ⟨fun h => (by cases h), fun _ => Or.inr ⟨_, rfl⟩⟩
  | 4 => exact ⟨fun _ => rfl, fun h => (by cases h)⟩
  | 5 => exact ⟨fun _ => rfl, fun h => (by cases h)⟩
  | 6 => exact ⟨fun _ => rfl, fun h => (by cases h)⟩
  | 7 => exact ⟨fun _ => rfl, fun h => (by cases h)⟩
  | 8 => exact ⟨fun _ => rfl, fun h => (by cases h)⟩
  | j + 9 => exact absurd hj (by omega)
theorem ty_X6 : ∀ j, j < 8 → (fI 6 j = true → tyX6 j = .int) ∧ (fI 6 j = false → (∃ n, tyX6 j = .object n) ∨ ∃ t, tyX6 j = .array t) := by
  intro j hj
  match j with
  | 0 => exact ⟨fun h => (by cases h), fun _ => Or.inr ⟨_, rfl⟩⟩
  | 1 => exact ⟨fun h => (by cases h), fun _ => Or.inr ⟨_, rfl⟩⟩
  | 2 => exact ⟨fun h => (by cases h), fun _ => Or.inr ⟨_, rfl⟩⟩
  | 3 => exact ⟨fun h => (by cases h), fun _ => Or.inr ⟨_, rfl⟩⟩
  | 4 => exact ⟨fun h => (by cases h), fun _ => Or.inr ⟨_, rfl⟩⟩
  | 5 => exact ⟨fun h => (by cases h), fun _ => Or.inr ⟨_, rfl⟩⟩
  | 6 => exact ⟨fun h => (by cases h), fun _ => Or.inr ⟨_, rfl⟩⟩
  | 7 => exact ⟨fun _ => rfl, fun h => (by cases h)⟩
  | j + 8 => exact absurd hj (by omega)
theorem ty_X7 : ∀ j, j < 16 → (fI 7 j = true → tyX7 j = .int) ∧ (fI 7 j = false → (∃ n, tyX7 j = .object n) ∨ ∃ t, tyX7 j = .array t) := by
  intro j hj
  match j with
  | 0 => exact ⟨fun h => (by cases h), fun _ => Or.inl ⟨_, rfl⟩⟩
  | 1 => exact ⟨fun h => (by cases h), fun _ => Or.inl ⟨_, rfl⟩⟩
  | 2 => exact ⟨fun h => (by cases h), fun _ => Or.inl ⟨_, rfl⟩⟩
  | 3 => exact ⟨fun h => (by cases h), fun _ => Or.inr ⟨_, rfl⟩⟩
  | 4 => exact ⟨fun h => (by cases h), fun _ => Or.inr ⟨_, rfl⟩⟩
  | 5 => exact ⟨fun h => (by cases h), fun _ => Or.inr ⟨_, rfl⟩⟩
  | 6 => exact ⟨fun h => (by cases h), fun _ => Or.inr ⟨_, rfl⟩⟩
  | 7 => exact ⟨fun h => (by cases h), fun _ => Or.inr ⟨_, rfl⟩⟩
  | 8 => exact ⟨fun h => (by cases h), fun _ => Or.inr ⟨_, rfl⟩⟩
  | 9 => exact ⟨fun h => (by cases h), fun _ => Or.inr ⟨_, rfl⟩⟩
  | 10 => exact ⟨fun h => (by cases h), fun _ => Or.inr ⟨_, rfl⟩⟩
  | 11 => exact ⟨fun h => (by cases h), fun _ => Or.inr ⟨_, rfl⟩⟩
  | 12 => exact ⟨fun h => (by cases h), fun _ => Or.inr ⟨_, rfl⟩⟩
  | 13 => exact ⟨fun h => (by cases h), fun _ => Or.inr ⟨_, rfl⟩⟩
  | 14 => exact ⟨fun h => (by cases h), fun _ => Or.inr ⟨_, rfl⟩⟩
  | 15 => exact ⟨fun _ => rfl, fun h => (by cases h)⟩
  | j + 16 => exact absurd hj (by omega)
theorem ty_X8 : ∀ j, j < 9 → (fI 8 j = true → tyX8 j = .int) ∧ (fI 8 j = false → (∃ n, tyX8 j = .object n) ∨ ∃ t, tyX8 j = .array t) := by
  intro j hj
  match j with
  | 0 => exact ⟨fun h => (by cases h), fun _ => Or.inr ⟨_, rfl⟩⟩
  | 1 => exact ⟨fun h => (by cases h), fun _ => Or.inr ⟨_, rfl⟩⟩
  | 2 => exact ⟨fun h => (by cases h), fun _ => Or.inr ⟨_, rfl⟩⟩
  | 3 => exact ⟨fun h => (by cases h), fun _ => Or.inr ⟨_, rfl⟩⟩
  | 4 => exact ⟨fun h => (by cases h), fun _ => Or.inr ⟨_, rfl⟩⟩
  | 5 => exact ⟨fun h => (by cases h), fun _ => Or.inr ⟨_, rfl⟩⟩
  | 6 => exact ⟨fun h => (by cases h), fun _ => Or.inr ⟨_, rfl⟩⟩
  | 7 => exact ⟨fun _ => rfl, fun h => (by cases h)⟩
  | 8 => exact ⟨fun _ => rfl, fun h => (by cases h)⟩
  | j + 9 => exact absurd hj (by omega)
theorem ty_X9 : ∀ j, j < 5 → (fI 9 j = true → tyX9 j = .int) ∧ (fI 9 j = false → (∃ n, tyX9 j = .object n) ∨ ∃ t, tyX9 j = .array t) := by
  intro j hj
  match j with
  | 0 => exact ⟨fun h => (by cases h), fun _ => Or.inr ⟨_, rfl⟩⟩
  | 1 => exact ⟨fun h => (by cases h), fun _ => Or.inr ⟨_, rfl⟩⟩
  | 2 => exact ⟨fun h => (by cases h), fun _ => Or.inr ⟨_, rfl⟩⟩
  | 3 => exact ⟨fun h => (by cases h), fun _ => Or.inr ⟨_, rfl⟩⟩
  | 4 => exact ⟨fun _ => rfl, fun h => (by cases h)⟩
  | j + 5 => exact absurd hj (by omega)
theorem ty_X10 : ∀ j, j < 15 → (fI 10 j = true → tyX10 j = .int) ∧ (fI 10 j = false → (∃ n, tyX10 j = .object n) ∨ ∃ t, tyX10 j = .array t) := by
  intro j hj
  match j with
  | 0 => exact ⟨fun _ => rfl, fun h => (by cases h)⟩
  | 1 => exact ⟨fun h => (by cases h), fun _ => Or.inl ⟨_, rfl⟩⟩
  | 2 => exact ⟨fun h => (by cases h), fun _ => Or.inl ⟨_, rfl⟩⟩
  | 3 => exact ⟨fun h => (by cases h), fun _ => Or.inl ⟨_, rfl⟩⟩
  | 4 => exact ⟨fun h => (by cases h), fun _ => Or.inl ⟨_, rfl⟩⟩
  | 5 => exact ⟨fun h => (by cases h), fun _ => Or.inl ⟨_, rfl⟩⟩
  | 6 => exact ⟨fun h => (by cases h), fun _ => Or.inl ⟨_, rfl⟩⟩
  | 7 => exact ⟨fun h => (by cases h), fun _ => Or.inl ⟨_, rfl⟩⟩
  | 8 => exact ⟨fun h => (by cases h), fun _ => Or.inl ⟨_, rfl⟩⟩
  | 9 => exact ⟨fun h => (by cases h), fun _ => Or.inr ⟨_, rfl⟩⟩
  | 10 => exact ⟨fun h => (by cases h), fun _ => Or.inl ⟨_, rfl⟩⟩
  | 11 => exact ⟨fun h => (by cases h), fun _ => Or.inl ⟨_, rfl⟩⟩
  | 12 => exact ⟨fun h => (by cases h), fun _ => Or.inr ⟨_, rfl⟩⟩
  | 13 => exact ⟨fun h => (by cases h), fun _ => Or.inr ⟨_, rfl⟩⟩
  | 14 => exact ⟨fun h => (by cases h), fun _ => Or.inl ⟨_, rfl⟩⟩
  | j + 15 => exact absurd hj (by omega)
theorem ty_X11 : ∀ j, j < 79 → (fI 11 j = true → tyX11 j = .int) ∧ (fI 11 j = false → (∃ n, tyX11 j = .object n) ∨ ∃ t, tyX11 j = .array t) := by
  intro j hj
  match j with
  | 0 => exact ⟨fun _ => rfl, fun h => (by cases h)⟩
  | 1 => exact ⟨fun _ => rfl, fun h => (by cases h)⟩
  | 2 => exact ⟨fun h => (by cases h), fun _ => Or.inr ⟨_, rfl⟩⟩
  | 3 => exact ⟨fun h => (by cases h), fun _ => Or.inr ⟨_, rfl⟩⟩
  | 4 => exact ⟨fun h => (by cases h), fun _ => Or.inr ⟨_, rfl⟩⟩
  | 5 => exact ⟨fun h => (by cases h), fun _ => Or.inr ⟨_, rfl⟩⟩
  | 6 => exact ⟨fun h => (by cases h), fun _ => Or.inr ⟨_, rfl⟩⟩
  | 7 => exact ⟨fun h => (by cases h), fun _ => Or.inr ⟨_, rfl⟩⟩
  | 8 => exact ⟨fun h => (by cases h), fun _ => Or.inr ⟨_, rfl⟩⟩
  | 9 => exact ⟨fun _ => rfl, fun h => (by cases h)⟩
  | 10 => exact ⟨fun h => (by cases h), fun _ => Or.inr ⟨_, rfl⟩⟩
  | 11 => exact ⟨fun h => (by cases h), fun _ => Or.inr ⟨_, rfl⟩⟩
  | 12 => exact ⟨fun h => (by cases h), fun _ => Or.inr ⟨_, rfl⟩⟩
  | 13 => exact ⟨fun h => (by cases h), fun _ => Or.inr ⟨_, rfl⟩⟩
  | 14 => exact ⟨fun h => (by cases h), fun _ => Or.inr ⟨_, rfl⟩⟩
  | 15 => exact ⟨fun h => (by cases h), fun _ => Or.inr ⟨_, rfl⟩⟩
  | 16 => exact ⟨fun h => (by cases h), fun _ => Or.inr ⟨_, rfl⟩⟩
  | 17 => exact ⟨fun h => (by cases h), fun _ => Or.inr ⟨_, rfl⟩⟩
  | 18 => exact ⟨fun h => (by cases h), fun _ => Or.inr ⟨_, rfl⟩⟩
  | 19 => exact ⟨fun h => (by cases h), fun _ => Or.inr ⟨_, rfl⟩⟩
  | 20 => exact ⟨fun h => (by cases h), fun _ => Or.inr ⟨_, rfl⟩⟩
  | 21 => exact ⟨fun _ => rfl, fun h => (by cases h)⟩
  | 22 => exact ⟨fun _ => rfl, fun h => (by cases h)⟩
  | 23 => exact ⟨fun h => (by cases h), fun _ => Or.inr ⟨_, rfl⟩⟩
  | 24 => exact ⟨fun h => (by cases h), fun _ => Or.inr ⟨_, rfl⟩⟩
  | 25 => exact ⟨fun h => (by cases h), fun _ => Or.inr ⟨_, rfl⟩⟩
  | 26 => exact ⟨fun h => (by cases h), fun _ => Or.inr ⟨_, rfl⟩⟩
  | 27 => exact ⟨fun h => (by cases h), fun _ => Or.inr ⟨_, rfl⟩⟩
  | 28 => exact ⟨fun h => (by cases h), fun _ => Or.inr ⟨_, rfl⟩⟩
  | 29 => exact ⟨fun _ => rfl, fun h => (by cases h)⟩
  | 30 => exact ⟨fun _ => rfl, fun h => (by cases h)⟩
  | 31 => exact ⟨fun _ => rfl, fun h => (by cases h)⟩
  | 32 => exact ⟨fun _ => rfl, fun h => (by cases h)⟩
  | 33 => exact ⟨fun _ => rfl, fun h => (by cases h)⟩
  | 34 => exact ⟨fun _ => rfl, fun h => (by cases h)⟩
  | 35 => exact ⟨fun h => (by cases h), fun _ => Or.inr ⟨_, rfl⟩⟩
  | 36 => exact ⟨fun h => (by cases h), fun _ => Or.inr ⟨_, rfl⟩⟩
  | 37 => exact ⟨fun h => (by cases h), fun _ => Or.inr ⟨_, rfl⟩⟩
  | 38 => exact ⟨fun _ => rfl, fun h => (by cases h)⟩
  | 39 => exact ⟨fun _ => rfl, fun h => (by cases h)⟩
  | 40 => exact ⟨fun h => (by cases h), fun _ => Or.inr ⟨_, rfl⟩⟩
  | 41 => exact ⟨fun h => (by cases h), fun _ => Or.inr ⟨_, rfl⟩⟩
  | 42 => exact ⟨fun h => (by cases h), fun _ => Or.inr ⟨_, rfl⟩⟩
  | 43 => exact ⟨fun h => (by cases h), fun _ => Or.inr ⟨_, rfl⟩⟩
  | 44 => exact ⟨fun h => (by cases h), fun _ => Or.inr ⟨_, rfl⟩⟩
  | 45 => exact ⟨fun h => (by cases h), fun _ => Or.inr ⟨_, rfl⟩⟩
  | 46 => exact ⟨fun h => (by cases h), fun _ => Or.inr ⟨_, rfl⟩⟩
  | 47 => exact ⟨fun h => (by cases h), fun _ => Or.inr ⟨_, rfl⟩⟩
  | 48 => exact ⟨fun h => (by cases h), fun _ => Or.inr ⟨_, rfl⟩⟩
  | 49 => exact ⟨fun h => (by cases h), fun _ => Or.inr ⟨_, rfl⟩⟩
  | 50 => exact ⟨fun h => (by cases h), fun _ => Or.inr ⟨_, rfl⟩⟩
  | 51 => exact ⟨fun _ => rfl, fun h => (by cases h)⟩
  | 52 => exact ⟨fun h => (by cases h), fun _ => Or.inr ⟨_, rfl⟩⟩
  | 53 => exact ⟨fun h => (by cases h), fun _ => Or.inr ⟨_, rfl⟩⟩
  | 54 => exact ⟨fun _ => rfl, fun h => (by cases h)⟩
  | 55 => exact ⟨fun h => (by cases h), fun _ => Or.inr ⟨_, rfl⟩⟩
  | 56 => exact ⟨fun h => (by cases h), fun _ => Or.inr ⟨_, rfl⟩⟩
  | 57 => exact ⟨fun h => (by cases h), fun _ => Or.inr ⟨_, rfl⟩⟩
  | 58 => exact ⟨fun h => (by cases h), fun _ => Or.inr ⟨_, rfl⟩⟩
  | 59 => exact ⟨fun h => (by cases h), fun _ => Or.inr ⟨_, rfl⟩⟩
  | 60 => exact ⟨fun _ => rfl, fun h => (by cases h)⟩
  | 61 => exact ⟨fun h => (by cases h), fun _ => Or.inr ⟨_, rfl⟩⟩
  | 62 => exact ⟨fun h => (by cases h), fun _ => Or.inr ⟨_, rfl⟩⟩
  | 63 => exact ⟨fun _ => rfl, fun h => (by cases h)⟩
  | 64 => exact ⟨fun h => (by cases h), fun _ => Or.inr ⟨_, rfl⟩⟩
  | 65 => exact ⟨fun h => (by cases h), fun _ => Or.inr ⟨_, rfl⟩⟩
  | 66 => exact ⟨fun h => (by cases h), fun _ => Or.inr ⟨_, rfl⟩⟩
  | 67 => exact ⟨fun h => (by cases h), fun _ => Or.inr ⟨_, rfl⟩⟩
  | 68 => exact ⟨fun h => (by cases h), fun _ => Or.inr ⟨_, rfl⟩⟩
  | 69 => exact ⟨fun h => (by cases h), fun _ => Or.inr ⟨_, rfl⟩⟩
  | 70 => exact ⟨fun _ => rfl, fun h => (by cases h)⟩
  | 71 => exact ⟨fun h => (by cases h), fun _ => Or.inr ⟨_, rfl⟩⟩
  | 72 => exact ⟨fun h => (by cases h), fun _ => Or.inr ⟨_, rfl⟩⟩
  | 73 => exact ⟨fun h => (by cases h), fun _ => Or.inr ⟨_, rfl⟩⟩
  | 74 => exact ⟨fun h => (by cases h), fun _ => Or.inr ⟨_, rfl⟩⟩
  | 75 => exact ⟨fun _ => rfl, fun h => (by cases h)⟩
  | 76 => exact ⟨fun h => (by cases h), fun _ => Or.inr ⟨_, rfl⟩⟩
  | 77 => exact ⟨fun h => (by cases h), fun _ => Or.inr ⟨_, rfl⟩⟩
  | 78 => exact ⟨fun h => (by cases h), fun _ => Or.inr ⟨_, rfl⟩⟩
  | j + 79 => exact absurd hj (by omega)
set_option maxRecDepth 100000 in
theorem ct_1 (l : Launch) (G : GC) (ρ : Nat → Int → Option Nat) (σ : Nat → Int → Int) (hz : ∀ a, 2 ≤ a → a < 7 → σ a = fun _ => 0) : Ct l G M_X3_init 1 5 60 [vr 1] (2, ρ, σ) (fun r S1 => r = none ∧ S1 = (7, upq (upq (upq (upq (upq (ρ) 1 0 (some 2)) 1 1 (some 3)) 1 2 (some 4)) 1 3 (some 5)) 1 4 (some 6), σ)) := by
  refine Ct.of rfl (by decide) ?_
  refine x_aload_n (E_X3_init_0 0 rfl) rfl ?_
  refine x_objinit (E_X3_init_0 1 rfl) ml_X3_3 oi_2 oi_3 (by decide) ?_
  refine x_aload_n (E_X3_init_0 2 rfl) rfl ?_
  refine x_bipush (z := 12) (E_X3_init_0 3 rfl) (by decide) ?_
  refine y_newa (n1 := 3) (ca1 := 1) (sl1 := 12) (E_X3_init_0 4 rfl) rfl (Or.inl ⟨rfl, rfl⟩) ac_int rfl (by decide) rfl (by decide) rfl rfl rfl (by decide) (hz 2 (by decide) (by decide)) ?_
  refine x_putR (E_X3_init_0 5 rfl) fl_X3_9 rfl (by decide) rfl rfl ?_
  refine x_aload_n (E_X3_init_0 6 rfl) rfl ?_
  refine x_bipush (z := 12) (E_X3_init_0 7 rfl) (by decide) ?_
  refine y_newa (n1 := 4) (ca1 := 2) (sl1 := 24) (E_X3_init_0 8 rfl) rfl (Or.inl ⟨rfl, rfl⟩) ac_int rfl (by decide) rfl (by decide) rfl rfl rfl (by decide) (hz 3 (by decide) (by decide)) ?_
  refine x_putR (E_X3_init_0 9 rfl) fl_X3_15 rfl (by decide) rfl rfl ?_
  refine x_aload_n (E_X3_init_0 10 rfl) rfl ?_
  refine x_bipush (z := 12) (E_X3_init_0 11 rfl) (by decide) ?_
  refine y_newa (n1 := 5) (ca1 := 3) (sl1 := 36) (E_X3_init_0 12 rfl) rfl (Or.inl ⟨rfl, rfl⟩) ac_int rfl (by decide) rfl (by decide) rfl rfl rfl (by decide) (hz 4 (by decide) (by decide)) ?_
  refine x_putR (E_X3_init_0 13 rfl) fl_X3_18 rfl (by decide) rfl rfl ?_
  refine x_aload_n (E_X3_init_0 14 rfl) rfl ?_
  refine x_bipush (z := 12) (E_X3_init_0 15 rfl) (by decide) ?_
  refine y_newa (n1 := 6) (ca1 := 4) (sl1 := 48) (E_X3_init_0 16 rfl) rfl (Or.inl ⟨rfl, rfl⟩) ac_int rfl (by decide) rfl (by decide) rfl rfl rfl (by decide) (hz 5 (by decide) (by decide)) ?_
  refine x_putR (E_X3_init_0 17 rfl) fl_X3_21 rfl (by decide) rfl rfl ?_
  refine x_aload_n (E_X3_init_0 18 rfl) rfl ?_
  refine x_bipush (z := 12) (E_X3_init_0 19 rfl) (by decide) ?_
  refine y_newa (n1 := 7) (ca1 := 5) (sl1 := 60) (E_X3_init_0 20 rfl) rfl (Or.inl ⟨rfl, rfl⟩) ac_int rfl (by decide) rfl (by decide) rfl rfl rfl (by decide) (hz 6 (by decide) (by decide)) ?_
  refine x_putR (E_X3_init_0 21 rfl) fl_X3_24 rfl (by decide) rfl rfl ?_
  refine x_vret (E_X3_init_0 22 rfl) trivial (by decide) (by decide) ⟨rfl, rfl⟩
set_option maxRecDepth 100000 in
theorem ct_7 (l : Launch) (G : GC) (ρ : Nat → Int → Option Nat) (σ : Nat → Int → Int) (hz : ∀ a, 8 ≤ a → a < 17 → σ a = fun _ => 0) : Ct l G M_X2_init 1 9 1080 [vr 7] (8, ρ, σ) (fun r S1 => r = none ∧ S1 = (17, upq (upq (upq (upq (upq (upq (upq (upq (upq (ρ) 7 0 (some 8)) 7 1 (some 9)) 7 2 (some 10)) 7 3 (some 11)) 7 4 (some 12)) 7 5 (some 13)) 7 6 (some 14)) 7 7 (some 15)) 7 8 (some 16), σ)) := by
  refine Ct.of rfl (by decide) ?_
  refine x_aload_n (E_X2_init_0 0 rfl) rfl ?_
  refine x_objinit (E_X2_init_0 1 rfl) ml_X2_3 oi_2 oi_3 (by decide) ?_
  refine x_aload_n (E_X2_init_0 2 rfl) rfl ?_
  refine x_bipush (z := 120) (E_X2_init_0 3 rfl) (by decide) ?_
  refine y_newa (n1 := 9) (ca1 := 1) (sl1 := 120) (E_X2_init_0 4 rfl) rfl (Or.inl ⟨rfl, rfl⟩) ac_int rfl (by decide) rfl (by decide) rfl rfl rfl (by decide) (hz 8 (by decide) (by decide)) ?_
  refine x_putR (E_X2_init_0 5 rfl) fl_X2_9 rfl (by decide) rfl rfl ?_
  refine x_aload_n (E_X2_init_0 6 rfl) rfl ?_
  refine x_bipush (z := 120) (E_X2_init_0 7 rfl) (by decide) ?_
  refine y_newa (n1 := 10) (ca1 := 2) (sl1 := 240) (E_X2_init_0 8 rfl) rfl (Or.inl ⟨rfl, rfl⟩) ac_int rfl (by decide) rfl (by decide) rfl rfl rfl (by decide) (hz 9 (by decide) (by decide)) ?_
  refine x_putR (E_X2_init_0 9 rfl) fl_X2_15 rfl (by decide) rfl rfl ?_
  refine x_aload_n (E_X2_init_0 10 rfl) rfl ?_
  refine x_bipush (z := 120) (E_X2_init_0 11 rfl) (by decide) ?_
  refine y_newa (n1 := 11) (ca1 := 3) (sl1 := 360) (E_X2_init_0 12 rfl) rfl (Or.inl ⟨rfl, rfl⟩) ac_int rfl (by decide) rfl (by decide) rfl rfl rfl (by decide) (hz 10 (by decide) (by decide)) ?_
  refine x_putR (E_X2_init_0 13 rfl) fl_X2_18 rfl (by decide) rfl rfl ?_
  refine x_aload_n (E_X2_init_0 14 rfl) rfl ?_
  refine x_bipush (z := 120) (E_X2_init_0 15 rfl) (by decide) ?_
  refine y_newa (n1 := 12) (ca1 := 4) (sl1 := 480) (E_X2_init_0 16 rfl) rfl (Or.inl ⟨rfl, rfl⟩) ac_int rfl (by decide) rfl (by decide) rfl rfl rfl (by decide) (hz 11 (by decide) (by decide)) ?_
  refine x_putR (E_X2_init_0 17 rfl) fl_X2_21 rfl (by decide) rfl rfl ?_
  refine x_aload_n (E_X2_init_0 18 rfl) rfl ?_
  refine x_bipush (z := 120) (E_X2_init_0 19 rfl) (by decide) ?_
  refine y_newa (n1 := 13) (ca1 := 5) (sl1 := 600) (E_X2_init_0 20 rfl) rfl (Or.inl ⟨rfl, rfl⟩) ac_int rfl (by decide) rfl (by decide) rfl rfl rfl (by decide) (hz 12 (by decide) (by decide)) ?_
  refine x_putR (E_X2_init_0 21 rfl) fl_X2_24 rfl (by decide) rfl rfl ?_
  refine x_aload_n (E_X2_init_0 22 rfl) rfl ?_
  refine x_bipush (z := 120) (E_X2_init_0 23 rfl) (by decide) ?_
  refine y_newa (n1 := 14) (ca1 := 6) (sl1 := 720) (E_X2_init_0 24 rfl) rfl (Or.inl ⟨rfl, rfl⟩) ac_int rfl (by decide) rfl (by decide) rfl rfl rfl (by decide) (hz 13 (by decide) (by decide)) ?_
  refine x_putR (E_X2_init_0 25 rfl) fl_X2_27 rfl (by decide) rfl rfl ?_
  refine x_aload_n (E_X2_init_0 26 rfl) rfl ?_
  refine x_bipush (z := 120) (E_X2_init_0 27 rfl) (by decide) ?_
  refine y_newa (n1 := 15) (ca1 := 7) (sl1 := 840) (E_X2_init_0 28 rfl) rfl (Or.inl ⟨rfl, rfl⟩) ac_int rfl (by decide) rfl (by decide) rfl rfl rfl (by decide) (hz 14 (by decide) (by decide)) ?_
  refine x_putR (E_X2_init_0 29 rfl) fl_X2_30 rfl (by decide) rfl rfl ?_
  refine x_aload_n (E_X2_init_0 30 rfl) rfl ?_
  refine x_bipush (z := 120) (E_X2_init_0 31 rfl) (by decide) ?_
  refine y_newa (n1 := 16) (ca1 := 8) (sl1 := 960) (E_X2_init_0 32 rfl) rfl (Or.inl ⟨rfl, rfl⟩) ac_int rfl (by decide) rfl (by decide) rfl rfl rfl (by decide) (hz 15 (by decide) (by decide)) ?_
  refine x_putR (E_X2_init_0 33 rfl) fl_X2_33 rfl (by decide) rfl rfl ?_
  refine x_aload_n (E_X2_init_0 34 rfl) rfl ?_
  refine x_bipush (z := 120) (E_X2_init_0 35 rfl) (by decide) ?_
  refine y_newa (n1 := 17) (ca1 := 9) (sl1 := 1080) (E_X2_init_0 36 rfl) rfl (Or.inr (Or.inl ⟨rfl, rfl⟩)) ac_boolean rfl (by decide) rfl (by decide) rfl rfl rfl (by decide) (hz 16 (by decide) (by decide)) ?_
  refine x_putR (E_X2_init_0 37 rfl) fl_X2_36 rfl (by decide) rfl rfl ?_
  refine x_vret (E_X2_init_0 38 rfl) trivial (by decide) (by decide) ⟨rfl, rfl⟩
set_option maxRecDepth 100000 in
theorem ct_17 (l : Launch) (G : GC) (ρ : Nat → Int → Option Nat) (σ : Nat → Int → Int) (hz : ∀ a, 18 ≤ a → a < 41 → σ a = fun _ => 0) : Ct l G M_X8_init 1 23 218 [vr 17] (18, ρ, σ) (fun r S1 => r = none ∧ S1 = (41, upq (upq (upq (upq (rwq (upq (rwq (upq (upq (ρ) 17 0 (some 18)) 17 1 (some 19)) 20) 17 2 (some 20)) 29) 17 3 (some 29)) 17 4 (some 38)) 17 5 (some 39)) 17 6 (some 40), upq (σ) 17 7 (-1))) := by
  refine Ct.of rfl (by decide) ?_
  refine x_aload_n (E_X8_init_0 0 rfl) rfl ?_
  refine x_objinit (E_X8_init_0 1 rfl) ml_X8_3 oi_2 oi_3 (by decide) ?_
  refine x_aload_n (E_X8_init_0 2 rfl) rfl ?_
  refine x_bipush (z := 8) (E_X8_init_0 3 rfl) (by decide) ?_
  refine y_newa (n1 := 19) (ca1 := 1) (sl1 := 8) (E_X8_init_0 4 rfl) rfl (Or.inl ⟨rfl, rfl⟩) ac_int rfl (by decide) rfl (by decide) rfl rfl rfl (by decide) (hz 18 (by decide) (by decide)) ?_
  refine x_putR (E_X8_init_0 5 rfl) fl_X8_11 rfl (by decide) rfl rfl ?_
  refine x_aload_n (E_X8_init_0 6 rfl) rfl ?_
  refine x_bipush (z := 8) (E_X8_init_0 7 rfl) (by decide) ?_
  refine y_newa (n1 := 20) (ca1 := 2) (sl1 := 16) (E_X8_init_0 8 rfl) rfl (Or.inl ⟨rfl, rfl⟩) ac_int rfl (by decide) rfl (by decide) rfl rfl rfl (by decide) (hz 19 (by decide) (by decide)) ?_
  refine x_putR (E_X8_init_0 9 rfl) fl_X8_15 rfl (by decide) rfl rfl ?_
  refine x_aload_n (E_X8_init_0 10 rfl) rfl ?_
  refine x_bipush (z := 8) (E_X8_init_0 11 rfl) (by decide) ?_
  refine x_bipush (z := 10) (E_X8_init_0 12 rfl) (by decide) ?_
  refine y_mna (K := 10) (n1 := 29) (ca1 := 11) (sl1 := 104) (E_X8_init_0 13 rfl) cl_X8_20 ac_int rfl rfl (by decide) rfl (by decide) (by decide) rfl rfl rfl (by decide) (fun a h1 h2 => hz a (Nat.le_trans (by decide) h1) (Nat.lt_of_lt_of_le h2 (by decide))) ?_
  refine x_putR (E_X8_init_0 14 rfl) fl_X8_22 rfl (by decide) rfl rfl ?_
  refine x_aload_n (E_X8_init_0 15 rfl) rfl ?_
  refine x_bipush (z := 8) (E_X8_init_0 16 rfl) (by decide) ?_
  refine x_bipush (z := 10) (E_X8_init_0 17 rfl) (by decide) ?_
  refine y_mna (K := 10) (n1 := 38) (ca1 := 20) (sl1 := 192) (E_X8_init_0 18 rfl) cl_X8_20 ac_int rfl rfl (by decide) rfl (by decide) (by decide) rfl rfl rfl (by decide) (fun a h1 h2 => hz a (Nat.le_trans (by decide) h1) (Nat.lt_of_lt_of_le h2 (by decide))) ?_
  refine x_putR (E_X8_init_0 19 rfl) fl_X8_25 rfl (by decide) rfl rfl ?_
  refine x_aload_n (E_X8_init_0 20 rfl) rfl ?_
  refine x_bipush (z := 8) (E_X8_init_0 21 rfl) (by decide) ?_
  refine y_newa (n1 := 39) (ca1 := 21) (sl1 := 200) (E_X8_init_0 22 rfl) rfl (Or.inl ⟨rfl, rfl⟩) ac_int rfl (by decide) rfl (by decide) rfl rfl rfl (by decide) (hz 38 (by decide) (by decide)) ?_
  refine x_putR (E_X8_init_0 23 rfl) fl_X8_28 rfl (by decide) rfl rfl ?_
  refine x_aload_n (E_X8_init_0 24 rfl) rfl ?_
  refine x_bipush (z := 8) (E_X8_init_0 25 rfl) (by decide) ?_
  refine y_newa (n1 := 40) (ca1 := 22) (sl1 := 208) (E_X8_init_0 26 rfl) rfl (Or.inr (Or.inl ⟨rfl, rfl⟩)) ac_boolean rfl (by decide) rfl (by decide) rfl rfl rfl (by decide) (hz 39 (by decide) (by decide)) ?_
  refine x_putR (E_X8_init_0 27 rfl) fl_X8_31 rfl (by decide) rfl rfl ?_
  refine x_aload_n (E_X8_init_0 28 rfl) rfl ?_
  refine x_bipush (z := 10) (E_X8_init_0 29 rfl) (by decide) ?_
  refine y_newa (n1 := 41) (ca1 := 23) (sl1 := 218) (E_X8_init_0 30 rfl) rfl (Or.inl ⟨rfl, rfl⟩) ac_int rfl (by decide) rfl (by decide) rfl rfl rfl (by decide) (hz 40 (by decide) (by decide)) ?_
  refine x_putR (E_X8_init_0 31 rfl) fl_X8_35 rfl (by decide) rfl rfl ?_
  refine x_aload_n (E_X8_init_0 32 rfl) rfl ?_
  refine x_iconst (E_X8_init_0 33 rfl) ?_
  refine x_putI (E_X8_init_0 34 rfl) fl_X8_38 rfl (by decide) ?_
  refine x_vret (E_X8_init_0 35 rfl) trivial (by decide) (by decide) ⟨rfl, rfl⟩
set_option maxRecDepth 100000 in
theorem ct_41 (l : Launch) (G : GC) (ρ : Nat → Int → Option Nat) (σ : Nat → Int → Int) (hz : ∀ a, 42 ≤ a → a < 45 → σ a = fun _ => 0) : Ct l G M_X5_init 1 3 180 [vr 41] (42, ρ, σ) (fun r S1 => r = none ∧ S1 = (45, upq (upq (upq (ρ) 41 0 (some 42)) 41 2 (some 43)) 41 3 (some 44), upq (σ) 41 6 (-1))) := by
  refine Ct.of rfl (by decide) ?_
  refine x_aload_n (E_X5_init_0 0 rfl) rfl ?_
  refine x_objinit (E_X5_init_0 1 rfl) ml_X5_3 oi_2 oi_3 (by decide) ?_
  refine x_aload_n (E_X5_init_0 2 rfl) rfl ?_
  refine x_sipush (z := 160) (E_X5_init_0 3 rfl) (by decide) ?_
  refine y_newa (n1 := 43) (ca1 := 1) (sl1 := 160) (E_X5_init_0 4 rfl) rfl (Or.inl ⟨rfl, rfl⟩) ac_int rfl (by decide) rfl (by decide) rfl rfl rfl (by decide) (hz 42 (by decide) (by decide)) ?_
  refine x_putR (E_X5_init_0 5 rfl) fl_X5_11 rfl (by decide) rfl rfl ?_
  refine x_aload_n (E_X5_init_0 6 rfl) rfl ?_
  refine x_bipush (z := 10) (E_X5_init_0 7 rfl) (by decide) ?_
  refine y_newa (n1 := 44) (ca1 := 2) (sl1 := 170) (E_X5_init_0 8 rfl) rfl (Or.inl ⟨rfl, rfl⟩) ac_int rfl (by decide) rfl (by decide) rfl rfl rfl (by decide) (hz 43 (by decide) (by decide)) ?_
  refine x_putR (E_X5_init_0 9 rfl) fl_X5_15 rfl (by decide) rfl rfl ?_
  refine x_aload_n (E_X5_init_0 10 rfl) rfl ?_
  refine x_bipush (z := 10) (E_X5_init_0 11 rfl) (by decide) ?_
  refine y_newa (n1 := 45) (ca1 := 3) (sl1 := 180) (E_X5_init_0 12 rfl) rfl (Or.inl ⟨rfl, rfl⟩) ac_int rfl (by decide) rfl (by decide) rfl rfl rfl (by decide) (hz 44 (by decide) (by decide)) ?_
  refine x_putR (E_X5_init_0 13 rfl) fl_X5_18 rfl (by decide) rfl rfl ?_
  refine x_aload_n (E_X5_init_0 14 rfl) rfl ?_
  refine x_iconst (E_X5_init_0 15 rfl) ?_
  refine x_putI (E_X5_init_0 16 rfl) fl_X5_21 rfl (by decide) ?_
  refine x_vret (E_X5_init_0 17 rfl) trivial (by decide) (by decide) ⟨rfl, rfl⟩
set_option maxRecDepth 100000 in
theorem ct_45 (l : Launch) (G : GC) (ρ : Nat → Int → Option Nat) (σ : Nat → Int → Int) (hz : ∀ a, 46 ≤ a → a < 58 → σ a = fun _ => 0) : Ct l G M_X7_init 1 12 1116 [vr 45, vr 1, vr 7, vr 17] (46, ρ, σ) (fun r S1 => r = none ∧ S1 = (58, upq (upq (upq (upq (upq (upq (upq (upq (upq (upq (upq (upq (upq (upq (upq (ρ) 45 3 (some 46)) 45 4 (some 47)) 45 5 (some 48)) 45 6 (some 49)) 45 7 (some 50)) 45 8 (some 51)) 45 9 (some 52)) 45 10 (some 53)) 45 11 (some 54)) 45 12 (some 55)) 45 13 (some 56)) 45 14 (some 57)) 45 0 (some 1)) 45 1 (some 7)) 45 2 (some 17), σ)) := by
  refine Ct.of rfl (by decide) ?_
  refine x_aload_n (E_X7_init_0 0 rfl) rfl ?_
  refine x_objinit (E_X7_init_0 1 rfl) ml_X7_3 oi_2 oi_3 (by decide) ?_
  refine x_aload_n (E_X7_init_0 2 rfl) rfl ?_
  refine x_bipush (z := 120) (E_X7_init_0 3 rfl) (by decide) ?_
  refine y_newa (n1 := 47) (ca1 := 1) (sl1 := 120) (E_X7_init_0 4 rfl) rfl (Or.inr (Or.inl ⟨rfl, rfl⟩)) ac_boolean rfl (by decide) rfl (by decide) rfl rfl rfl (by decide) (hz 46 (by decide) (by decide)) ?_
  refine x_putR (E_X7_init_0 5 rfl) fl_X7_9 rfl (by decide) rfl rfl ?_
  refine x_aload_n (E_X7_init_0 6 rfl) rfl ?_
  refine x_bipush (z := 120) (E_X7_init_0 7 rfl) (by decide) ?_
  refine y_newa (n1 := 48) (ca1 := 2) (sl1 := 240) (E_X7_init_0 8 rfl) rfl (Or.inr (Or.inl ⟨rfl, rfl⟩)) ac_boolean rfl (by decide) rfl (by decide) rfl rfl rfl (by decide) (hz 47 (by decide) (by decide)) ?_
  refine x_putR (E_X7_init_0 9 rfl) fl_X7_15 rfl (by decide) rfl rfl ?_
  refine x_aload_n (E_X7_init_0 10 rfl) rfl ?_
  refine x_bipush (z := 120) (E_X7_init_0 11 rfl) (by decide) ?_
  refine y_newa (n1 := 49) (ca1 := 3) (sl1 := 360) (E_X7_init_0 12 rfl) rfl (Or.inl ⟨rfl, rfl⟩) ac_int rfl (by decide) rfl (by decide) rfl rfl rfl (by decide) (hz 48 (by decide) (by decide)) ?_
  refine x_putR (E_X7_init_0 13 rfl) fl_X7_18 rfl (by decide) rfl rfl ?_
  refine x_aload_n (E_X7_init_0 14 rfl) rfl ?_
  refine x_bipush (z := 120) (E_X7_init_0 15 rfl) (by decide) ?_
  refine y_newa (n1 := 50) (ca1 := 4) (sl1 := 480) (E_X7_init_0 16 rfl) rfl (Or.inl ⟨rfl, rfl⟩) ac_int rfl (by decide) rfl (by decide) rfl rfl rfl (by decide) (hz 49 (by decide) (by decide)) ?_
  refine x_putR (E_X7_init_0 17 rfl) fl_X7_22 rfl (by decide) rfl rfl ?_
  refine x_aload_n (E_X7_init_0 18 rfl) rfl ?_
  refine x_bipush (z := 120) (E_X7_init_0 19 rfl) (by decide) ?_
  refine y_newa (n1 := 51) (ca1 := 5) (sl1 := 600) (E_X7_init_0 20 rfl) rfl (Or.inl ⟨rfl, rfl⟩) ac_int rfl (by decide) rfl (by decide) rfl rfl rfl (by decide) (hz 50 (by decide) (by decide)) ?_
  refine x_putR (E_X7_init_0 21 rfl) fl_X7_25 rfl (by decide) rfl rfl ?_
  refine x_aload_n (E_X7_init_0 22 rfl) rfl ?_
  refine x_bipush (z := 120) (E_X7_init_0 23 rfl) (by decide) ?_
  refine y_newa (n1 := 52) (ca1 := 6) (sl1 := 720) (E_X7_init_0 24 rfl) rfl (Or.inl ⟨rfl, rfl⟩) ac_int rfl (by decide) rfl (by decide) rfl rfl rfl (by decide) (hz 51 (by decide) (by decide)) ?_
  refine x_putR (E_X7_init_0 25 rfl) fl_X7_28 rfl (by decide) rfl rfl ?_
  refine x_aload_n (E_X7_init_0 26 rfl) rfl ?_
  refine x_bipush (z := 120) (E_X7_init_0 27 rfl) (by decide) ?_
  refine y_newa (n1 := 53) (ca1 := 7) (sl1 := 840) (E_X7_init_0 28 rfl) rfl (Or.inl ⟨rfl, rfl⟩) ac_int rfl (by decide) rfl (by decide) rfl rfl rfl (by decide) (hz 52 (by decide) (by decide)) ?_
  refine x_putR (E_X7_init_0 29 rfl) fl_X7_31 rfl (by decide) rfl rfl ?_
  refine x_aload_n (E_X7_init_0 30 rfl) rfl ?_
  refine x_bipush (z := 120) (E_X7_init_0 31 rfl) (by decide) ?_
  refine y_newa (n1 := 54) (ca1 := 8) (sl1 := 960) (E_X7_init_0 32 rfl) rfl (Or.inl ⟨rfl, rfl⟩) ac_int rfl (by decide) rfl (by decide) rfl rfl rfl (by decide) (hz 53 (by decide) (by decide)) ?_
  refine x_putR (E_X7_init_0 33 rfl) fl_X7_34 rfl (by decide) rfl rfl ?_
  refine x_aload_n (E_X7_init_0 34 rfl) rfl ?_
  refine x_bipush (z := 120) (E_X7_init_0 35 rfl) (by decide) ?_
  refine y_newa (n1 := 55) (ca1 := 9) (sl1 := 1080) (E_X7_init_0 36 rfl) rfl (Or.inl ⟨rfl, rfl⟩) ac_int rfl (by decide) rfl (by decide) rfl rfl rfl (by decide) (hz 54 (by decide) (by decide)) ?_
  refine x_putR (E_X7_init_0 37 rfl) fl_X7_37 rfl (by decide) rfl rfl ?_
  refine x_aload_n (E_X7_init_0 38 rfl) rfl ?_
  refine x_bipush (z := 12) (E_X7_init_0 39 rfl) (by decide) ?_
  refine y_newa (n1 := 56) (ca1 := 10) (sl1 := 1092) (E_X7_init_0 40 rfl) rfl (Or.inl ⟨rfl, rfl⟩) ac_int rfl (by decide) rfl (by decide) rfl rfl rfl (by decide) (hz 55 (by decide) (by decide)) ?_
  refine x_putR (E_X7_init_0 41 rfl) fl_X7_40 rfl (by decide) rfl rfl ?_
  refine x_aload_n (E_X7_init_0 42 rfl) rfl ?_
  refine x_bipush (z := 12) (E_X7_init_0 43 rfl) (by decide) ?_
  refine y_newa (n1 := 57) (ca1 := 11) (sl1 := 1104) (E_X7_init_0 44 rfl) rfl (Or.inl ⟨rfl, rfl⟩) ac_int rfl (by decide) rfl (by decide) rfl rfl rfl (by decide) (hz 56 (by decide) (by decide)) ?_
  refine x_putR (E_X7_init_0 45 rfl) fl_X7_43 rfl (by decide) rfl rfl ?_
  refine x_aload_n (E_X7_init_0 46 rfl) rfl ?_
  refine x_bipush (z := 12) (E_X7_init_0 47 rfl) (by decide) ?_
  refine y_newa (n1 := 58) (ca1 := 12) (sl1 := 1116) (E_X7_init_0 48 rfl) rfl (Or.inl ⟨rfl, rfl⟩) ac_int rfl (by decide) rfl (by decide) rfl rfl rfl (by decide) (hz 57 (by decide) (by decide)) ?_
  refine x_putR (E_X7_init_0 49 rfl) fl_X7_46 rfl (by decide) rfl rfl ?_
  refine x_aload_n (E_X7_init_0 50 rfl) rfl ?_
  refine x_aload_n (E_X7_init_0 51 rfl) rfl ?_
  refine x_putR (E_X7_init_0 52 rfl) fl_X7_49 rfl (by decide) rfl rfl ?_
  refine x_aload_n (E_X7_init_0 53 rfl) rfl ?_
  refine x_aload_n (E_X7_init_0 54 rfl) rfl ?_
  refine x_putR (E_X7_init_0 55 rfl) fl_X7_53 rfl (by decide) rfl rfl ?_
  refine x_aload_n (E_X7_init_0 56 rfl) rfl ?_
  refine x_aload_n (E_X7_init_0 57 rfl) rfl ?_
  refine x_putR (E_X7_init_0 58 rfl) fl_X7_57 rfl (by decide) rfl rfl ?_
  refine x_vret (E_X7_init_0 59 rfl) trivial (by decide) (by decide) ⟨rfl, rfl⟩
set_option maxRecDepth 100000 in
theorem ct_58 (l : Launch) (G : GC) (ρ : Nat → Int → Option Nat) (σ : Nat → Int → Int) (hz : ∀ a, 59 ≤ a → a < 71 → σ a = fun _ => 0) : Ct l G M_X7_init 1 12 1116 [vr 58, vr 1, vr 7, vr 17] (59, ρ, σ) (fun r S1 => r = none ∧ S1 = (71, upq (upq (upq (upq (upq (upq (upq (upq (upq (upq (upq (upq (upq (upq (upq (ρ) 58 3 (some 59)) 58 4 (some 60)) 58 5 (some 61)) 58 6 (some 62)) 58 7 (some 63)) 58 8 (some 64)) 58 9 (some 65)) 58 10 (some 66)) 58 11 (some 67)) 58 12 (some 68)) 58 13 (some 69)) 58 14 (some 70)) 58 0 (some 1)) 58 1 (some 7)) 58 2 (some 17), σ)) := by
  refine Ct.of rfl (by decide) ?_
  refine x_aload_n (E_X7_init_0 0 rfl) rfl ?_
  refine x_objinit (E_X7_init_0 1 rfl) ml_X7_3 oi_2 oi_3 (by decide) ?_
  refine x_aload_n (E_X7_init_0 2 rfl) rfl ?_
  refine x_bipush (z := 120) (E_X7_init_0 3 rfl) (by decide) ?_
  refine y_newa (n1 := 60) (ca1 := 1) (sl1 := 120) (E_X7_init_0 4 rfl) rfl (Or.inr (Or.inl ⟨rfl, rfl⟩)) ac_boolean rfl (by decide) rfl (by decide) rfl rfl rfl (by decide) (hz 59 (by decide) (by decide)) ?_
  refine x_putR (E_X7_init_0 5 rfl) fl_X7_9 rfl (by decide) rfl rfl ?_
  refine x_aload_n (E_X7_init_0 6 rfl) rfl ?_
  refine x_bipush (z := 120) (E_X7_init_0 7 rfl) (by decide) ?_
  refine y_newa (n1 := 61) (ca1 := 2) (sl1 := 240) (E_X7_init_0 8 rfl) rfl (Or.inr (Or.inl ⟨rfl, rfl⟩)) ac_boolean rfl (by decide) rfl (by decide) rfl rfl rfl (by decide) (hz 60 (by decide) (by decide)) ?_
  refine x_putR (E_X7_init_0 9 rfl) fl_X7_15 rfl (by decide) rfl rfl ?_
  refine x_aload_n (E_X7_init_0 10 rfl) rfl ?_
  refine x_bipush (z := 120) (E_X7_init_0 11 rfl) (by decide) ?_
  refine y_newa (n1 := 62) (ca1 := 3) (sl1 := 360) (E_X7_init_0 12 rfl) rfl (Or.inl ⟨rfl, rfl⟩) ac_int rfl (by decide) rfl (by decide) rfl rfl rfl (by decide) (hz 61 (by decide) (by decide)) ?_
  refine x_putR (E_X7_init_0 13 rfl) fl_X7_18 rfl (by decide) rfl rfl ?_
  refine x_aload_n (E_X7_init_0 14 rfl) rfl ?_
  refine x_bipush (z := 120) (E_X7_init_0 15 rfl) (by decide) ?_
  refine y_newa (n1 := 63) (ca1 := 4) (sl1 := 480) (E_X7_init_0 16 rfl) rfl (Or.inl ⟨rfl, rfl⟩) ac_int rfl (by decide) rfl (by decide) rfl rfl rfl (by decide) (hz 62 (by decide) (by decide)) ?_
  refine x_putR (E_X7_init_0 17 rfl) fl_X7_22 rfl (by decide) rfl rfl ?_
  refine x_aload_n (E_X7_init_0 18 rfl) rfl ?_
  refine x_bipush (z := 120) (E_X7_init_0 19 rfl) (by decide) ?_
  refine y_newa (n1 := 64) (ca1 := 5) (sl1 := 600) (E_X7_init_0 20 rfl) rfl (Or.inl ⟨rfl, rfl⟩) ac_int rfl (by decide) rfl (by decide) rfl rfl rfl (by decide) (hz 63 (by decide) (by decide)) ?_
  refine x_putR (E_X7_init_0 21 rfl) fl_X7_25 rfl (by decide) rfl rfl ?_
  refine x_aload_n (E_X7_init_0 22 rfl) rfl ?_
  refine x_bipush (z := 120) (E_X7_init_0 23 rfl) (by decide) ?_
  refine y_newa (n1 := 65) (ca1 := 6) (sl1 := 720) (E_X7_init_0 24 rfl) rfl (Or.inl ⟨rfl, rfl⟩) ac_int rfl (by decide) rfl (by decide) rfl rfl rfl (by decide) (hz 64 (by decide) (by decide)) ?_
  refine x_putR (E_X7_init_0 25 rfl) fl_X7_28 rfl (by decide) rfl rfl ?_
  refine x_aload_n (E_X7_init_0 26 rfl) rfl ?_
  refine x_bipush (z := 120) (E_X7_init_0 27 rfl) (by decide) ?_
  refine y_newa (n1 := 66) (ca1 := 7) (sl1 := 840) (E_X7_init_0 28 rfl) rfl (Or.inl ⟨rfl, rfl⟩) ac_int rfl (by decide) rfl (by decide) rfl rfl rfl (by decide) (hz 65 (by decide) (by decide)) ?_
  refine x_putR (E_X7_init_0 29 rfl) fl_X7_31 rfl (by decide) rfl rfl ?_
  refine x_aload_n (E_X7_init_0 30 rfl) rfl ?_
  refine x_bipush (z := 120) (E_X7_init_0 31 rfl) (by decide) ?_
  refine y_newa (n1 := 67) (ca1 := 8) (sl1 := 960) (E_X7_init_0 32 rfl) rfl (Or.inl ⟨rfl, rfl⟩) ac_int rfl (by decide) rfl (by decide) rfl rfl rfl (by decide) (hz 66 (by decide) (by decide)) ?_
  refine x_putR (E_X7_init_0 33 rfl) fl_X7_34 rfl (by decide) rfl rfl ?_
  refine x_aload_n (E_X7_init_0 34 rfl) rfl ?_
  refine x_bipush (z := 120) (E_X7_init_0 35 rfl) (by decide) ?_
  refine y_newa (n1 := 68) (ca1 := 9) (sl1 := 1080) (E_X7_init_0 36 rfl) rfl (Or.inl ⟨rfl, rfl⟩) ac_int rfl (by decide) rfl (by decide) rfl rfl rfl (by decide) (hz 67 (by decide) (by decide)) ?_
  refine x_putR (E_X7_init_0 37 rfl) fl_X7_37 rfl (by decide) rfl rfl ?_
  refine x_aload_n (E_X7_init_0 38 rfl) rfl ?_
  refine x_bipush (z := 12) (E_X7_init_0 39 rfl) (by decide) ?_
  refine y_newa (n1 := 69) (ca1 := 10) (sl1 := 1092) (E_X7_init_0 40 rfl) rfl (Or.inl ⟨rfl, rfl⟩) ac_int rfl (by decide) rfl (by decide) rfl rfl rfl (by decide) (hz 68 (by decide) (by decide)) ?_
  refine x_putR (E_X7_init_0 41 rfl) fl_X7_40 rfl (by decide) rfl rfl ?_
  refine x_aload_n (E_X7_init_0 42 rfl) rfl ?_
  refine x_bipush (z := 12) (E_X7_init_0 43 rfl) (by decide) ?_
  refine y_newa (n1 := 70) (ca1 := 11) (sl1 := 1104) (E_X7_init_0 44 rfl) rfl (Or.inl ⟨rfl, rfl⟩) ac_int rfl (by decide) rfl (by decide) rfl rfl rfl (by decide) (hz 69 (by decide) (by decide)) ?_
  refine x_putR (E_X7_init_0 45 rfl) fl_X7_43 rfl (by decide) rfl rfl ?_
  refine x_aload_n (E_X7_init_0 46 rfl) rfl ?_
  refine x_bipush (z := 12) (E_X7_init_0 47 rfl) (by decide) ?_
  refine y_newa (n1 := 71) (ca1 := 12) (sl1 := 1116) (E_X7_init_0 48 rfl) rfl (Or.inl ⟨rfl, rfl⟩) ac_int rfl (by decide) rfl (by decide) rfl rfl rfl (by decide) (hz 70 (by decide) (by decide)) ?_
  refine x_putR (E_X7_init_0 49 rfl) fl_X7_46 rfl (by decide) rfl rfl ?_
  refine x_aload_n (E_X7_init_0 50 rfl) rfl ?_
  refine x_aload_n (E_X7_init_0 51 rfl) rfl ?_
  refine x_putR (E_X7_init_0 52 rfl) fl_X7_49 rfl (by decide) rfl rfl ?_
  refine x_aload_n (E_X7_init_0 53 rfl) rfl ?_
  refine x_aload_n (E_X7_init_0 54 rfl) rfl ?_
  refine x_putR (E_X7_init_0 55 rfl) fl_X7_53 rfl (by decide) rfl rfl ?_
  refine x_aload_n (E_X7_init_0 56 rfl) rfl ?_
  refine x_aload_n (E_X7_init_0 57 rfl) rfl ?_
  refine x_putR (E_X7_init_0 58 rfl) fl_X7_57 rfl (by decide) rfl rfl ?_
  refine x_vret (E_X7_init_0 59 rfl) trivial (by decide) (by decide) ⟨rfl, rfl⟩
set_option maxRecDepth 100000 in
theorem ct_71 (l : Launch) (G : GC) (ρ : Nat → Int → Option Nat) (σ : Nat → Int → Int) (hz : ∀ a, 72 ≤ a → a < 74 → σ a = fun _ => 0) : Ct l G M_X0_init 1 2 321 [vr 71] (72, ρ, σ) (fun r S1 => r = none ∧ S1 = (74, upq (upq (ρ) 71 0 (some 72)) 71 1 (some 73), σ)) := by
  refine Ct.of rfl (by decide) ?_
  refine x_aload_n (E_X0_init_0 0 rfl) rfl ?_
  refine x_objinit (E_X0_init_0 1 rfl) ml_X0_3 oi_2 oi_3 (by decide) ?_
  refine x_aload_n (E_X0_init_0 2 rfl) rfl ?_
  refine x_sipush (z := 201) (E_X0_init_0 3 rfl) (by decide) ?_
  refine y_newa (n1 := 73) (ca1 := 1) (sl1 := 201) (E_X0_init_0 4 rfl) rfl (Or.inl ⟨rfl, rfl⟩) ac_int rfl (by decide) rfl (by decide) rfl rfl rfl (by decide) (hz 72 (by decide) (by decide)) ?_
  refine x_putR (E_X0_init_0 5 rfl) fl_X0_9 rfl (by decide) rfl rfl ?_
  refine x_aload_n (E_X0_init_0 6 rfl) rfl ?_
  refine x_bipush (z := 120) (E_X0_init_0 7 rfl) (by decide) ?_
  refine y_newa (n1 := 74) (ca1 := 2) (sl1 := 321) (E_X0_init_0 8 rfl) rfl (Or.inl ⟨rfl, rfl⟩) ac_int rfl (by decide) rfl (by decide) rfl rfl rfl (by decide) (hz 73 (by decide) (by decide)) ?_
  refine x_putR (E_X0_init_0 9 rfl) fl_X0_15 rfl (by decide) rfl rfl ?_
  refine x_vret (E_X0_init_0 10 rfl) trivial (by decide) (by decide) ⟨rfl, rfl⟩
set_option maxRecDepth 100000 in
theorem ct_74 (l : Launch) (G : GC) (ρ : Nat → Int → Option Nat) (σ : Nat → Int → Int) (hz : ∀ a, 75 ≤ a → a < 79 → σ a = fun _ => 0) : Ct l G M_X9_init 1 4 160 [vr 74] (75, ρ, σ) (fun r S1 => r = none ∧ S1 = (79, upq (upq (upq (upq (ρ) 74 0 (some 75)) 74 1 (some 76)) 74 2 (some 77)) 74 3 (some 78), σ)) := by
  refine Ct.of rfl (by decide) ?_
  refine x_aload_n (E_X9_init_0 0 rfl) rfl ?_
  refine x_objinit (E_X9_init_0 1 rfl) ml_X9_1 oi_2 oi_3 (by decide) ?_
  refine x_aload_n (E_X9_init_0 2 rfl) rfl ?_
  refine x_bipush (z := 40) (E_X9_init_0 3 rfl) (by decide) ?_
  refine y_newa (n1 := 76) (ca1 := 1) (sl1 := 40) (E_X9_init_0 4 rfl) rfl (Or.inl ⟨rfl, rfl⟩) ac_int rfl (by decide) rfl (by decide) rfl rfl rfl (by decide) (hz 75 (by decide) (by decide)) ?_
  refine x_putR (E_X9_init_0 5 rfl) fl_X9_9 rfl (by decide) rfl rfl ?_
  refine x_aload_n (E_X9_init_0 6 rfl) rfl ?_
  refine x_bipush (z := 40) (E_X9_init_0 7 rfl) (by decide) ?_
  refine y_newa (n1 := 77) (ca1 := 2) (sl1 := 80) (E_X9_init_0 8 rfl) rfl (Or.inl ⟨rfl, rfl⟩) ac_int rfl (by decide) rfl (by decide) rfl rfl rfl (by decide) (hz 76 (by decide) (by decide)) ?_
  refine x_putR (E_X9_init_0 9 rfl) fl_X9_13 rfl (by decide) rfl rfl ?_
  refine x_aload_n (E_X9_init_0 10 rfl) rfl ?_
  refine x_bipush (z := 40) (E_X9_init_0 11 rfl) (by decide) ?_
  refine y_newa (n1 := 78) (ca1 := 3) (sl1 := 120) (E_X9_init_0 12 rfl) rfl (Or.inl ⟨rfl, rfl⟩) ac_int rfl (by decide) rfl (by decide) rfl rfl rfl (by decide) (hz 77 (by decide) (by decide)) ?_
  refine x_putR (E_X9_init_0 13 rfl) fl_X9_16 rfl (by decide) rfl rfl ?_
  refine x_aload_n (E_X9_init_0 14 rfl) rfl ?_
  refine x_bipush (z := 40) (E_X9_init_0 15 rfl) (by decide) ?_
  refine y_newa (n1 := 79) (ca1 := 4) (sl1 := 160) (E_X9_init_0 16 rfl) rfl (Or.inl ⟨rfl, rfl⟩) ac_int rfl (by decide) rfl (by decide) rfl rfl rfl (by decide) (hz 78 (by decide) (by decide)) ?_
  refine x_putR (E_X9_init_0 17 rfl) fl_X9_19 rfl (by decide) rfl rfl ?_
  refine x_vret (E_X9_init_0 18 rfl) trivial (by decide) (by decide) ⟨rfl, rfl⟩
set_option maxRecDepth 100000 in
theorem ct_88 (l : Launch) (G : GC) (ρ : Nat → Int → Option Nat) (σ : Nat → Int → Int) (hz : ∀ a, 89 ≤ a → a < 96 → σ a = fun _ => 0) : Ct l G M_X6_init 1 7 616 [vr 88] (89, ρ, σ) (fun r S1 => r = none ∧ S1 = (96, upq (upq (upq (upq (upq (upq (upq (ρ) 88 0 (some 89)) 88 1 (some 90)) 88 2 (some 91)) 88 3 (some 92)) 88 4 (some 93)) 88 5 (some 94)) 88 6 (some 95), σ)) := by
  refine Ct.of rfl (by decide) ?_
  refine x_aload_n (E_X6_init_0 0 rfl) rfl ?_
  refine x_objinit (E_X6_init_0 1 rfl) ml_X6_3 oi_2 oi_3 (by decide) ?_
  refine x_aload_n (E_X6_init_0 2 rfl) rfl ?_
  refine x_bipush (z := 24) (E_X6_init_0 3 rfl) (by decide) ?_
  refine y_newa (n1 := 90) (ca1 := 1) (sl1 := 24) (E_X6_init_0 4 rfl) rfl (Or.inl ⟨rfl, rfl⟩) ac_int rfl (by decide) rfl (by decide) rfl rfl rfl (by decide) (hz 89 (by decide) (by decide)) ?_
  refine x_putR (E_X6_init_0 5 rfl) fl_X6_11 rfl (by decide) rfl rfl ?_
  refine x_aload_n (E_X6_init_0 6 rfl) rfl ?_
  refine x_bipush (z := 24) (E_X6_init_0 7 rfl) (by decide) ?_
  refine y_newa (n1 := 91) (ca1 := 2) (sl1 := 48) (E_X6_init_0 8 rfl) rfl (Or.inl ⟨rfl, rfl⟩) ac_int rfl (by decide) rfl (by decide) rfl rfl rfl (by decide) (hz 90 (by decide) (by decide)) ?_
  refine x_putR (E_X6_init_0 9 rfl) fl_X6_15 rfl (by decide) rfl rfl ?_
  refine x_aload_n (E_X6_init_0 10 rfl) rfl ?_
  refine x_bipush (z := 24) (E_X6_init_0 11 rfl) (by decide) ?_
  refine y_newa (n1 := 92) (ca1 := 3) (sl1 := 72) (E_X6_init_0 12 rfl) rfl (Or.inl ⟨rfl, rfl⟩) ac_int rfl (by decide) rfl (by decide) rfl rfl rfl (by decide) (hz 91 (by decide) (by decide)) ?_
  refine x_putR (E_X6_init_0 13 rfl) fl_X6_18 rfl (by decide) rfl rfl ?_
  refine x_aload_n (E_X6_init_0 14 rfl) rfl ?_
  refine x_bipush (z := 24) (E_X6_init_0 15 rfl) (by decide) ?_
  refine y_newa (n1 := 93) (ca1 := 4) (sl1 := 96) (E_X6_init_0 16 rfl) rfl (Or.inl ⟨rfl, rfl⟩) ac_int rfl (by decide) rfl (by decide) rfl rfl rfl (by decide) (hz 92 (by decide) (by decide)) ?_
  refine x_putR (E_X6_init_0 17 rfl) fl_X6_21 rfl (by decide) rfl rfl ?_
  refine x_aload_n (E_X6_init_0 18 rfl) rfl ?_
  refine x_bipush (z := 8) (E_X6_init_0 19 rfl) (by decide) ?_
  refine y_newa (n1 := 94) (ca1 := 5) (sl1 := 104) (E_X6_init_0 20 rfl) rfl (Or.inl ⟨rfl, rfl⟩) ac_int rfl (by decide) rfl (by decide) rfl rfl rfl (by decide) (hz 93 (by decide) (by decide)) ?_
  refine x_putR (E_X6_init_0 21 rfl) fl_X6_24 rfl (by decide) rfl rfl ?_
  refine x_aload_n (E_X6_init_0 22 rfl) rfl ?_
  refine x_sipush (z := 256) (E_X6_init_0 23 rfl) (by decide) ?_
  refine y_newa (n1 := 95) (ca1 := 6) (sl1 := 360) (E_X6_init_0 24 rfl) rfl (Or.inl ⟨rfl, rfl⟩) ac_int rfl (by decide) rfl (by decide) rfl rfl rfl (by decide) (hz 94 (by decide) (by decide)) ?_
  refine x_putR (E_X6_init_0 25 rfl) fl_X6_27 rfl (by decide) rfl rfl ?_
  refine x_aload_n (E_X6_init_0 26 rfl) rfl ?_
  refine x_sipush (z := 256) (E_X6_init_0 27 rfl) (by decide) ?_
  refine y_newa (n1 := 96) (ca1 := 7) (sl1 := 616) (E_X6_init_0 28 rfl) rfl (Or.inl ⟨rfl, rfl⟩) ac_int rfl (by decide) rfl (by decide) rfl rfl rfl (by decide) (hz 95 (by decide) (by decide)) ?_
  refine x_putR (E_X6_init_0 29 rfl) fl_X6_30 rfl (by decide) rfl rfl ?_
  refine x_vret (E_X6_init_0 30 rfl) trivial (by decide) (by decide) ⟨rfl, rfl⟩
set_option maxRecDepth 100000 in
theorem ct_96 (l : Launch) (G : GC) (ρ : Nat → Int → Option Nat) (σ : Nat → Int → Int) (hz : ∀ a, 97 ≤ a → a < 105 → σ a = fun _ => 0) : Ct l G M_X1_init 1 8 128 [vr 96] (97, ρ, σ) (fun r S1 => r = none ∧ S1 = (105, upq (upq (upq (upq (upq (upq (upq (upq (ρ) 96 0 (some 97)) 96 1 (some 98)) 96 2 (some 99)) 96 3 (some 100)) 96 5 (some 101)) 96 6 (some 102)) 96 7 (some 103)) 96 8 (some 104), σ)) := by
  refine Ct.of rfl (by decide) ?_
  refine x_aload_n (E_X1_init_0 0 rfl) rfl ?_
  refine x_objinit (E_X1_init_0 1 rfl) ml_X1_3 oi_2 oi_3 (by decide) ?_
  refine x_aload_n (E_X1_init_0 2 rfl) rfl ?_
  refine x_bipush (z := 24) (E_X1_init_0 3 rfl) (by decide) ?_
  refine y_newa (n1 := 98) (ca1 := 1) (sl1 := 24) (E_X1_init_0 4 rfl) rfl (Or.inl ⟨rfl, rfl⟩) ac_int rfl (by decide) rfl (by decide) rfl rfl rfl (by decide) (hz 97 (by decide) (by decide)) ?_
  refine x_putR (E_X1_init_0 5 rfl) fl_X1_11 rfl (by decide) rfl rfl ?_
  refine x_aload_n (E_X1_init_0 6 rfl) rfl ?_
  refine x_bipush (z := 24) (E_X1_init_0 7 rfl) (by decide) ?_
  refine y_newa (n1 := 99) (ca1 := 2) (sl1 := 48) (E_X1_init_0 8 rfl) rfl (Or.inl ⟨rfl, rfl⟩) ac_int rfl (by decide) rfl (by decide) rfl rfl rfl (by decide) (hz 98 (by decide) (by decide)) ?_
  refine x_putR (E_X1_init_0 9 rfl) fl_X1_15 rfl (by decide) rfl rfl ?_
  refine x_aload_n (E_X1_init_0 10 rfl) rfl ?_
  refine x_bipush (z := 24) (E_X1_init_0 11 rfl) (by decide) ?_
  refine y_newa (n1 := 100) (ca1 := 3) (sl1 := 72) (E_X1_init_0 12 rfl) rfl (Or.inl ⟨rfl, rfl⟩) ac_int rfl (by decide) rfl (by decide) rfl rfl rfl (by decide) (hz 99 (by decide) (by decide)) ?_
  refine x_putR (E_X1_init_0 13 rfl) fl_X1_18 rfl (by decide) rfl rfl ?_
  refine x_aload_n (E_X1_init_0 14 rfl) rfl ?_
  refine x_bipush (z := 24) (E_X1_init_0 15 rfl) (by decide) ?_
  refine y_newa (n1 := 101) (ca1 := 4) (sl1 := 96) (E_X1_init_0 16 rfl) rfl (Or.inl ⟨rfl, rfl⟩) ac_int rfl (by decide) rfl (by decide) rfl rfl rfl (by decide) (hz 100 (by decide) (by decide)) ?_
  refine x_putR (E_X1_init_0 17 rfl) fl_X1_21 rfl (by decide) rfl rfl ?_
  refine x_aload_n (E_X1_init_0 18 rfl) rfl ?_
  refine x_bipush (z := 8) (E_X1_init_0 19 rfl) (by decide) ?_
  refine y_newa (n1 := 102) (ca1 := 5) (sl1 := 104) (E_X1_init_0 20 rfl) rfl (Or.inl ⟨rfl, rfl⟩) ac_int rfl (by decide) rfl (by decide) rfl rfl rfl (by decide) (hz 101 (by decide) (by decide)) ?_
  refine x_putR (E_X1_init_0 21 rfl) fl_X1_24 rfl (by decide) rfl rfl ?_
  refine x_aload_n (E_X1_init_0 22 rfl) rfl ?_
  refine x_bipush (z := 8) (E_X1_init_0 23 rfl) (by decide) ?_
  refine y_newa (n1 := 103) (ca1 := 6) (sl1 := 112) (E_X1_init_0 24 rfl) rfl (Or.inl ⟨rfl, rfl⟩) ac_int rfl (by decide) rfl (by decide) rfl rfl rfl (by decide) (hz 102 (by decide) (by decide)) ?_
  refine x_putR (E_X1_init_0 25 rfl) fl_X1_27 rfl (by decide) rfl rfl ?_
  refine x_aload_n (E_X1_init_0 26 rfl) rfl ?_
  refine x_bipush (z := 8) (E_X1_init_0 27 rfl) (by decide) ?_
  refine y_newa (n1 := 104) (ca1 := 7) (sl1 := 120) (E_X1_init_0 28 rfl) rfl (Or.inl ⟨rfl, rfl⟩) ac_int rfl (by decide) rfl (by decide) rfl rfl rfl (by decide) (hz 103 (by decide) (by decide)) ?_
  refine x_putR (E_X1_init_0 29 rfl) fl_X1_30 rfl (by decide) rfl rfl ?_
  refine x_aload_n (E_X1_init_0 30 rfl) rfl ?_
  refine x_bipush (z := 8) (E_X1_init_0 31 rfl) (by decide) ?_
  refine y_newa (n1 := 105) (ca1 := 8) (sl1 := 128) (E_X1_init_0 32 rfl) rfl (Or.inr (Or.inl ⟨rfl, rfl⟩)) ac_boolean rfl (by decide) rfl (by decide) rfl rfl rfl (by decide) (hz 104 (by decide) (by decide)) ?_
  refine x_putR (E_X1_init_0 33 rfl) fl_X1_33 rfl (by decide) rfl rfl ?_
  refine x_vret (E_X1_init_0 34 rfl) trivial (by decide) (by decide) ⟨rfl, rfl⟩
set_option maxRecDepth 100000 in
theorem ct_107 (l : Launch) (G : GC) (ρ : Nat → Int → Option Nat) (σ : Nat → Int → Int) (hz : ∀ a, 108 ≤ a → a < 114 → σ a = fun _ => 0) : Ct l G M_X4_init 1 6 1044 [vr 107] (108, ρ, σ) (fun r S1 => r = none ∧ S1 = (114, upq (upq (upq (upq (upq (upq (ρ) 107 0 (some 108)) 107 1 (some 109)) 107 3 (some 110)) 107 4 (some 111)) 107 5 (some 112)) 107 6 (some 113), σ)) := by
  refine Ct.of rfl (by decide) ?_
  refine x_aload_n (E_X4_init_0 0 rfl) rfl ?_
  refine x_objinit (E_X4_init_0 1 rfl) ml_X4_3 oi_2 oi_3 (by decide) ?_
  refine x_aload_n (E_X4_init_0 2 rfl) rfl ?_
  refine x_bipush (z := 12) (E_X4_init_0 3 rfl) (by decide) ?_
  refine y_newa (n1 := 109) (ca1 := 1) (sl1 := 12) (E_X4_init_0 4 rfl) rfl (Or.inl ⟨rfl, rfl⟩) ac_int rfl (by decide) rfl (by decide) rfl rfl rfl (by decide) (hz 108 (by decide) (by decide)) ?_
  refine x_putR (E_X4_init_0 5 rfl) fl_X4_9 rfl (by decide) rfl rfl ?_
  refine x_aload_n (E_X4_init_0 6 rfl) rfl ?_
  refine x_bipush (z := 8) (E_X4_init_0 7 rfl) (by decide) ?_
  refine y_newa (n1 := 110) (ca1 := 2) (sl1 := 20) (E_X4_init_0 8 rfl) rfl (Or.inl ⟨rfl, rfl⟩) ac_int rfl (by decide) rfl (by decide) rfl rfl rfl (by decide) (hz 109 (by decide) (by decide)) ?_
  refine x_putR (E_X4_init_0 9 rfl) fl_X4_15 rfl (by decide) rfl rfl ?_
  refine x_aload_n (E_X4_init_0 10 rfl) rfl ?_
  refine x_sipush (z := 256) (E_X4_init_0 11 rfl) (by decide) ?_
  refine y_newa (n1 := 111) (ca1 := 3) (sl1 := 276) (E_X4_init_0 12 rfl) rfl (Or.inl ⟨rfl, rfl⟩) ac_int rfl (by decide) rfl (by decide) rfl rfl rfl (by decide) (hz 110 (by decide) (by decide)) ?_
  refine x_putR (E_X4_init_0 13 rfl) fl_X4_18 rfl (by decide) rfl rfl ?_
  refine x_aload_n (E_X4_init_0 14 rfl) rfl ?_
  refine x_sipush (z := 256) (E_X4_init_0 15 rfl) (by decide) ?_
  refine y_newa (n1 := 112) (ca1 := 4) (sl1 := 532) (E_X4_init_0 16 rfl) rfl (Or.inl ⟨rfl, rfl⟩) ac_int rfl (by decide) rfl (by decide) rfl rfl rfl (by decide) (hz 111 (by decide) (by decide)) ?_
  refine x_putR (E_X4_init_0 17 rfl) fl_X4_21 rfl (by decide) rfl rfl ?_
  refine x_aload_n (E_X4_init_0 18 rfl) rfl ?_
  refine x_sipush (z := 256) (E_X4_init_0 19 rfl) (by decide) ?_
  refine y_newa (n1 := 113) (ca1 := 5) (sl1 := 788) (E_X4_init_0 20 rfl) rfl (Or.inr (Or.inr ⟨rfl, rfl⟩)) ac_long rfl (by decide) rfl (by decide) rfl rfl rfl (by decide) (hz 112 (by decide) (by decide)) ?_
  refine x_putR (E_X4_init_0 21 rfl) fl_X4_24 rfl (by decide) rfl rfl ?_
  refine x_aload_n (E_X4_init_0 22 rfl) rfl ?_
  refine x_sipush (z := 256) (E_X4_init_0 23 rfl) (by decide) ?_
  refine y_newa (n1 := 114) (ca1 := 6) (sl1 := 1044) (E_X4_init_0 24 rfl) rfl (Or.inr (Or.inr ⟨rfl, rfl⟩)) ac_long rfl (by decide) rfl (by decide) rfl rfl rfl (by decide) (hz 113 (by decide) (by decide)) ?_
  refine x_putR (E_X4_init_0 25 rfl) fl_X4_28 rfl (by decide) rfl rfl ?_
  refine x_vret (E_X4_init_0 26 rfl) trivial (by decide) (by decide) ⟨rfl, rfl⟩
theorem zq_0 {n0 n1 : Nat} : ∀ a, n0 ≤ a → a < n1 → (fun (_ : Nat) (_ : Int) => (0 : Int)) a = fun _ => 0 := fun _ _ _ => rfl
theorem zq_up {n0 n1 k : Nat} {i v : Int} {σ : Nat → Int → Int} (h : ∀ a, n0 ≤ a → a < n1 → σ a = fun _ => 0) (hk : k < n0) : ∀ a, n0 ≤ a → a < n1 → upq σ k i v a = fun _ => 0 := fun a h1 h2 => by rw [upq_ne (by omega)]; exact h a h1 h2
def ρA : Nat → Int → Option Nat := upq (upq (upq (upq (upq (upq (upq ((upq (upq (upq (upq (upq (upq (upq (upq (upq (upq (upq ((upq (upq (upq (upq (upq (upq (upq (upq ((upq (rwq (upq (upq (upq (upq (upq ((upq (upq (upq ((upq (upq (upq (upq (upq (upq (upq (upq (upq (upq (upq (upq (upq (upq (upq (upq ((upq (upq (upq (upq (upq (upq (upq (upq (upq (upq (upq (upq (upq (upq (upq (upq ((upq (upq (upq (upq ((upq (upq (upq (upq (upq (rwq (upq (rwq (upq (upq ((upq (upq (upq (upq (upq (upq (upq (upq (upq (upq ((upq (upq (upq (upq (upq (upq ((fun _ _ => none)) 1 0 (some 2)) 1 1 (some 3)) 1 2 (some 4)) 1 3 (some 5)) 1 4 (some 6)) 0 1 (some 1))) 7 0 (some 8)) 7 1 (some 9)) 7 2 (some 10)) 7 3 (some 11)) 7 4 (some 12)) 7 5 (some 13)) 7 6 (some 14)) 7 7 (some 15)) 7 8 (some 16)) 0 2 (some 7))) 17 0 (some 18)) 17 1 (some 19)) 20) 17 2 (some 20)) 29) 17 3 (some 29)) 17 4 (some 38)) 17 5 (some 39)) 17 6 (some 40)) 0 3 (some 17))) 41 0 (some 42)) 41 2 (some 43)) 41 3 (some 44)) 0 4 (some 41))) 45 3 (some 46)) 45 4 (some 47)) 45 5 (some 48)) 45 6 (some 49)) 45 7 (some 50)) 45 8 (some 51)) 45 9 (some 52)) 45 10 (some 53)) 45 11 (some 54)) 45 12 (some 55)) 45 13 (some 56)) 45 14 (some 57)) 45 0 (some 1)) 45 1 (some 7)) 45 2 (some 17)) 0 5 (some 45))) 58 3 (some 59)) 58 4 (some 60)) 58 5 (some 61)) 58 6 (some 62)) 58 7 (some 63)) 58 8 (some 64)) 58 9 (some 65)) 58 10 (some 66)) 58 11 (some 67)) 58 12 (some 68)) 58 13 (some 69)) 58 14 (some 70)) 58 0 (some 1)) 58 1 (some 7)) 58 2 (some 17)) 0 6 (some 58))) 71 0 (some 72)) 71 1 (some 73)) 0 7 (some 71))) 74 0 (some 75)) 74 1 (some 76)) 74 2 (some 77)) 74 3 (some 78)) 0 8 (some 74)) 79) 0 9 (some 79))) 88 0 (some 89)) 88 1 (some 90)) 88 2 (some 91)) 88 3 (some 92)) 88 4 (some 93)) 88 5 (some 94)) 88 6 (some 95)) 0 10 (some 88))) 96 0 (some 97)) 96 1 (some 98)) 96 2 (some 99)) 96 3 (some 100)) 96 5 (some 101)) 96 6 (some 102)) 96 7 (some 103)) 96 8 (some 104)) 0 11 (some 96)) 0 12 (some 105)) 0 13 (some 106))) 107 0 (some 108)) 107 1 (some 109)) 107 3 (some 110)) 107 4 (some 111)) 107 5 (some 112)) 107 6 (some 113)) 0 14 (some 107)
def σA : Nat → Int → Int := (upq (upq (upq (upq (upq (upq (((((((upq ((upq ((((upq (fun _ _ => 0) 0 0 (0))))) 17 7 (-1))) 41 6 (-1)))))))) 105 0 (200)) 105 1 (200)) 105 2 (200)) 105 3 (200)) 105 4 (200)) 105 5 (200))
set_option maxRecDepth 100000 in
theorem ct_0 (l : Launch) (G : GC) : Ct l G M_X10_init 2 113 6253 [vr 0] (1, fun _ _ => none, fun _ _ => 0) (fun r S1 => r = none ∧ S1 = (114, ρA, σA)) := by
  refine Ct.of rfl (by decide) ?_
  refine x_aload_n (E_X10_init_0 0 rfl) rfl ?_
  refine x_objinit (E_X10_init_0 1 rfl) ml_X10_1 oi_2 oi_3 (by decide) ?_
  refine x_aload_n (E_X10_init_0 2 rfl) rfl ?_
  refine x_iconst (E_X10_init_0 3 rfl) ?_
  refine x_putI (E_X10_init_0 4 rfl) fl_X10_7 rfl (by decide) ?_
  refine x_aload_n (E_X10_init_0 5 rfl) rfl ?_
  refine y_new (n1 := 2) (ca1 := 1) (sl1 := 6) (E_X10_init_0 6 rfl) clk_3 ty_X3 cl_X10_13 in_X3 iz_X3 rfl (by decide) rfl rfl rfl (by decide) rfl rfl ?_
  refine x_dupr (E_X10_init_0 7 rfl) ?_
  refine y_callIN (ca1 := 6) (sl1 := 66) (E_X10_init_0 8 rfl) ml_X10_15 mi_X3_init (ct_1 l G _ _ (zq_up zq_0 (by decide))) (by decide) rfl rfl (by decide) rfl rfl (by decide) ?_
  refine x_putR (E_X10_init_0 9 rfl) fl_X10_16 rfl (by decide) rfl rfl ?_
  refine x_aload_n (E_X10_init_0 10 rfl) rfl ?_
  refine y_new (n1 := 8) (ca1 := 7) (sl1 := 77) (E_X10_init_0 11 rfl) clk_2 ty_X2 cl_X10_20 in_X2 iz_X2 rfl (by decide) rfl rfl rfl (by decide) rfl rfl ?_
  refine x_dupr (E_X10_init_0 12 rfl) ?_
  refine y_callIN (ca1 := 16) (sl1 := 1157) (E_X10_init_0 13 rfl) ml_X10_22 mi_X2_init (ct_7 l G _ _ (zq_up zq_0 (by decide))) (by decide) rfl rfl (by decide) rfl rfl (by decide) ?_
  refine x_putR (E_X10_init_0 14 rfl) fl_X10_23 rfl (by decide) rfl rfl ?_
  refine x_aload_n (E_X10_init_0 15 rfl) rfl ?_
  refine y_new (n1 := 18) (ca1 := 17) (sl1 := 1166) (E_X10_init_0 16 rfl) clk_8 ty_X8 cl_X10_27 in_X8 iz_X8 rfl (by decide) rfl rfl rfl (by decide) rfl rfl ?_
  refine x_dupr (E_X10_init_0 17 rfl) ?_
  refine y_callIN (ca1 := 40) (sl1 := 1384) (E_X10_init_0 18 rfl) ml_X10_29 mi_X8_init (ct_17 l G _ _ (zq_up zq_0 (by decide))) (by decide) rfl rfl (by decide) rfl rfl (by decide) ?_
  refine x_putR (E_X10_init_0 19 rfl) fl_X10_30 rfl (by decide) rfl rfl ?_
  refine x_aload_n (E_X10_init_0 20 rfl) rfl ?_
  refine y_new (n1 := 42) (ca1 := 41) (sl1 := 1393) (E_X10_init_0 21 rfl) clk_5 ty_X5 cl_X10_34 in_X5 iz_X5 rfl (by decide) rfl rfl rfl (by decide) rfl rfl ?_
  refine x_dupr (E_X10_init_0 22 rfl) ?_
  refine y_callIN (ca1 := 44) (sl1 := 1573) (E_X10_init_0 23 rfl) ml_X10_36 mi_X5_init (ct_41 l G _ _ (zq_up (zq_up zq_0 (by decide)) (by decide))) (by decide) rfl rfl (by decide) rfl rfl (by decide) ?_
  refine x_putR (E_X10_init_0 24 rfl) fl_X10_37 rfl (by decide) rfl rfl ?_
  refine x_aload_n (E_X10_init_0 25 rfl) rfl ?_
  refine y_new (n1 := 46) (ca1 := 45) (sl1 := 1589) (E_X10_init_0 26 rfl) clk_7 ty_X7 cl_X10_41 in_X7 iz_X7 rfl (by decide) rfl rfl rfl (by decide) rfl rfl ?_
  refine x_dupr (E_X10_init_0 27 rfl) ?_
  refine x_aload_n (E_X10_init_0 28 rfl) rfl ?_
  refine x_getR (E_X10_init_0 29 rfl) fl_X10_16 rfl (by decide) rfl ?_
  refine x_aload_n (E_X10_init_0 30 rfl) rfl ?_
  refine x_getR (E_X10_init_0 31 rfl) fl_X10_23 rfl (by decide) rfl ?_
  refine x_aload_n (E_X10_init_0 32 rfl) rfl ?_
  refine x_getR (E_X10_init_0 33 rfl) fl_X10_30 rfl (by decide) rfl ?_
  refine y_callI (ca1 := 57) (sl1 := 2705) (E_X10_init_0 34 rfl) ml_X10_43 mi_X7_init (ct_45 l G _ _ (zq_up (zq_up (zq_up zq_0 (by decide)) (by decide)) (by decide))) (by decide) rfl rfl (by decide) rfl rfl (by decide) ?_
  refine x_putR (E_X10_init_0 35 rfl) fl_X10_46 rfl (by decide) rfl rfl ?_
  refine x_aload_n (E_X10_init_0 36 rfl) rfl ?_
  refine y_new (n1 := 59) (ca1 := 58) (sl1 := 2721) (E_X10_init_0 37 rfl) clk_7 ty_X7 cl_X10_41 in_X7 iz_X7 rfl (by decide) rfl rfl rfl (by decide) rfl rfl ?_
  refine x_dupr (E_X10_init_0 38 rfl) ?_
  refine x_aload_n (E_X10_init_0 39 rfl) rfl ?_
  refine x_getR (E_X10_init_0 40 rfl) fl_X10_16 rfl (by decide) rfl ?_
  refine x_aload_n (E_X10_init_0 41 rfl) rfl ?_
  refine x_getR (E_X10_init_0 42 rfl) fl_X10_23 rfl (by decide) rfl ?_
  refine x_aload_n (E_X10_init_0 43 rfl) rfl ?_
  refine x_getR (E_X10_init_0 44 rfl) fl_X10_30 rfl (by decide) rfl ?_
  refine y_callI (ca1 := 70) (sl1 := 3837) (E_X10_init_0 45 rfl) ml_X10_43 mi_X7_init (ct_58 l G _ _ (zq_up (zq_up (zq_up zq_0 (by decide)) (by decide)) (by decide))) (by decide) rfl rfl (by decide) rfl rfl (by decide) ?_
  refine x_putR (E_X10_init_0 46 rfl) fl_X10_50 rfl (by decide) rfl rfl ?_
  refine x_aload_n (E_X10_init_0 47 rfl) rfl ?_
  refine y_new (n1 := 72) (ca1 := 71) (sl1 := 3840) (E_X10_init_0 48 rfl) clk_0 ty_X0 cl_X10_53 in_X0 iz_X0 rfl (by decide) rfl rfl rfl (by decide) rfl rfl ?_
  refine x_dupr (E_X10_init_0 49 rfl) ?_
  refine y_callIN (ca1 := 73) (sl1 := 4161) (E_X10_init_0 50 rfl) ml_X10_55 mi_X0_init (ct_71 l G _ _ (zq_up (zq_up (zq_up zq_0 (by decide)) (by decide)) (by decide))) (by decide) rfl rfl (by decide) rfl rfl (by decide) ?_
  refine x_putR (E_X10_init_0 51 rfl) fl_X10_56 rfl (by decide) rfl rfl ?_
  refine x_aload_n (E_X10_init_0 52 rfl) rfl ?_
  refine y_new (n1 := 75) (ca1 := 74) (sl1 := 4166) (E_X10_init_0 53 rfl) clk_9 ty_X9 cl_X10_60 in_X9 iz_X9 rfl (by decide) rfl rfl rfl (by decide) rfl rfl ?_
  refine x_dupr (E_X10_init_0 54 rfl) ?_
  refine y_callIN (ca1 := 78) (sl1 := 4326) (E_X10_init_0 55 rfl) ml_X10_62 mi_X9_init (ct_74 l G _ _ (zq_up (zq_up (zq_up zq_0 (by decide)) (by decide)) (by decide))) (by decide) rfl rfl (by decide) rfl rfl (by decide) ?_
  refine x_putR (E_X10_init_0 56 rfl) fl_X10_63 rfl (by decide) rfl rfl ?_
  refine x_aload_n (E_X10_init_0 57 rfl) rfl ?_
  refine x_bipush (z := 8) (E_X10_init_0 58 rfl) (by decide) ?_
  refine x_bipush (z := 12) (E_X10_init_0 59 rfl) (by decide) ?_
  refine y_mna (K := 12) (n1 := 88) (ca1 := 87) (sl1 := 4430) (E_X10_init_1 0 rfl) cl_X10_67 ac_int rfl rfl (by decide) rfl (by decide) (by decide) rfl rfl rfl (by decide) (zq_up (zq_up (zq_up zq_0 (by decide)) (by decide)) (by decide)) ?_
  refine x_putR (E_X10_init_1 1 rfl) fl_X10_69 rfl (by decide) rfl rfl ?_
  refine x_aload_n (E_X10_init_1 2 rfl) rfl ?_
  refine y_new (n1 := 89) (ca1 := 88) (sl1 := 4438) (E_X10_init_1 3 rfl) clk_6 ty_X6 cl_X10_72 in_X6 iz_X6 rfl (by decide) rfl rfl rfl (by decide) rfl rfl ?_
  refine x_dupr (E_X10_init_1 4 rfl) ?_
  refine y_callIN (ca1 := 95) (sl1 := 5054) (E_X10_init_1 5 rfl) ml_X10_74 mi_X6_init (ct_88 l G _ _ (zq_up (zq_up (zq_up zq_0 (by decide)) (by decide)) (by decide))) (by decide) rfl rfl (by decide) rfl rfl (by decide) ?_
  refine x_putR (E_X10_init_1 6 rfl) fl_X10_75 rfl (by decide) rfl rfl ?_
  refine x_aload_n (E_X10_init_1 7 rfl) rfl ?_
  refine y_new (n1 := 97) (ca1 := 96) (sl1 := 5064) (E_X10_init_1 8 rfl) clk_1 ty_X1 cl_X10_79 in_X1 iz_X1 rfl (by decide) rfl rfl rfl (by decide) rfl rfl ?_
  refine x_dupr (E_X10_init_1 9 rfl) ?_
  refine y_callIN (ca1 := 104) (sl1 := 5192) (E_X10_init_1 10 rfl) ml_X10_81 mi_X1_init (ct_96 l G _ _ (zq_up (zq_up (zq_up zq_0 (by decide)) (by decide)) (by decide))) (by decide) rfl rfl (by decide) rfl rfl (by decide) ?_
  refine x_putR (E_X10_init_1 11 rfl) fl_X10_82 rfl (by decide) rfl rfl ?_
  refine x_aload_n (E_X10_init_1 12 rfl) rfl ?_
  refine x_bipush (z := 6) (E_X10_init_1 13 rfl) (by decide) ?_
  refine y_newa (n1 := 106) (ca1 := 105) (sl1 := 5198) (E_X10_init_1 14 rfl) rfl (Or.inl ⟨rfl, rfl⟩) ac_int rfl (by decide) rfl (by decide) rfl rfl rfl (by decide) rfl ?_
  refine x_putR (E_X10_init_1 15 rfl) fl_X10_86 rfl (by decide) rfl rfl ?_
  refine x_iconst (E_X10_init_1 16 rfl) ?_
  refine x_istore_n (E_X10_init_1 17 rfl) rfl ?_
  refine x_iload_n (E_X10_init_1 18 rfl) rfl ?_
  refine x_bipush (z := 6) (E_X10_init_1 19 rfl) (by decide) ?_
  refine x_icmp_ge (E_X10_init_1 20 rfl) (by decide) (by decide) (fun c9 => absurd c9 (by decide)) (fun _ => ?_)
  refine x_aload_n (E_X10_init_1 21 rfl) rfl ?_
  refine x_getR (E_X10_init_1 22 rfl) fl_X10_86 rfl (by decide) rfl ?_
  refine x_iload_n (E_X10_init_1 23 rfl) rfl ?_
  refine x_sipush (z := 200) (E_X10_init_1 24 rfl) (by decide) ?_
  refine x_iast (E_X10_init_1 25 rfl) rfl (by decide) (by decide) ?_
  refine x_iinc (E_X10_init_1 26 rfl) rfl rfl ?_
  refine x_goto (E_X10_init_1 27 rfl) ?_
  refine x_iload_n (E_X10_init_1 18 rfl) rfl ?_
  refine x_bipush (z := 6) (E_X10_init_1 19 rfl) (by decide) ?_
  refine x_icmp_ge (E_X10_init_1 20 rfl) (by decide) (by decide) (fun c9 => absurd c9 (by decide)) (fun _ => ?_)
  refine x_aload_n (E_X10_init_1 21 rfl) rfl ?_
  refine x_getR (E_X10_init_1 22 rfl) fl_X10_86 rfl (by decide) rfl ?_
  refine x_iload_n (E_X10_init_1 23 rfl) rfl ?_
  refine x_sipush (z := 200) (E_X10_init_1 24 rfl) (by decide) ?_
  refine x_iast (E_X10_init_1 25 rfl) rfl (by decide) (by decide) ?_
  refine x_iinc (E_X10_init_1 26 rfl) rfl rfl ?_
  refine x_goto (E_X10_init_1 27 rfl) ?_
  refine x_iload_n (E_X10_init_1 18 rfl) rfl ?_
  refine x_bipush (z := 6) (E_X10_init_1 19 rfl) (by decide) ?_
  refine x_icmp_ge (E_X10_init_1 20 rfl) (by decide) (by decide) (fun c9 => absurd c9 (by decide)) (fun _ => ?_)
  refine x_aload_n (E_X10_init_1 21 rfl) rfl ?_
  refine x_getR (E_X10_init_1 22 rfl) fl_X10_86 rfl (by decide) rfl ?_
  refine x_iload_n (E_X10_init_1 23 rfl) rfl ?_
  refine x_sipush (z := 200) (E_X10_init_1 24 rfl) (by decide) ?_
  refine x_iast (E_X10_init_1 25 rfl) rfl (by decide) (by decide) ?_
  refine x_iinc (E_X10_init_1 26 rfl) rfl rfl ?_
  refine x_goto (E_X10_init_1 27 rfl) ?_
  refine x_iload_n (E_X10_init_1 18 rfl) rfl ?_
  refine x_bipush (z := 6) (E_X10_init_1 19 rfl) (by decide) ?_
  refine x_icmp_ge (E_X10_init_1 20 rfl) (by decide) (by decide) (fun c9 => absurd c9 (by decide)) (fun _ => ?_)
  refine x_aload_n (E_X10_init_1 21 rfl) rfl ?_
  refine x_getR (E_X10_init_1 22 rfl) fl_X10_86 rfl (by decide) rfl ?_
  refine x_iload_n (E_X10_init_1 23 rfl) rfl ?_
  refine x_sipush (z := 200) (E_X10_init_1 24 rfl) (by decide) ?_
  refine x_iast (E_X10_init_1 25 rfl) rfl (by decide) (by decide) ?_
  refine x_iinc (E_X10_init_1 26 rfl) rfl rfl ?_
  refine x_goto (E_X10_init_1 27 rfl) ?_
  refine x_iload_n (E_X10_init_1 18 rfl) rfl ?_
  refine x_bipush (z := 6) (E_X10_init_1 19 rfl) (by decide) ?_
  refine x_icmp_ge (E_X10_init_1 20 rfl) (by decide) (by decide) (fun c9 => absurd c9 (by decide)) (fun _ => ?_)
  refine x_aload_n (E_X10_init_1 21 rfl) rfl ?_
  refine x_getR (E_X10_init_1 22 rfl) fl_X10_86 rfl (by decide) rfl ?_
  refine x_iload_n (E_X10_init_1 23 rfl) rfl ?_
  refine x_sipush (z := 200) (E_X10_init_1 24 rfl) (by decide) ?_
  refine x_iast (E_X10_init_1 25 rfl) rfl (by decide) (by decide) ?_
  refine x_iinc (E_X10_init_1 26 rfl) rfl rfl ?_
  refine x_goto (E_X10_init_1 27 rfl) ?_
  refine x_iload_n (E_X10_init_1 18 rfl) rfl ?_
  refine x_bipush (z := 6) (E_X10_init_1 19 rfl) (by decide) ?_
  refine x_icmp_ge (E_X10_init_1 20 rfl) (by decide) (by decide) (fun c9 => absurd c9 (by decide)) (fun _ => ?_)
  refine x_aload_n (E_X10_init_1 21 rfl) rfl ?_
  refine x_getR (E_X10_init_1 22 rfl) fl_X10_86 rfl (by decide) rfl ?_
  refine x_iload_n (E_X10_init_1 23 rfl) rfl ?_
  refine x_sipush (z := 200) (E_X10_init_1 24 rfl) (by decide) ?_
  refine x_iast (E_X10_init_1 25 rfl) rfl (by decide) (by decide) ?_
  refine x_iinc (E_X10_init_1 26 rfl) rfl rfl ?_
  refine x_goto (E_X10_init_1 27 rfl) ?_
  refine x_iload_n (E_X10_init_1 18 rfl) rfl ?_
  refine x_bipush (z := 6) (E_X10_init_1 19 rfl) (by decide) ?_
  refine x_icmp_ge (E_X10_init_1 20 rfl) (by decide) (by decide) (fun _ => ?_) (fun c9 => absurd (by decide) c9)
  refine x_aload_n (E_X10_init_1 28 rfl) rfl ?_
  refine x_iconst (E_X10_init_1 29 rfl) ?_
  refine y_newa (n1 := 107) (ca1 := 106) (sl1 := 5202) (E_X10_init_1 30 rfl) rfl (Or.inl ⟨rfl, rfl⟩) ac_int rfl (by decide) rfl (by decide) rfl rfl rfl (by decide) rfl ?_
  refine x_putR (E_X10_init_1 31 rfl) fl_X10_90 rfl (by decide) rfl rfl ?_
  refine x_aload_n (E_X10_init_1 32 rfl) rfl ?_
  refine y_new (n1 := 108) (ca1 := 107) (sl1 := 5209) (E_X10_init_1 33 rfl) clk_4 ty_X4 cl_X10_93 in_X4 iz_X4 rfl (by decide) rfl rfl rfl (by decide) rfl rfl ?_
  refine x_dupr (E_X10_init_1 34 rfl) ?_
  refine y_callIN (ca1 := 113) (sl1 := 6253) (E_X10_init_1 35 rfl) ml_X10_95 mi_X4_init (ct_107 l G _ _ (zq_up (zq_up (zq_up (zq_up (zq_up (zq_up (zq_up (zq_up (zq_up zq_0 (by decide)) (by decide)) (by decide)) (by decide)) (by decide)) (by decide)) (by decide)) (by decide)) (by decide))) (by decide) rfl rfl (by decide) rfl rfl (by decide) ?_
  refine x_putR (E_X10_init_1 36 rfl) fl_X10_96 rfl (by decide) rfl rfl ?_
  refine x_vret (E_X10_init_1 37 rfl) trivial (by decide) (by decide) ⟨rfl, rfl⟩
set_option maxRecDepth 100000 in
theorem ct_114 (l : Launch) (G : GC) (ρ : Nat → Int → Option Nat) (σ : Nat → Int → Int) (hz : ∀ a, 115 ≤ a → a < 175 → σ a = fun _ => 0) : Ct l G M_X11_init 1 60 3934 [vr 114] (115, ρ, σ) (fun r S1 => r = none ∧ S1 = (175, upq (upq (upq (upq (upq (upq (upq (upq (upq (upq (upq (upq (upq (upq (upq (upq (upq (upq (upq (upq (upq (upq (upq (upq (upq (upq (upq (upq (upq (upq (upq (upq (upq (upq (upq (upq (upq (upq (upq (upq (upq (upq (upq (upq (upq (upq (upq (upq (upq (upq (upq (upq (upq (upq (upq (upq (upq (upq (upq (upq (ρ) 114 2 (some 115)) 114 3 (some 116)) 114 4 (some 117)) 114 5 (some 118)) 114 6 (some 119)) 114 7 (some 120)) 114 8 (some 121)) 114 10 (some 122)) 114 11 (some 123)) 114 12 (some 124)) 114 13 (some 125)) 114 14 (some 126)) 114 15 (some 127)) 114 16 (some 128)) 114 17 (some 129)) 114 18 (some 130)) 114 19 (some 131)) 114 20 (some 132)) 114 23 (some 133)) 114 24 (some 134)) 114 25 (some 135)) 114 26 (some 136)) 114 27 (some 137)) 114 28 (some 138)) 114 35 (some 139)) 114 36 (some 140)) 114 37 (some 141)) 114 40 (some 142)) 114 41 (some 143)) 114 42 (some 144)) 114 43 (some 145)) 114 44 (some 146)) 114 45 (some 147)) 114 46 (some 148)) 114 47 (some 149)) 114 48 (some 150)) 114 49 (some 151)) 114 50 (some 152)) 114 52 (some 153)) 114 53 (some 154)) 114 55 (some 155)) 114 56 (some 156)) 114 57 (some 157)) 114 58 (some 158)) 114 59 (some 159)) 114 61 (some 160)) 114 62 (some 161)) 114 64 (some 162)) 114 65 (some 163)) 114 66 (some 164)) 114 67 (some 165)) 114 68 (some 166)) 114 69 (some 167)) 114 71 (some 168)) 114 72 (some 169)) 114 73 (some 170)) 114 74 (some 171)) 114 76 (some 172)) 114 77 (some 173)) 114 78 (some 174), upq (upq (upq (upq (upq (upq (upq (σ) 114 32 (-1)) 121 0 (200)) 121 1 (200)) 121 2 (200)) 121 3 (200)) 121 4 (200)) 121 5 (200))) := by
  refine Ct.of rfl (by decide) ?_
  refine x_aload_n (E_X11_init_0 0 rfl) rfl ?_
  refine x_objinit (E_X11_init_0 1 rfl) ml_X11_1 oi_2 oi_3 (by decide) ?_
  refine x_aload_n (E_X11_init_0 2 rfl) rfl ?_
  refine x_bipush (z := 12) (E_X11_init_0 3 rfl) (by decide) ?_
  refine y_newa (n1 := 116) (ca1 := 1) (sl1 := 12) (E_X11_init_0 4 rfl) rfl (Or.inl ⟨rfl, rfl⟩) ac_int rfl (by decide) rfl (by decide) rfl rfl rfl (by decide) (hz 115 (by decide) (by decide)) ?_
  refine x_putR (E_X11_init_0 5 rfl) fl_X11_7 rfl (by decide) rfl rfl ?_
  refine x_aload_n (E_X11_init_0 6 rfl) rfl ?_
  refine x_bipush (z := 12) (E_X11_init_0 7 rfl) (by decide) ?_
  refine y_newa (n1 := 117) (ca1 := 2) (sl1 := 24) (E_X11_init_0 8 rfl) rfl (Or.inl ⟨rfl, rfl⟩) ac_int rfl (by decide) rfl (by decide) rfl rfl rfl (by decide) (hz 116 (by decide) (by decide)) ?_
  refine x_putR (E_X11_init_0 9 rfl) fl_X11_13 rfl (by decide) rfl rfl ?_
  refine x_aload_n (E_X11_init_0 10 rfl) rfl ?_
  refine x_bipush (z := 12) (E_X11_init_0 11 rfl) (by decide) ?_
  refine y_newa (n1 := 118) (ca1 := 3) (sl1 := 36) (E_X11_init_0 12 rfl) rfl (Or.inl ⟨rfl, rfl⟩) ac_int rfl (by decide) rfl (by decide) rfl rfl rfl (by decide) (hz 117 (by decide) (by decide)) ?_
  refine x_putR (E_X11_init_0 13 rfl) fl_X11_16 rfl (by decide) rfl rfl ?_
  refine x_aload_n (E_X11_init_0 14 rfl) rfl ?_
  refine x_bipush (z := 12) (E_X11_init_0 15 rfl) (by decide) ?_
  refine y_newa (n1 := 119) (ca1 := 4) (sl1 := 48) (E_X11_init_0 16 rfl) rfl (Or.inl ⟨rfl, rfl⟩) ac_int rfl (by decide) rfl (by decide) rfl rfl rfl (by decide) (hz 118 (by decide) (by decide)) ?_
  refine x_putR (E_X11_init_0 17 rfl) fl_X11_19 rfl (by decide) rfl rfl ?_
  refine x_aload_n (E_X11_init_0 18 rfl) rfl ?_
  refine x_bipush (z := 12) (E_X11_init_0 19 rfl) (by decide) ?_
  refine y_newa (n1 := 120) (ca1 := 5) (sl1 := 60) (E_X11_init_0 20 rfl) rfl (Or.inl ⟨rfl, rfl⟩) ac_int rfl (by decide) rfl (by decide) rfl rfl rfl (by decide) (hz 119 (by decide) (by decide)) ?_
  refine x_putR (E_X11_init_0 21 rfl) fl_X11_22 rfl (by decide) rfl rfl ?_
  refine x_aload_n (E_X11_init_0 22 rfl) rfl ?_
  refine x_bipush (z := 12) (E_X11_init_0 23 rfl) (by decide) ?_
  refine y_newa (n1 := 121) (ca1 := 6) (sl1 := 72) (E_X11_init_0 24 rfl) rfl (Or.inl ⟨rfl, rfl⟩) ac_int rfl (by decide) rfl (by decide) rfl rfl rfl (by decide) (hz 120 (by decide) (by decide)) ?_
  refine x_putR (E_X11_init_0 25 rfl) fl_X11_25 rfl (by decide) rfl rfl ?_
  refine x_aload_n (E_X11_init_0 26 rfl) rfl ?_
  refine x_bipush (z := 6) (E_X11_init_0 27 rfl) (by decide) ?_
  refine y_newa (n1 := 122) (ca1 := 7) (sl1 := 78) (E_X11_init_0 28 rfl) rfl (Or.inl ⟨rfl, rfl⟩) ac_int rfl (by decide) rfl (by decide) rfl rfl rfl (by decide) (hz 121 (by decide) (by decide)) ?_
  refine x_putR (E_X11_init_0 29 rfl) fl_X11_28 rfl (by decide) rfl rfl ?_
  refine x_aload_n (E_X11_init_0 30 rfl) rfl ?_
  refine x_bipush (z := 120) (E_X11_init_0 31 rfl) (by decide) ?_
  refine y_newa (n1 := 123) (ca1 := 8) (sl1 := 198) (E_X11_init_0 32 rfl) rfl (Or.inl ⟨rfl, rfl⟩) ac_int rfl (by decide) rfl (by decide) rfl rfl rfl (by decide) (hz 122 (by decide) (by decide)) ?_
  refine x_putR (E_X11_init_0 33 rfl) fl_X11_31 rfl (by decide) rfl rfl ?_
  refine x_aload_n (E_X11_init_0 34 rfl) rfl ?_
  refine x_bipush (z := 120) (E_X11_init_0 35 rfl) (by decide) ?_
  refine y_newa (n1 := 124) (ca1 := 9) (sl1 := 318) (E_X11_init_0 36 rfl) rfl (Or.inl ⟨rfl, rfl⟩) ac_int rfl (by decide) rfl (by decide) rfl rfl rfl (by decide) (hz 123 (by decide) (by decide)) ?_
  refine x_putR (E_X11_init_0 37 rfl) fl_X11_34 rfl (by decide) rfl rfl ?_
  refine x_aload_n (E_X11_init_0 38 rfl) rfl ?_
  refine x_bipush (z := 120) (E_X11_init_0 39 rfl) (by decide) ?_
  refine y_newa (n1 := 125) (ca1 := 10) (sl1 := 438) (E_X11_init_0 40 rfl) rfl (Or.inl ⟨rfl, rfl⟩) ac_int rfl (by decide) rfl (by decide) rfl rfl rfl (by decide) (hz 124 (by decide) (by decide)) ?_
  refine x_putR (E_X11_init_0 41 rfl) fl_X11_37 rfl (by decide) rfl rfl ?_
  refine x_aload_n (E_X11_init_0 42 rfl) rfl ?_
  refine x_bipush (z := 120) (E_X11_init_0 43 rfl) (by decide) ?_
  refine y_newa (n1 := 126) (ca1 := 11) (sl1 := 558) (E_X11_init_0 44 rfl) rfl (Or.inl ⟨rfl, rfl⟩) ac_int rfl (by decide) rfl (by decide) rfl rfl rfl (by decide) (hz 125 (by decide) (by decide)) ?_
  refine x_putR (E_X11_init_0 45 rfl) fl_X11_40 rfl (by decide) rfl rfl ?_
  refine x_aload_n (E_X11_init_0 46 rfl) rfl ?_
  refine x_bipush (z := 120) (E_X11_init_0 47 rfl) (by decide) ?_
  refine y_newa (n1 := 127) (ca1 := 12) (sl1 := 678) (E_X11_init_0 48 rfl) rfl (Or.inl ⟨rfl, rfl⟩) ac_int rfl (by decide) rfl (by decide) rfl rfl rfl (by decide) (hz 126 (by decide) (by decide)) ?_
  refine x_putR (E_X11_init_0 49 rfl) fl_X11_43 rfl (by decide) rfl rfl ?_
  refine x_aload_n (E_X11_init_0 50 rfl) rfl ?_
  refine x_bipush (z := 120) (E_X11_init_0 51 rfl) (by decide) ?_
  refine y_newa (n1 := 128) (ca1 := 13) (sl1 := 798) (E_X11_init_0 52 rfl) rfl (Or.inl ⟨rfl, rfl⟩) ac_int rfl (by decide) rfl (by decide) rfl rfl rfl (by decide) (hz 127 (by decide) (by decide)) ?_
  refine x_putR (E_X11_init_0 53 rfl) fl_X11_46 rfl (by decide) rfl rfl ?_
  refine x_aload_n (E_X11_init_0 54 rfl) rfl ?_
  refine x_bipush (z := 120) (E_X11_init_0 55 rfl) (by decide) ?_
  refine y_newa (n1 := 129) (ca1 := 14) (sl1 := 918) (E_X11_init_0 56 rfl) rfl (Or.inl ⟨rfl, rfl⟩) ac_int rfl (by decide) rfl (by decide) rfl rfl rfl (by decide) (hz 128 (by decide) (by decide)) ?_
  refine x_putR (E_X11_init_0 57 rfl) fl_X11_49 rfl (by decide) rfl rfl ?_
  refine x_aload_n (E_X11_init_0 58 rfl) rfl ?_
  refine x_bipush (z := 120) (E_X11_init_0 59 rfl) (by decide) ?_
  refine y_newa (n1 := 130) (ca1 := 15) (sl1 := 1038) (E_X11_init_1 0 rfl) rfl (Or.inr (Or.inl ⟨rfl, rfl⟩)) ac_boolean rfl (by decide) rfl (by decide) rfl rfl rfl (by decide) (hz 129 (by decide) (by decide)) ?_
  refine x_putR (E_X11_init_1 1 rfl) fl_X11_52 rfl (by decide) rfl rfl ?_
  refine x_aload_n (E_X11_init_1 2 rfl) rfl ?_
  refine x_bipush (z := 120) (E_X11_init_1 3 rfl) (by decide) ?_
  refine y_newa (n1 := 131) (ca1 := 16) (sl1 := 1158) (E_X11_init_1 4 rfl) rfl (Or.inr (Or.inl ⟨rfl, rfl⟩)) ac_boolean rfl (by decide) rfl (by decide) rfl rfl rfl (by decide) (hz 130 (by decide) (by decide)) ?_
  refine x_putR (E_X11_init_1 5 rfl) fl_X11_56 rfl (by decide) rfl rfl ?_
  refine x_aload_n (E_X11_init_1 6 rfl) rfl ?_
  refine x_bipush (z := 120) (E_X11_init_1 7 rfl) (by decide) ?_
  refine y_newa (n1 := 132) (ca1 := 17) (sl1 := 1278) (E_X11_init_1 8 rfl) rfl (Or.inr (Or.inl ⟨rfl, rfl⟩)) ac_boolean rfl (by decide) rfl (by decide) rfl rfl rfl (by decide) (hz 131 (by decide) (by decide)) ?_
  refine x_putR (E_X11_init_1 9 rfl) fl_X11_59 rfl (by decide) rfl rfl ?_
  refine x_aload_n (E_X11_init_1 10 rfl) rfl ?_
  refine x_bipush (z := 120) (E_X11_init_1 11 rfl) (by decide) ?_
  refine y_newa (n1 := 133) (ca1 := 18) (sl1 := 1398) (E_X11_init_1 12 rfl) rfl (Or.inl ⟨rfl, rfl⟩) ac_int rfl (by decide) rfl (by decide) rfl rfl rfl (by decide) (hz 132 (by decide) (by decide)) ?_
  refine x_putR (E_X11_init_1 13 rfl) fl_X11_62 rfl (by decide) rfl rfl ?_
  refine x_aload_n (E_X11_init_1 14 rfl) rfl ?_
  refine x_bipush (z := 8) (E_X11_init_1 15 rfl) (by decide) ?_
  refine y_newa (n1 := 134) (ca1 := 19) (sl1 := 1406) (E_X11_init_1 16 rfl) rfl (Or.inl ⟨rfl, rfl⟩) ac_int rfl (by decide) rfl (by decide) rfl rfl rfl (by decide) (hz 133 (by decide) (by decide)) ?_
  refine x_putR (E_X11_init_1 17 rfl) fl_X11_65 rfl (by decide) rfl rfl ?_
  refine x_aload_n (E_X11_init_1 18 rfl) rfl ?_
  refine x_bipush (z := 8) (E_X11_init_1 19 rfl) (by decide) ?_
  refine y_newa (n1 := 135) (ca1 := 20) (sl1 := 1414) (E_X11_init_1 20 rfl) rfl (Or.inl ⟨rfl, rfl⟩) ac_int rfl (by decide) rfl (by decide) rfl rfl rfl (by decide) (hz 134 (by decide) (by decide)) ?_
  refine x_putR (E_X11_init_1 21 rfl) fl_X11_68 rfl (by decide) rfl rfl ?_
  refine x_aload_n (E_X11_init_1 22 rfl) rfl ?_
  refine x_bipush (z := 80) (E_X11_init_1 23 rfl) (by decide) ?_
  refine y_newa (n1 := 136) (ca1 := 21) (sl1 := 1494) (E_X11_init_1 24 rfl) rfl (Or.inl ⟨rfl, rfl⟩) ac_int rfl (by decide) rfl (by decide) rfl rfl rfl (by decide) (hz 135 (by decide) (by decide)) ?_
  refine x_putR (E_X11_init_1 25 rfl) fl_X11_71 rfl (by decide) rfl rfl ?_
  refine x_aload_n (E_X11_init_1 26 rfl) rfl ?_
  refine x_bipush (z := 80) (E_X11_init_1 27 rfl) (by decide) ?_
  refine y_newa (n1 := 137) (ca1 := 22) (sl1 := 1574) (E_X11_init_1 28 rfl) rfl (Or.inl ⟨rfl, rfl⟩) ac_int rfl (by decide) rfl (by decide) rfl rfl rfl (by decide) (hz 136 (by decide) (by decide)) ?_
  refine x_putR (E_X11_init_1 29 rfl) fl_X11_74 rfl (by decide) rfl rfl ?_
  refine x_aload_n (E_X11_init_1 30 rfl) rfl ?_
  refine x_bipush (z := 80) (E_X11_init_1 31 rfl) (by decide) ?_
  refine y_newa (n1 := 138) (ca1 := 23) (sl1 := 1654) (E_X11_init_1 32 rfl) rfl (Or.inl ⟨rfl, rfl⟩) ac_int rfl (by decide) rfl (by decide) rfl rfl rfl (by decide) (hz 137 (by decide) (by decide)) ?_
  refine x_putR (E_X11_init_1 33 rfl) fl_X11_77 rfl (by decide) rfl rfl ?_
  refine x_aload_n (E_X11_init_1 34 rfl) rfl ?_
  refine x_sipush (z := 160) (E_X11_init_1 35 rfl) (by decide) ?_
  refine y_newa (n1 := 139) (ca1 := 24) (sl1 := 1814) (E_X11_init_1 36 rfl) rfl (Or.inl ⟨rfl, rfl⟩) ac_int rfl (by decide) rfl (by decide) rfl rfl rfl (by decide) (hz 138 (by decide) (by decide)) ?_
  refine x_putR (E_X11_init_1 37 rfl) fl_X11_80 rfl (by decide) rfl rfl ?_
  refine x_aload_n (E_X11_init_1 38 rfl) rfl ?_
  refine x_iconst (E_X11_init_1 39 rfl) ?_
  refine x_putI (E_X11_init_1 40 rfl) fl_X11_83 rfl (by decide) ?_
  refine x_aload_n (E_X11_init_1 41 rfl) rfl ?_
  refine x_bipush (z := 8) (E_X11_init_1 42 rfl) (by decide) ?_
  refine y_newa (n1 := 140) (ca1 := 25) (sl1 := 1822) (E_X11_init_1 43 rfl) rfl (Or.inr (Or.inl ⟨rfl, rfl⟩)) ac_boolean rfl (by decide) rfl (by decide) rfl rfl rfl (by decide) (hz 139 (by decide) (by decide)) ?_
  refine x_putR (E_X11_init_1 44 rfl) fl_X11_87 rfl (by decide) rfl rfl ?_
  refine x_aload_n (E_X11_init_1 45 rfl) rfl ?_
  refine x_bipush (z := 8) (E_X11_init_1 46 rfl) (by decide) ?_
  refine y_newa (n1 := 141) (ca1 := 26) (sl1 := 1830) (E_X11_init_1 47 rfl) rfl (Or.inl ⟨rfl, rfl⟩) ac_int rfl (by decide) rfl (by decide) rfl rfl rfl (by decide) (hz 140 (by decide) (by decide)) ?_
  refine x_putR (E_X11_init_1 48 rfl) fl_X11_90 rfl (by decide) rfl rfl ?_
  refine x_aload_n (E_X11_init_1 49 rfl) rfl ?_
  refine x_bipush (z := 9) (E_X11_init_1 50 rfl) (by decide) ?_
  refine y_newa (n1 := 142) (ca1 := 27) (sl1 := 1839) (E_X11_init_1 51 rfl) rfl (Or.inl ⟨rfl, rfl⟩) ac_int rfl (by decide) rfl (by decide) rfl rfl rfl (by decide) (hz 141 (by decide) (by decide)) ?_
  refine x_putR (E_X11_init_1 52 rfl) fl_X11_93 rfl (by decide) rfl rfl ?_
  refine x_aload_n (E_X11_init_1 53 rfl) rfl ?_
  refine x_bipush (z := 120) (E_X11_init_1 54 rfl) (by decide) ?_
  refine y_newa (n1 := 143) (ca1 := 28) (sl1 := 1959) (E_X11_init_1 55 rfl) rfl (Or.inr (Or.inl ⟨rfl, rfl⟩)) ac_boolean rfl (by decide) rfl (by decide) rfl rfl rfl (by decide) (hz 142 (by decide) (by decide)) ?_
  refine x_putR (E_X11_init_1 56 rfl) fl_X11_96 rfl (by decide) rfl rfl ?_
  refine x_aload_n (E_X11_init_1 57 rfl) rfl ?_
  refine x_bipush (z := 120) (E_X11_init_1 58 rfl) (by decide) ?_
  refine y_newa (n1 := 144) (ca1 := 29) (sl1 := 2079) (E_X11_init_1 59 rfl) rfl (Or.inl ⟨rfl, rfl⟩) ac_int rfl (by decide) rfl (by decide) rfl rfl rfl (by decide) (hz 143 (by decide) (by decide)) ?_
  refine x_putR (E_X11_init_2 0 rfl) fl_X11_99 rfl (by decide) rfl rfl ?_
  refine x_aload_n (E_X11_init_2 1 rfl) rfl ?_
  refine x_bipush (z := 120) (E_X11_init_2 2 rfl) (by decide) ?_
  refine y_newa (n1 := 145) (ca1 := 30) (sl1 := 2199) (E_X11_init_2 3 rfl) rfl (Or.inl ⟨rfl, rfl⟩) ac_int rfl (by decide) rfl (by decide) rfl rfl rfl (by decide) (hz 144 (by decide) (by decide)) ?_
  refine x_putR (E_X11_init_2 4 rfl) fl_X11_102 rfl (by decide) rfl rfl ?_
  refine x_aload_n (E_X11_init_2 5 rfl) rfl ?_
  refine x_bipush (z := 120) (E_X11_init_2 6 rfl) (by decide) ?_
  refine y_newa (n1 := 146) (ca1 := 31) (sl1 := 2319) (E_X11_init_2 7 rfl) rfl (Or.inl ⟨rfl, rfl⟩) ac_int rfl (by decide) rfl (by decide) rfl rfl rfl (by decide) (hz 145 (by decide) (by decide)) ?_
  refine x_putR (E_X11_init_2 8 rfl) fl_X11_105 rfl (by decide) rfl rfl ?_
  refine x_aload_n (E_X11_init_2 9 rfl) rfl ?_
  refine x_bipush (z := 120) (E_X11_init_2 10 rfl) (by decide) ?_
  refine y_newa (n1 := 147) (ca1 := 32) (sl1 := 2439) (E_X11_init_2 11 rfl) rfl (Or.inl ⟨rfl, rfl⟩) ac_int rfl (by decide) rfl (by decide) rfl rfl rfl (by decide) (hz 146 (by decide) (by decide)) ?_
  refine x_putR (E_X11_init_2 12 rfl) fl_X11_108 rfl (by decide) rfl rfl ?_
  refine x_aload_n (E_X11_init_2 13 rfl) rfl ?_
  refine x_bipush (z := 120) (E_X11_init_2 14 rfl) (by decide) ?_
  refine y_newa (n1 := 148) (ca1 := 33) (sl1 := 2559) (E_X11_init_2 15 rfl) rfl (Or.inl ⟨rfl, rfl⟩) ac_int rfl (by decide) rfl (by decide) rfl rfl rfl (by decide) (hz 147 (by decide) (by decide)) ?_
  refine x_putR (E_X11_init_2 16 rfl) fl_X11_111 rfl (by decide) rfl rfl ?_
  refine x_aload_n (E_X11_init_2 17 rfl) rfl ?_
  refine x_bipush (z := 120) (E_X11_init_2 18 rfl) (by decide) ?_
  refine y_newa (n1 := 149) (ca1 := 34) (sl1 := 2679) (E_X11_init_2 19 rfl) rfl (Or.inl ⟨rfl, rfl⟩) ac_int rfl (by decide) rfl (by decide) rfl rfl rfl (by decide) (hz 148 (by decide) (by decide)) ?_
  refine x_putR (E_X11_init_2 20 rfl) fl_X11_114 rfl (by decide) rfl rfl ?_
  refine x_aload_n (E_X11_init_2 21 rfl) rfl ?_
  refine x_bipush (z := 120) (E_X11_init_2 22 rfl) (by decide) ?_
  refine y_newa (n1 := 150) (ca1 := 35) (sl1 := 2799) (E_X11_init_2 23 rfl) rfl (Or.inl ⟨rfl, rfl⟩) ac_int rfl (by decide) rfl (by decide) rfl rfl rfl (by decide) (hz 149 (by decide) (by decide)) ?_
  refine x_putR (E_X11_init_2 24 rfl) fl_X11_117 rfl (by decide) rfl rfl ?_
  refine x_aload_n (E_X11_init_2 25 rfl) rfl ?_
  refine x_bipush (z := 12) (E_X11_init_2 26 rfl) (by decide) ?_
  refine y_newa (n1 := 151) (ca1 := 36) (sl1 := 2811) (E_X11_init_2 27 rfl) rfl (Or.inl ⟨rfl, rfl⟩) ac_int rfl (by decide) rfl (by decide) rfl rfl rfl (by decide) (hz 150 (by decide) (by decide)) ?_
  refine x_putR (E_X11_init_2 28 rfl) fl_X11_120 rfl (by decide) rfl rfl ?_
  refine x_aload_n (E_X11_init_2 29 rfl) rfl ?_
  refine x_bipush (z := 12) (E_X11_init_2 30 rfl) (by decide) ?_
  refine y_newa (n1 := 152) (ca1 := 37) (sl1 := 2823) (E_X11_init_2 31 rfl) rfl (Or.inl ⟨rfl, rfl⟩) ac_int rfl (by decide) rfl (by decide) rfl rfl rfl (by decide) (hz 151 (by decide) (by decide)) ?_
  refine x_putR (E_X11_init_2 32 rfl) fl_X11_123 rfl (by decide) rfl rfl ?_
  refine x_aload_n (E_X11_init_2 33 rfl) rfl ?_
  refine x_bipush (z := 120) (E_X11_init_2 34 rfl) (by decide) ?_
  refine y_newa (n1 := 153) (ca1 := 38) (sl1 := 2943) (E_X11_init_2 35 rfl) rfl (Or.inl ⟨rfl, rfl⟩) ac_int rfl (by decide) rfl (by decide) rfl rfl rfl (by decide) (hz 152 (by decide) (by decide)) ?_
  refine x_putR (E_X11_init_2 36 rfl) fl_X11_126 rfl (by decide) rfl rfl ?_
  refine x_aload_n (E_X11_init_2 37 rfl) rfl ?_
  refine x_bipush (z := 120) (E_X11_init_2 38 rfl) (by decide) ?_
  refine y_newa (n1 := 154) (ca1 := 39) (sl1 := 3063) (E_X11_init_2 39 rfl) rfl (Or.inl ⟨rfl, rfl⟩) ac_int rfl (by decide) rfl (by decide) rfl rfl rfl (by decide) (hz 153 (by decide) (by decide)) ?_
  refine x_putR (E_X11_init_2 40 rfl) fl_X11_129 rfl (by decide) rfl rfl ?_
  refine x_aload_n (E_X11_init_2 41 rfl) rfl ?_
  refine x_bipush (z := 120) (E_X11_init_2 42 rfl) (by decide) ?_
  refine y_newa (n1 := 155) (ca1 := 40) (sl1 := 3183) (E_X11_init_2 43 rfl) rfl (Or.inl ⟨rfl, rfl⟩) ac_int rfl (by decide) rfl (by decide) rfl rfl rfl (by decide) (hz 154 (by decide) (by decide)) ?_
  refine x_putR (E_X11_init_2 44 rfl) fl_X11_132 rfl (by decide) rfl rfl ?_
  refine x_aload_n (E_X11_init_2 45 rfl) rfl ?_
  refine x_bipush (z := 40) (E_X11_init_2 46 rfl) (by decide) ?_
  refine y_newa (n1 := 156) (ca1 := 41) (sl1 := 3223) (E_X11_init_2 47 rfl) rfl (Or.inl ⟨rfl, rfl⟩) ac_int rfl (by decide) rfl (by decide) rfl rfl rfl (by decide) (hz 155 (by decide) (by decide)) ?_
  refine x_putR (E_X11_init_2 48 rfl) fl_X11_135 rfl (by decide) rfl rfl ?_
  refine x_aload_n (E_X11_init_2 49 rfl) rfl ?_
  refine x_bipush (z := 40) (E_X11_init_2 50 rfl) (by decide) ?_
  refine y_newa (n1 := 157) (ca1 := 42) (sl1 := 3263) (E_X11_init_2 51 rfl) rfl (Or.inl ⟨rfl, rfl⟩) ac_int rfl (by decide) rfl (by decide) rfl rfl rfl (by decide) (hz 156 (by decide) (by decide)) ?_
  refine x_putR (E_X11_init_2 52 rfl) fl_X11_138 rfl (by decide) rfl rfl ?_
  refine x_aload_n (E_X11_init_2 53 rfl) rfl ?_
  refine x_bipush (z := 40) (E_X11_init_2 54 rfl) (by decide) ?_
  refine y_newa (n1 := 158) (ca1 := 43) (sl1 := 3303) (E_X11_init_2 55 rfl) rfl (Or.inl ⟨rfl, rfl⟩) ac_int rfl (by decide) rfl (by decide) rfl rfl rfl (by decide) (hz 157 (by decide) (by decide)) ?_
  refine x_putR (E_X11_init_2 56 rfl) fl_X11_141 rfl (by decide) rfl rfl ?_
  refine x_aload_n (E_X11_init_2 57 rfl) rfl ?_
  refine x_bipush (z := 40) (E_X11_init_2 58 rfl) (by decide) ?_
  refine y_newa (n1 := 159) (ca1 := 44) (sl1 := 3343) (E_X11_init_2 59 rfl) rfl (Or.inl ⟨rfl, rfl⟩) ac_int rfl (by decide) rfl (by decide) rfl rfl rfl (by decide) (hz 158 (by decide) (by decide)) ?_
  refine x_putR (E_X11_init_3 0 rfl) fl_X11_144 rfl (by decide) rfl rfl ?_
  refine x_aload_n (E_X11_init_3 1 rfl) rfl ?_
  refine x_bipush (z := 96) (E_X11_init_3 2 rfl) (by decide) ?_
  refine y_newa (n1 := 160) (ca1 := 45) (sl1 := 3439) (E_X11_init_3 3 rfl) rfl (Or.inl ⟨rfl, rfl⟩) ac_int rfl (by decide) rfl (by decide) rfl rfl rfl (by decide) (hz 159 (by decide) (by decide)) ?_
  refine x_putR (E_X11_init_3 4 rfl) fl_X11_147 rfl (by decide) rfl rfl ?_
  refine x_aload_n (E_X11_init_3 5 rfl) rfl ?_
  refine x_bipush (z := 32) (E_X11_init_3 6 rfl) (by decide) ?_
  refine y_newa (n1 := 161) (ca1 := 46) (sl1 := 3471) (E_X11_init_3 7 rfl) rfl (Or.inl ⟨rfl, rfl⟩) ac_int rfl (by decide) rfl (by decide) rfl rfl rfl (by decide) (hz 160 (by decide) (by decide)) ?_
  refine x_putR (E_X11_init_3 8 rfl) fl_X11_150 rfl (by decide) rfl rfl ?_
  refine x_aload_n (E_X11_init_3 9 rfl) rfl ?_
  refine x_sipush (z := 256) (E_X11_init_3 10 rfl) (by decide) ?_
  refine y_newa (n1 := 162) (ca1 := 47) (sl1 := 3727) (E_X11_init_3 11 rfl) rfl (Or.inl ⟨rfl, rfl⟩) ac_int rfl (by decide) rfl (by decide) rfl rfl rfl (by decide) (hz 161 (by decide) (by decide)) ?_
  refine x_putR (E_X11_init_3 12 rfl) fl_X11_153 rfl (by decide) rfl rfl ?_
  refine x_aload_n (E_X11_init_3 13 rfl) rfl ?_
  refine x_bipush (z := 24) (E_X11_init_3 14 rfl) (by decide) ?_
  refine y_newa (n1 := 163) (ca1 := 48) (sl1 := 3751) (E_X11_init_3 15 rfl) rfl (Or.inl ⟨rfl, rfl⟩) ac_int rfl (by decide) rfl (by decide) rfl rfl rfl (by decide) (hz 162 (by decide) (by decide)) ?_
  refine x_putR (E_X11_init_3 16 rfl) fl_X11_156 rfl (by decide) rfl rfl ?_
  refine x_aload_n (E_X11_init_3 17 rfl) rfl ?_
  refine x_bipush (z := 24) (E_X11_init_3 18 rfl) (by decide) ?_
  refine y_newa (n1 := 164) (ca1 := 49) (sl1 := 3775) (E_X11_init_3 19 rfl) rfl (Or.inl ⟨rfl, rfl⟩) ac_int rfl (by decide) rfl (by decide) rfl rfl rfl (by decide) (hz 163 (by decide) (by decide)) ?_
  refine x_putR (E_X11_init_3 20 rfl) fl_X11_159 rfl (by decide) rfl rfl ?_
  refine x_aload_n (E_X11_init_3 21 rfl) rfl ?_
  refine x_bipush (z := 24) (E_X11_init_3 22 rfl) (by decide) ?_
  refine y_newa (n1 := 165) (ca1 := 50) (sl1 := 3799) (E_X11_init_3 23 rfl) rfl (Or.inl ⟨rfl, rfl⟩) ac_int rfl (by decide) rfl (by decide) rfl rfl rfl (by decide) (hz 164 (by decide) (by decide)) ?_
  refine x_putR (E_X11_init_3 24 rfl) fl_X11_162 rfl (by decide) rfl rfl ?_
  refine x_aload_n (E_X11_init_3 25 rfl) rfl ?_
  refine x_bipush (z := 24) (E_X11_init_3 26 rfl) (by decide) ?_
  refine y_newa (n1 := 166) (ca1 := 51) (sl1 := 3823) (E_X11_init_3 27 rfl) rfl (Or.inl ⟨rfl, rfl⟩) ac_int rfl (by decide) rfl (by decide) rfl rfl rfl (by decide) (hz 165 (by decide) (by decide)) ?_
  refine x_putR (E_X11_init_3 28 rfl) fl_X11_165 rfl (by decide) rfl rfl ?_
  refine x_aload_n (E_X11_init_3 29 rfl) rfl ?_
  refine x_bipush (z := 24) (E_X11_init_3 30 rfl) (by decide) ?_
  refine y_newa (n1 := 167) (ca1 := 52) (sl1 := 3847) (E_X11_init_3 31 rfl) rfl (Or.inl ⟨rfl, rfl⟩) ac_int rfl (by decide) rfl (by decide) rfl rfl rfl (by decide) (hz 166 (by decide) (by decide)) ?_
  refine x_putR (E_X11_init_3 32 rfl) fl_X11_168 rfl (by decide) rfl rfl ?_
  refine x_aload_n (E_X11_init_3 33 rfl) rfl ?_
  refine x_bipush (z := 8) (E_X11_init_3 34 rfl) (by decide) ?_
  refine y_newa (n1 := 168) (ca1 := 53) (sl1 := 3855) (E_X11_init_3 35 rfl) rfl (Or.inl ⟨rfl, rfl⟩) ac_int rfl (by decide) rfl (by decide) rfl rfl rfl (by decide) (hz 167 (by decide) (by decide)) ?_
  refine x_putR (E_X11_init_3 36 rfl) fl_X11_171 rfl (by decide) rfl rfl ?_
  refine x_aload_n (E_X11_init_3 37 rfl) rfl ?_
  refine x_bipush (z := 16) (E_X11_init_3 38 rfl) (by decide) ?_
  refine y_newa (n1 := 169) (ca1 := 54) (sl1 := 3871) (E_X11_init_3 39 rfl) rfl (Or.inr (Or.inl ⟨rfl, rfl⟩)) ac_boolean rfl (by decide) rfl (by decide) rfl rfl rfl (by decide) (hz 168 (by decide) (by decide)) ?_
  refine x_putR (E_X11_init_3 40 rfl) fl_X11_174 rfl (by decide) rfl rfl ?_
  refine x_aload_n (E_X11_init_3 41 rfl) rfl ?_
  refine x_bipush (z := 8) (E_X11_init_3 42 rfl) (by decide) ?_
  refine y_newa (n1 := 170) (ca1 := 55) (sl1 := 3879) (E_X11_init_3 43 rfl) rfl (Or.inl ⟨rfl, rfl⟩) ac_int rfl (by decide) rfl (by decide) rfl rfl rfl (by decide) (hz 169 (by decide) (by decide)) ?_
  refine x_putR (E_X11_init_3 44 rfl) fl_X11_177 rfl (by decide) rfl rfl ?_
  refine x_aload_n (E_X11_init_3 45 rfl) rfl ?_
  refine x_bipush (z := 8) (E_X11_init_3 46 rfl) (by decide) ?_
  refine y_newa (n1 := 171) (ca1 := 56) (sl1 := 3887) (E_X11_init_3 47 rfl) rfl (Or.inl ⟨rfl, rfl⟩) ac_int rfl (by decide) rfl (by decide) rfl rfl rfl (by decide) (hz 170 (by decide) (by decide)) ?_
  refine x_putR (E_X11_init_3 48 rfl) fl_X11_180 rfl (by decide) rfl rfl ?_
  refine x_aload_n (E_X11_init_3 49 rfl) rfl ?_
  refine x_bipush (z := 8) (E_X11_init_3 50 rfl) (by decide) ?_
  refine y_newa (n1 := 172) (ca1 := 57) (sl1 := 3895) (E_X11_init_3 51 rfl) rfl (Or.inl ⟨rfl, rfl⟩) ac_int rfl (by decide) rfl (by decide) rfl rfl rfl (by decide) (hz 171 (by decide) (by decide)) ?_
  refine x_putR (E_X11_init_3 52 rfl) fl_X11_183 rfl (by decide) rfl rfl ?_
  refine x_aload_n (E_X11_init_3 53 rfl) rfl ?_
  refine x_bipush (z := 6) (E_X11_init_3 54 rfl) (by decide) ?_
  refine y_newa (n1 := 173) (ca1 := 58) (sl1 := 3901) (E_X11_init_3 55 rfl) rfl (Or.inl ⟨rfl, rfl⟩) ac_int rfl (by decide) rfl (by decide) rfl rfl rfl (by decide) (hz 172 (by decide) (by decide)) ?_
  refine x_putR (E_X11_init_3 56 rfl) fl_X11_186 rfl (by decide) rfl rfl ?_
  refine x_aload_n (E_X11_init_3 57 rfl) rfl ?_
  refine x_bipush (z := 24) (E_X11_init_3 58 rfl) (by decide) ?_
  refine y_newa (n1 := 174) (ca1 := 59) (sl1 := 3925) (E_X11_init_3 59 rfl) rfl (Or.inl ⟨rfl, rfl⟩) ac_int rfl (by decide) rfl (by decide) rfl rfl rfl (by decide) (hz 173 (by decide) (by decide)) ?_
  refine x_putR (E_X11_init_4 0 rfl) fl_X11_189 rfl (by decide) rfl rfl ?_
  refine x_aload_n (E_X11_init_4 1 rfl) rfl ?_
  refine x_bipush (z := 9) (E_X11_init_4 2 rfl) (by decide) ?_
  refine y_newa (n1 := 175) (ca1 := 60) (sl1 := 3934) (E_X11_init_4 3 rfl) rfl (Or.inl ⟨rfl, rfl⟩) ac_int rfl (by decide) rfl (by decide) rfl rfl rfl (by decide) (hz 174 (by decide) (by decide)) ?_
  refine x_putR (E_X11_init_4 4 rfl) fl_X11_192 rfl (by decide) rfl rfl ?_
  refine x_iconst (E_X11_init_4 5 rfl) ?_
  refine x_istore_n (E_X11_init_4 6 rfl) rfl ?_
  refine x_iload_n (E_X11_init_4 7 rfl) rfl ?_
  refine x_bipush (z := 6) (E_X11_init_4 8 rfl) (by decide) ?_
  refine x_icmp_ge (E_X11_init_4 9 rfl) (by decide) (by decide) (fun c9 => absurd c9 (by decide)) (fun _ => ?_)
  refine x_aload_n (E_X11_init_4 10 rfl) rfl ?_
  refine x_getR (E_X11_init_4 11 rfl) fl_X11_28 rfl (by decide) rfl ?_
  refine x_iload_n (E_X11_init_4 12 rfl) rfl ?_
  refine x_sipush (z := 200) (E_X11_init_4 13 rfl) (by decide) ?_
  refine x_iast (E_X11_init_4 14 rfl) rfl (by decide) (by decide) ?_
  refine x_iinc (E_X11_init_4 15 rfl) rfl rfl ?_
  refine x_goto (E_X11_init_4 16 rfl) ?_
  refine x_iload_n (E_X11_init_4 7 rfl) rfl ?_
  refine x_bipush (z := 6) (E_X11_init_4 8 rfl) (by decide) ?_
  refine x_icmp_ge (E_X11_init_4 9 rfl) (by decide) (by decide) (fun c9 => absurd c9 (by decide)) (fun _ => ?_)
  refine x_aload_n (E_X11_init_4 10 rfl) rfl ?_
  refine x_getR (E_X11_init_4 11 rfl) fl_X11_28 rfl (by decide) rfl ?_
  refine x_iload_n (E_X11_init_4 12 rfl) rfl ?_
  refine x_sipush (z := 200) (E_X11_init_4 13 rfl) (by decide) ?_
  refine x_iast (E_X11_init_4 14 rfl) rfl (by decide) (by decide) ?_
  refine x_iinc (E_X11_init_4 15 rfl) rfl rfl ?_
  refine x_goto (E_X11_init_4 16 rfl) ?_
  refine x_iload_n (E_X11_init_4 7 rfl) rfl ?_
  refine x_bipush (z := 6) (E_X11_init_4 8 rfl) (by decide) ?_
  refine x_icmp_ge (E_X11_init_4 9 rfl) (by decide) (by decide) (fun c9 => absurd c9 (by decide)) (fun _ => ?_)
  refine x_aload_n (E_X11_init_4 10 rfl) rfl ?_
  refine x_getR (E_X11_init_4 11 rfl) fl_X11_28 rfl (by decide) rfl ?_
  refine x_iload_n (E_X11_init_4 12 rfl) rfl ?_
  refine x_sipush (z := 200) (E_X11_init_4 13 rfl) (by decide) ?_
  refine x_iast (E_X11_init_4 14 rfl) rfl (by decide) (by decide) ?_
  refine x_iinc (E_X11_init_4 15 rfl) rfl rfl ?_
  refine x_goto (E_X11_init_4 16 rfl) ?_
  refine x_iload_n (E_X11_init_4 7 rfl) rfl ?_
  refine x_bipush (z := 6) (E_X11_init_4 8 rfl) (by decide) ?_
  refine x_icmp_ge (E_X11_init_4 9 rfl) (by decide) (by decide) (fun c9 => absurd c9 (by decide)) (fun _ => ?_)
  refine x_aload_n (E_X11_init_4 10 rfl) rfl ?_
  refine x_getR (E_X11_init_4 11 rfl) fl_X11_28 rfl (by decide) rfl ?_
  refine x_iload_n (E_X11_init_4 12 rfl) rfl ?_
  refine x_sipush (z := 200) (E_X11_init_4 13 rfl) (by decide) ?_
  refine x_iast (E_X11_init_4 14 rfl) rfl (by decide) (by decide) ?_
  refine x_iinc (E_X11_init_4 15 rfl) rfl rfl ?_
  refine x_goto (E_X11_init_4 16 rfl) ?_
  refine x_iload_n (E_X11_init_4 7 rfl) rfl ?_
  refine x_bipush (z := 6) (E_X11_init_4 8 rfl) (by decide) ?_
  refine x_icmp_ge (E_X11_init_4 9 rfl) (by decide) (by decide) (fun c9 => absurd c9 (by decide)) (fun _ => ?_)
  refine x_aload_n (E_X11_init_4 10 rfl) rfl ?_
  refine x_getR (E_X11_init_4 11 rfl) fl_X11_28 rfl (by decide) rfl ?_
  refine x_iload_n (E_X11_init_4 12 rfl) rfl ?_
  refine x_sipush (z := 200) (E_X11_init_4 13 rfl) (by decide) ?_
  refine x_iast (E_X11_init_4 14 rfl) rfl (by decide) (by decide) ?_
  refine x_iinc (E_X11_init_4 15 rfl) rfl rfl ?_
  refine x_goto (E_X11_init_4 16 rfl) ?_
  refine x_iload_n (E_X11_init_4 7 rfl) rfl ?_
  refine x_bipush (z := 6) (E_X11_init_4 8 rfl) (by decide) ?_
  refine x_icmp_ge (E_X11_init_4 9 rfl) (by decide) (by decide) (fun c9 => absurd c9 (by decide)) (fun _ => ?_)
  refine x_aload_n (E_X11_init_4 10 rfl) rfl ?_
  refine x_getR (E_X11_init_4 11 rfl) fl_X11_28 rfl (by decide) rfl ?_
  refine x_iload_n (E_X11_init_4 12 rfl) rfl ?_
  refine x_sipush (z := 200) (E_X11_init_4 13 rfl) (by decide) ?_
  refine x_iast (E_X11_init_4 14 rfl) rfl (by decide) (by decide) ?_
  refine x_iinc (E_X11_init_4 15 rfl) rfl rfl ?_
  refine x_goto (E_X11_init_4 16 rfl) ?_
  refine x_iload_n (E_X11_init_4 7 rfl) rfl ?_
  refine x_bipush (z := 6) (E_X11_init_4 8 rfl) (by decide) ?_
  refine x_icmp_ge (E_X11_init_4 9 rfl) (by decide) (by decide) (fun _ => ?_) (fun c9 => absurd (by decide) c9)
  refine x_vret (E_X11_init_4 17 rfl) trivial (by decide) (by decide) ⟨rfl, rfl⟩
def ρB : Nat → Int → Option Nat := upq (upq (upq (upq (upq (upq (upq (upq (upq (upq (upq (upq (upq (upq (upq (upq (upq (upq (upq (upq (upq (upq (upq (upq (upq (upq (upq (upq (upq (upq (upq (upq (upq (upq (upq (upq (upq (upq (upq (upq (upq (upq (upq (upq (upq (upq (upq (upq (upq (upq (upq (upq (upq (upq (upq (upq (upq (upq (upq (upq (ρA) 114 2 (some 115)) 114 3 (some 116)) 114 4 (some 117)) 114 5 (some 118)) 114 6 (some 119)) 114 7 (some 120)) 114 8 (some 121)) 114 10 (some 122)) 114 11 (some 123)) 114 12 (some 124)) 114 13 (some 125)) 114 14 (some 126)) 114 15 (some 127)) 114 16 (some 128)) 114 17 (some 129)) 114 18 (some 130)) 114 19 (some 131)) 114 20 (some 132)) 114 23 (some 133)) 114 24 (some 134)) 114 25 (some 135)) 114 26 (some 136)) 114 27 (some 137)) 114 28 (some 138)) 114 35 (some 139)) 114 36 (some 140)) 114 37 (some 141)) 114 40 (some 142)) 114 41 (some 143)) 114 42 (some 144)) 114 43 (some 145)) 114 44 (some 146)) 114 45 (some 147)) 114 46 (some 148)) 114 47 (some 149)) 114 48 (some 150)) 114 49 (some 151)) 114 50 (some 152)) 114 52 (some 153)) 114 53 (some 154)) 114 55 (some 155)) 114 56 (some 156)) 114 57 (some 157)) 114 58 (some 158)) 114 59 (some 159)) 114 61 (some 160)) 114 62 (some 161)) 114 64 (some 162)) 114 65 (some 163)) 114 66 (some 164)) 114 67 (some 165)) 114 68 (some 166)) 114 69 (some 167)) 114 71 (some 168)) 114 72 (some 169)) 114 73 (some 170)) 114 74 (some 171)) 114 76 (some 172)) 114 77 (some 173)) 114 78 (some 174)
def σB : Nat → Int → Int := upq (upq (upq (upq (upq (upq (upq (σA) 114 32 (-1)) 121 0 (200)) 121 1 (200)) 121 2 (200)) 121 3 (200)) 121 4 (200)) 121 5 (200)
end
section
/-! THE START: what the Statement gives of the law's entry is Kst; the law's run in the own machine gives whole_start -/
theorem tb_at {args : Array Value} {s : State} (hts : ∀ w ∈ lw_tbl, w.before args s = true) : ∀ w ∈ tbG, w.before args s = true := fun w hw => hts w (List.mem_filter.mp hw).1
def flq0 : List Cond := flatC (Jvm.Cond.and given_1 narrow_1)
def chkq (w : Cond) : Bool := decide (w ∈ flq0)
abbrev tSq (q : String × String × List Int) : Term := .static q.1 q.2.1 "[I"
abbrev tTq (i : Nat) : Term := .string "WharfPapers$Reader" ((txq.getD i (0, "", [])).1)
theorem ck_arr : stq.all (fun q => chkq (.arrayOf (tSq q) .int) && (chkq (.eq (.length (tSq q)) (.int (Int32.ofNat q.2.2.length))) && (List.range q.2.2.length).all (fun j => chkq (.eq (.elem (tSq q) (.int (Int32.ofNat j))) (.int (Int32.ofInt (q.2.2.getD j 0))))))) = true := by decide +kernel
theorem ck_txt : (List.range 13).all (fun i => chkq (.exactly (tTq i) "java/lang/String") && (chkq (.eq (.field (tTq i) "java/lang/String" "coder" "B") (.int 0)) && (chkq (.arrayOf (.field (tTq i) "java/lang/String" "value" "[B") .byte) && (chkq (.eq (.length (.field (tTq i) "java/lang/String" "value" "[B")) (.int (Int32.ofNat (lenq.getD i 0)))) && (List.range (lenq.getD i 0)).all (fun j => chkq (.eq (.elem (.field (tTq i) "java/lang/String" "value" "[B") (.int (Int32.ofNat j))) (.int ((bytq.getD i []).getD j 0)))))))) = true := by decide +kernel
def prq : List (Nat × Nat × Nat) := [(0, 1, 100), (0, 2, 109), (0, 3, 119), (0, 4, 132), (0, 5, 144), (0, 6, 159), (0, 7, 174), (0, 8, 188), (0, 9, 203), (0, 10, 220), (0, 11, 240), (0, 12, 257), (1, 2, 110), (1, 3, 120), (1, 4, 133), (1, 5, 145), (1, 6, 160), (1, 7, 175), (1, 8, 189), (1, 9, 204), (1, 10, 221), (1, 11, 241), (1, 12, 258), (2, 3, 121), (2, 4, 134), (2, 5, 146), (2, 6, 161), (2, 7, 176), (2, 8, 190), (2, 9, 205), (2, 10, 222), (2, 11, 242), (2, 12, 259), (3, 4, 135), (3, 5, 147), (3, 6, 162), (3, 7, 177), (3, 8, 191), (3, 9, 206), (3, 10, 223), (3, 11, 243), (3, 12, 260), (4, 5, 148), (4, 6, 163), (4, 7, 178), (4, 8, 192), (4, 9, 207), (4, 10, 224), (4, 11, 244), (4, 12, 261), (5, 6, 164), (5, 7, 179), (5, 8, 193), (5, 9, 208), (5, 10, 225), (5, 11, 245), (5, 12, 262), (6, 7, 180), (6, 8, 194), (6, 9, 209), (6, 10, 226), (6, 11, 246), (6, 12, 263), (7, 8, 195), (7, 9, 210), (7, 10, 227), (7, 11, 247), (7, 12, 264), (8, 9, 211), (8, 10, 228), (8, 11, 248), (8, 12, 265), (9, 10, 229), (9, 11, 249), (9, 12, 266), (10, 11, 250), (10, 12, 267), (11, 12, 268)]
theorem ck_pr : prq.all (fun q => decide (nthq flq0 q.2.2 = some (.not (.eq (tTq q.1) (tTq q.2.1))))) = true := by decide +kernel
theorem ck_pc : (List.range 13).all (fun i => (List.range 13).all (fun j => decide (j ≤ i) || prq.any (fun q => decide (q.1 = i) && decide (q.2.1 = j)))) = true := by decide +kernel
theorem ck_ne1 {i j : Nat} (hi : i < 13) (hj : j < 13) (h : i < j) : Cond.not (.eq (tTq i) (tTq j)) ∈ flq0 := by
  have h1 := List.all_eq_true.mp (List.all_eq_true.mp ck_pc i (List.mem_range.mpr hi)) j (List.mem_range.mpr hj)
  rw [decide_eq_false (by omega), Bool.false_or, List.any_eq_true] at h1
  obtain ⟨q, hq, h2⟩ := h1
  simp only [Bool.and_eq_true, decide_eq_true_eq] at h2
  have h3 := of_decide_eq_true (List.all_eq_true.mp ck_pr q hq)
  rw [h2.1, h2.2] at h3
  exact nthq_mem h3
theorem ck_oth : (chkq (.eq (.static "java/lang/String" "COMPACT_STRINGS" "Z") (.int 1)) && chkq (.isRef (.static "jdk/internal/util/Preconditions" "SIOOBE_FORMATTER" sfmt))) = true := by decide +kernel
theorem ck_len : ∀ i, i < 13 → lenq.getD i 0 < 2 ^ 31 := by decide +kernel
theorem ck_lays : stq.all (fun q => decide (Cond.laysStatic q.1 q.2.1 "[I" ∈ lw_tbl) && decide (Cond.initialized q.1 ∈ lw_tbl)) = true := by decide +kernel
theorem ck_str : (List.range 13).all (fun i => decide (Cond.stringRef "WharfPapers$Reader" (txq.getD i (0, "", [])).1 (txq.getD i (0, "", [])).2.1 ∈ lw_tbl)) = true := by decide +kernel
theorem ck_nst : nstq.all (fun q => decide (Cond.methodLinkNest q.1 q.2.1 q.2.2.1 q.2.2.2 ∈ lw_tbl)) = true := by decide +kernel
theorem ck_sto : (decide (Cond.laysStatic "java/lang/String" "COMPACT_STRINGS" "Z" ∈ lw_tbl) && (decide (Cond.initialized "java/lang/String" ∈ lw_tbl) && (decide (Cond.laysStatic "jdk/internal/util/Preconditions" "SIOOBE_FORMATTER" sfmt ∈ lw_tbl) && (decide (Cond.initialized "jdk/internal/util/Preconditions" ∈ lw_tbl) && decide (Cond.arrayOver (.array .int) ∈ lw_tbl))))) = true := by decide +kernel
theorem ck_of {s : State} {args : Array Value} (hf : ∀ c ∈ flq0, c.before args s = true) {w : Cond} (h : chkq w = true) : w.before args s = true := hf w (of_decide_eq_true h)
/-- the classes' numbers and slots -/
theorem st_cls {s : State} {args : Array Value} (hts : ∀ w ∈ tbG, w.before args s = true) : ∃ D : va_G, va_K D vwCl [] s := by
  obtain ⟨c0, i0, h0⟩ := u_known (C := RX0) (T := TX0) (N := 3) (n := 3) hts u_X0 (hts _ in_X0)
  obtain ⟨c1, i1, h1⟩ := u_known (C := RX1) (T := TX1) (N := 10) (n := 10) hts u_X1 (hts _ in_X1)
  obtain ⟨c2, i2, h2⟩ := u_known (C := RX2) (T := TX2) (N := 11) (n := 11) hts u_X2 (hts _ in_X2)
  obtain ⟨c3, i3, h3⟩ := u_known (C := RX3) (T := TX3) (N := 6) (n := 6) hts u_X3 (hts _ in_X3)
  obtain ⟨c4, i4, h4⟩ := u_known (C := RX4) (T := TX4) (N := 7) (n := 7) hts u_X4 (hts _ in_X4)
  obtain ⟨c5, i5, h5⟩ := u_known (C := RX5) (T := TX5) (N := 9) (n := 9) hts u_X5 (hts _ in_X5)
  obtain ⟨c6, i6, h6⟩ := u_known (C := RX6) (T := TX6) (N := 8) (n := 8) hts u_X6 (hts _ in_X6)
  obtain ⟨c7, i7, h7⟩ := u_known (C := RX7) (T := TX7) (N := 16) (n := 16) hts u_X7 (hts _ in_X7)
  obtain ⟨c8, i8, h8⟩ := u_known (C := RX8) (T := TX8) (N := 9) (n := 9) hts u_X8 (hts _ in_X8)
  obtain ⟨c9, i9, h9⟩ := u_known (C := RX9) (T := TX9) (N := 5) (n := 5) hts u_X9 (hts _ in_X9)
  obtain ⟨c10, i10, h10⟩ := u_known (C := RX10) (T := TX10) (N := 15) (n := 15) hts u_X10 (hts _ in_X10)
  obtain ⟨c11, i11, h11⟩ := u_known (C := RX11) (T := TX11) (N := 79) (n := 79) hts u_X11 (hts _ in_X11)
  refine ⟨(fun k => match k with | 0 => c0 | 1 => c1 | 2 => c2 | 3 => c3 | 4 => c4 | 5 => c5 | 6 => c6 | 7 => c7 | 8 => c8 | 9 => c9 | 10 => c10 | _ => c11, fun k => match k with | 0 => i0 | 1 => i1 | 2 => i2 | 3 => i3 | 4 => i4 | 5 => i5 | 6 => i6 | 7 => i7 | 8 => i8 | 9 => i9 | 10 => i10 | _ => i11), fun k q hq => ?_, fun k q h => by simp at h⟩
  match k, hq with
  | 0, hq => cases hq; exact h0
  | 1, hq => cases hq; exact h1
  | 2, hq => cases hq; exact h2
  | 3, hq => cases hq; exact h3
  | 4, hq => cases hq; exact h4
  | 5, hq => cases hq; exact h5
  | 6, hq => cases hq; exact h6
  | 7, hq => cases hq; exact h7
  | 8, hq => cases hq; exact h8
  | 9, hq => cases hq; exact h9
  | 10, hq => cases hq; exact h10
  | 11, hq => cases hq; exact h11
  | k + 12, hq => simp [vwCl] at hq
theorem st_kst {s : State} {b L : Nat} {xs : Nat → Int32} (hts : ∀ w ∈ lw_tbl, w.before #[Value.ref b] s = true) (hf : ∀ c ∈ flq0, c.before #[Value.ref b] s = true) (hX : va_X b L xs s s.heap) (hb : b < s.heap.size) (hL : L ≤ 3584) :
    ∃ (D : va_G) (ad : Nat → Nat), Kst (s.heap.size, s.heap, D, ad, L, fun j => (xs j).toInt) s ∧ ad 60 = b := by
  obtain ⟨D, hD⟩ := st_cls (tb_at hts)
  have hA : ∀ a : Nat, a < s.heap.size → ¬ (fun q : Nat => s.heap.size ≤ q) a := fun a h => Nat.not_le.mpr h
  have hA2 := List.all_eq_true.mp ck_arr
  have hLy := List.all_eq_true.mp ck_lays
  have harr : ∀ i : Nat, ∃ t : Nat, ∀ q : String × String × List Int, stq[i]? = some q → va_Z q.1 q.2.1 "[I" (.ref t) (fun a => s.heap.size ≤ a) s s.heap ∧ va_T .int t q.2.2.length (fun j => .int (Int32.ofInt (q.2.2.getD j 0))) (fun a => s.heap.size ≤ a) s s.heap := by
    intro i
    cases hq : stq[i]? with
    | none => exact ⟨0, fun q h => by cases h⟩
    | some q =>
      have hm := List.mem_of_getElem? hq
      have h1 := hA2 q hm
      simp only [Bool.and_eq_true, List.all_eq_true] at h1
      have h2 := hLy q hm
      simp only [Bool.and_eq_true, decide_eq_true_eq] at h2
      have hlen : q.2.2.length < 2 ^ 31 := by
        have : stq.all (fun q => decide (q.2.2.length < 100)) = true := by decide
        have := of_decide_eq_true (List.all_eq_true.mp this q hm)
        omega
      obtain ⟨t, ht, hT⟩ := va_Tof (f := fun j => .int (Int32.ofInt (q.2.2.getD j 0))) hlen (ck_of hf h1.1) (va_eqt (ck_of hf h1.2.1)) (fun j hj => va_eqt (ck_of hf (h1.2.2 j (List.mem_range.mpr hj)))) hA
      exact ⟨t, fun q' h => by cases h; exact ⟨va_Zof (hts _ h2.1) (hts _ h2.2) ht hA, hT⟩⟩
  obtain ⟨at1, hat⟩ := Classical.axiomOfChoice harr
  have hT2 := List.all_eq_true.mp ck_txt
  have hT3 : ∀ i, i < 13 → _ := fun i hi => hT2 i (List.mem_range.mpr hi)
  simp only [Bool.and_eq_true, List.all_eq_true, List.mem_range] at hT3
  obtain ⟨adK, adV, hS, hev⟩ := vk_Sof (args := #[Value.ref b]) (s := s) (N := 13) (tm := tTq) (len := lenq) (byt := bytq) (A := fun a => s.heap.size ≤ a) ck_len (fun i hi => ck_of hf (hT3 i hi).1) (fun i hi => ck_of hf (hT3 i hi).2.1) (fun i hi => ck_of hf (hT3 i hi).2.2.1) (fun i hi => ck_of hf (hT3 i hi).2.2.2.1) (fun i hi j hj => ck_of hf ((hT3 i hi).2.2.2.2 j hj)) (fun i j hi hj hne => by
    rcases Nat.lt_or_gt_of_ne hne with h | h
    · exact Or.inl (hf _ (ck_ne1 hi hj h))
    · exact Or.inr (hf _ (ck_ne1 hj hi h))) hA
  have hO := ck_oth
  simp only [Bool.and_eq_true] at hO
  have hO2 := ck_sto
  simp only [Bool.and_eq_true, decide_eq_true_eq] at hO2
  have hcs := va_Zof (A := fun a => s.heap.size ≤ a) (hts _ hO2.1) (hts _ hO2.2.1) (va_eqi (ck_of hf hO.1)) hA
  have hfm := va_Zqof (A := fun a => s.heap.size ≤ a) (hts _ hO2.2.2.1) (hts _ hO2.2.2.2.1) (ck_of hf hO.2) hA
  obtain ⟨fa, hfa⟩ : ∃ fa : Nat, va_Z "jdk/internal/util/Preconditions" "SIOOBE_FORMATTER" sfmt .null (fun a => s.heap.size ≤ a) s s.heap ∨ va_Z "jdk/internal/util/Preconditions" "SIOOBE_FORMATTER" sfmt (.ref fa) (fun a => s.heap.size ≤ a) s s.heap := by
    rcases hfm with h | ⟨t, h⟩
    · exact ⟨0, Or.inl h⟩
    · exact ⟨t, Or.inr h⟩
  refine ⟨D, fun k => if k < 10 then at1 k else if k < 30 then adK (k - 10) else if k < 50 then adV (k - 30) else if k = 50 then fa else b, ⟨hD, fun i q hq => ?_, fun i q hq => ?_, ?_, hcs, ?_, ?_, fun q hq => ?_, ?_⟩, ?_⟩
  · have hi : i < 6 := (List.getElem?_eq_some_iff.mp hq).1
    have e : adr (s.heap.size, s.heap, D, (fun k => if k < 10 then at1 k else if k < 30 then adK (k - 10) else if k < 50 then adV (k - 30) else if k = 50 then fa else b), L, fun j => (xs j).toInt) (1000 + i) = at1 i := by
      unfold adr
      rw [if_neg (by omega), show 1000 + i - 1000 = i by omega]
      exact if_pos (by omega)
    rw [e]
    exact hat i q hq
  · have hi : i < 13 := (List.getElem?_eq_some_iff.mp hq).1
    have e : adr (s.heap.size, s.heap, D, (fun k => if k < 10 then at1 k else if k < 30 then adK (k - 10) else if k < 50 then adV (k - 30) else if k = 50 then fa else b), L, fun j => (xs j).toInt) (1010 + i) = adK i := by
      unfold adr
      rw [if_neg (by omega), show 1010 + i - 1000 = 10 + i by omega]
      show (if 10 + i < 10 then _ else _) = _
      rw [if_neg (by omega), if_pos (by omega), show 10 + i - 10 = i by omega]
    rw [e]
    have h1 := of_decide_eq_true (List.all_eq_true.mp ck_str i (List.mem_range.mpr hi))
    have e2 : txq.getD i (0, "", []) = q := by rw [List.getD_eq_getElem?_getD, hq]; rfl
    have h2 := hev i hi
    unfold tTq at h2
    rw [e2] at h1 h2
    exact vk_R.of (hts _ h1) h2
  · have e1 : (fun i => adr (s.heap.size, s.heap, D, (fun k => if k < 10 then at1 k else if k < 30 then adK (k - 10) else if k < 50 then adV (k - 30) else if k = 50 then fa else b), L, fun j => (xs j).toInt) (1010 + i)) = fun i => if i < 20 then adK i else adr (s.heap.size, s.heap, D, (fun k => if k < 10 then at1 k else if k < 30 then adK (k - 10) else if k < 50 then adV (k - 30) else if k = 50 then fa else b), L, fun j => (xs j).toInt) (1010 + i) := by
      funext i
      by_cases hi : i < 20
      · rw [if_pos hi]
        unfold adr
        rw [if_neg (by omega), show 1010 + i - 1000 = 10 + i by omega]
        show (if 10 + i < 10 then _ else _) = _
        rw [if_neg (by omega), if_pos (by omega), show 10 + i - 10 = i by omega]
      · rw [if_neg hi]
    have eK : ∀ i, i < 13 → adr (s.heap.size, s.heap, D, (fun k => if k < 10 then at1 k else if k < 30 then adK (k - 10) else if k < 50 then adV (k - 30) else if k = 50 then fa else b), L, fun j => (xs j).toInt) (1010 + i) = adK i := fun i hi => by
      have := congrFun e1 i
      rw [if_pos (by omega)] at this
      exact this
    have eV : ∀ i, i < 13 → adr (s.heap.size, s.heap, D, (fun k => if k < 10 then at1 k else if k < 30 then adK (k - 10) else if k < 50 then adV (k - 30) else if k = 50 then fa else b), L, fun j => (xs j).toInt) (1030 + i) = adV i := fun i hi => by
      unfold adr
      rw [if_neg (by omega), show 1030 + i - 1000 = 30 + i by omega]
      show (if 30 + i < 10 then _ else _) = _
      rw [if_neg (by omega), if_neg (by omega), if_pos (by omega), show 30 + i - 30 = i by omega]
    refine ⟨fun i hi => ?_, fun i j hi hj h => ?_⟩
    · have := hS.1 i hi
      rw [← eK i hi, ← eV i hi] at this
      exact this
    · have h : adr _ (1010 + i) = adr _ (1010 + j) := h
      rw [eK i hi, eK j hj] at h
      exact hS.2 i j hi hj h
  · rcases hfa with h | h
    · exact ⟨none, h⟩
    · refine ⟨some 1050, ?_⟩
      have e : crf (s.heap.size, s.heap, D, (fun k => if k < 10 then at1 k else if k < 30 then adK (k - 10) else if k < 50 then adV (k - 30) else if k = 50 then fa else b), L, fun j => (xs j).toInt) (some 1050) = .ref fa := by
        show Value.ref (adr _ 1050) = _
        unfold adr
        rw [if_neg (by decide)]
        rfl
      rw [e]
      exact h
  · obtain ⟨scr, g1, g2, g3, g4, g5⟩ := hX
    have e : adr (s.heap.size, s.heap, D, (fun k => if k < 10 then at1 k else if k < 30 then adK (k - 10) else if k < 50 then adV (k - 30) else if k = 50 then fa else b), L, fun j => (xs j).toInt) 1060 = b := by
      unfold adr
      rw [if_neg (by decide)]
      rfl
    rw [e]
    refine ⟨scr, g1, g2, g3, by rw [g4]; exact Nat.le_refl _, by rw [g4], fun j hj => ?_, Nat.not_le.mpr hb⟩
    rw [g5 j hj]
    show _ = some (Value.int (Int32.ofInt (xs j).toInt))
    rw [Int32.ofInt_toInt]
  · exact va_Nw.of rfl (hts _ (of_decide_eq_true (List.all_eq_true.mp ck_nst q hq)))
  · exact hts _ hO2.2.2.2.2
  · rfl
/-- the law's run in the own machine -/
def LawRun : Prop := ∀ (l : Launch) (G : GC), G.2.2.2.2.1 ≤ 3584 → (∀ j, rgi (G.2.2.2.2.2 j)) → RunX l G M_L_law room_1 0 [some (vr 1060)] [] (0, fun _ _ => none, fun _ _ => 0) 0 0 (fun r _ => r = some (vi 1))
end
section
-- ===== end of PART A; then your names; then what follows =====
/-! THE CLAIM OUT OF ONE WALK OF THE LAW'S BODY. Your part is whole_start (and what it stands on); all else here is the same for every law, but numbers. -/
def R_law : String := "WharfPapersLaw"
def lw_P (b : Addr) (xs : List Int32) (args : Array Value) (s : State) : Prop := args = #[.ref b] ∧ s.IntsAt b xs ∧ xs.length ≤ 3584 ∧ (Jvm.Cond.and given_1 narrow_1).before args s = true
def lw_Q (_ : Array Value) (s : State) (o : Outcome) (t : State) : Prop := o = .returned (some (.int 1)) ∧ Framed s o t [] 600000 7302250
def lw_Z (below : List Frame) (a : Array Value) (s : State) : State → Prop := fun t => ∃ o, t.status = .running ∧ Ended t below o ∧ lw_Q a s o t
/-- the law's own end, with 1 on the stack, nothing written that was there before, its room as the claim has it -/
theorem lw_ret {p : Program} {l : Launch} {e : Env} {s : State} {m : MethodId} {below : List Frame} {meth : Method} {c : Code} {b : Nat} (hx : p.tables.exec = Jvm.exec) (hb : c.code = code) (hr : meth.sig.returnType = ret) (hlocks : meth.locks = false) {pc : Nat} {H : Heap} {ls : Array Slot} (hdg : decode code pc = .ok (.ireturn, 1)) : W p l e room_1 s m #[Value.ref b] below meth c H [] 600000 7302250 (lw_Z below #[Value.ref b] s) (F0 m pc ls [.int 1]) := by
  intro T hT X
  obtain ⟨fs, hret, hrun, hended, hW, hframe⟩ := X.leave (v := some (.int 1)) (hlocks := hlocks) (fun h => by rw [hr] at h; cases h)
  have hmeth' : T.vm.method? m = some meth := X.method'
  refine ⟨T.setFrames fs, ?_, .returned (some (.int 1)), hrun, hended, rfl, ⟨_, rfl⟩, hW, hframe⟩
  jvm_step X.here [X.here.top, hx, hb, hdg, hmeth', hr, ret, narrow_b1]
  (try refine ⟨rfl, ?_⟩); (try refine ⟨rfl, ?_⟩)
  first | (intro acts; rw [hret _ acts rfl rfl rfl]) | rw [hret _ _ rfl rfl rfl]
  exact Steps.refl _
/-- what holds at the law's entry: the machine, the code, the tables' words (any of lw_tbl by 'hts w (by decide +kernel)'), the script of L ints xs at the cell b, what the Statement gives of the start (any of its parts by flat_of_before) -/
def lw_At (p : Program) (s : State) (m : MethodId) (meth : Method) (c : Code) (b L : Nat) (xs : Nat → Int32) : Prop :=
  p.tables.exec = Jvm.exec ∧ c.code = code ∧ meth.sig.returnType = ret ∧ c.maxLocals = 4 ∧ s.vm.findClass R_law = some m.cls ∧ (∀ w ∈ lw_tbl, w.before #[Value.ref b] s = true) ∧ va_X b L xs s s.heap ∧ b < s.heap.size ∧ meth.locks = false ∧ (Jvm.Cond.and given_1 narrow_1).before #[Value.ref b] s = true

set_option maxHeartbeats 4000000 in
/-- the law's entry, out of its run in the own machine -/
theorem whole_of (HR : LawRun) {p : Program} {e : Env} {s : State} {m : MethodId} {below : List Frame} {meth : Method} {c : Code} (l : Launch) {b L : Nat} {xs : Nat → Int32} (hL : L ≤ 3584) (C0 : lw_At p s m meth c b L xs) (hnm : meth.name = "law") : W p l e room_1 s m #[Value.ref b] below meth c s.heap [] 0 0 (lw_Z below #[Value.ref b] s) (entryFrame m ([Value.ref b] : List Value).toArray 4) := by
  obtain ⟨hx, hb, hr, hml, hown, hts, hX, hbl, hlocks, hgv⟩ := C0
  obtain ⟨D, ad, hK, had⟩ := st_kst hts (flat_of_before _ hgv) hX hbl hL
  have hrun := HR l (s.heap.size, s.heap, D, ad, L, fun j => (xs j).toInt) hL (fun j => ⟨Int32.le_toInt _, Int32.toInt_lt _⟩)
  have hl0 := lv_entry [Value.ref b] (n := 4) (Nat.le_of_ble_eq_true rfl)
  rw [lg_entry_eq]
  generalize (lg_sl [Value.ref b] ++ List.replicate (4 - (lg_sl [Value.ref b]).length) Slot.unset).toArray = ls at hl0 ⊢
  have ea : adr (s.heap.size, s.heap, D, ad, L, fun j => (xs j).toInt) 1060 = b := by
    unfold adr
    rw [if_neg (by decide)]
    exact had
  have hl : lh (s.heap.size, s.heap, D, ad, L, fun j => (xs j).toInt) ls 4 [some (vr 1060)] := by
    unfold lh
    show lv_has ls 4 [(0, Value.ref (adr _ 1060))]
    rw [ea]
    exact hl0
  refine hrun p e s m #[Value.ref b] below meth c s.heap [] (lw_Z below #[Value.ref b] s) ls ⟨hx, hb, hml, hown, tb_at hts⟩ hnm hK ?_ ⟨⟨rfl, by decide⟩, fun q _ => rfl, fun k hk => absurd hk (Nat.not_lt_zero _)⟩ (fun q hq => by cases hq) hl
  intro r S' pc' ls' H' locs' ca' sl' hq hok hdec hI hlo h1 h2
  subst hq
  refine va_forget hlo ?_
  refine W.widen h1 h2 ?_
  exact lw_ret hx hb hr hlocks hdec
end
section
/-! small helpers -/
/-- a boolean answer that says C; nothing changes -/
def BP (C : Prop) (σ : Nat → Int → Int) : Int → (Nat → Int → Int) → Prop := fun z τ => σ = τ ∧ ((z = 1 ∧ C) ∨ (z = 0 ∧ ¬ C))
def IP (e : Int) (σ : Nat → Int → Int) : Int → (Nat → Int → Int) → Prop := fun z τ => z = e ∧ σ = τ
theorem x_tswD {l : Launch} {G : GC} {M : MI} {R : Room} {pc nx tg : Nat} {L : List (Option AV)} {st : List AV} {S : WS} {ca sl : Nat} {Q : Option AV → WS → Prop} {dflt lo hi x : Int} {offs : Array Int} {len : Nat} (hd : dok M.2.1 (pc, .tableswitch dflt lo hi offs, len, nx, tg)) (hx : rgi x) (h : x < lo ∨ hi < x) {t : Nat} (ht : (pc : Int) + dflt = (t : Int)) (k : RunX l G M R t L st S ca sl Q) : RunX l G M R pc L (vi x :: st) S ca sl Q := by
  intro p e s m args below meth c H locs Z ls hc hn hks hr hi9 hlo hl
  exact lv_tableOut hc.1 hc.2.1 hd.1 (by rw [o32 hx]; exact h) ht (k p e s m args below meth c H locs Z ls hc hn hks hr hi9 hlo hl)
theorem if_p {α : Sort _} {c : Prop} [Decidable c] {a b x : α} (h : c) (e : a = x) : (if c then a else b) = x := (if_pos h).trans e
theorem if_n {α : Sort _} {c : Prop} [Decidable c] {a b x : α} (h : ¬ c) (e : b = x) : (if c then a else b) = x := (if_neg h).trans e
theorem Ct.mono {l : Launch} {G : GC} {M : MI} {d mc ms : Nat} {As : List AV} {S : WS} {Q Q' : Option AV → WS → Prop} (h : Ct l G M d mc ms As S Q) (hQ : ∀ r S', Q r S' → Q' r S') : Ct l G M d mc ms As S Q' := by
  intro p e ha hc hk s m args below hf hap hP hK
  obtain ⟨k, o, h1, h2, h3, ⟨r, S', e1, e2, e3⟩, h4⟩ := h p e ha hc hk s m args below hf hap hP hK
  exact ⟨k, o, h1, h2, h3, ⟨r, S', e1, hQ _ _ e2, e3⟩, h4⟩
theorem CI_mono {l : Launch} {G : GC} {M : MI} {d : Nat} {As : List AV} {σ : Nat → Int → Int} {P P' : Int → (Nat → Int → Int) → Prop} (h : CI l G M d As σ P) (hP : ∀ z τ, P z τ → P' z τ) : CI l G M d As σ P' := Ct.mono h (fun r S' q => by
  obtain ⟨z, τ, a, b, c⟩ := q
  exact ⟨z, τ, a, b, hP z τ c⟩)
theorem CV_mono {l : Launch} {G : GC} {M : MI} {d : Nat} {As : List AV} {σ : Nat → Int → Int} {P P' : (Nat → Int → Int) → Prop} (h : CV l G M d As σ P) (hP : ∀ τ, P τ → P' τ) : CV l G M d As σ P' := Ct.mono h (fun r S' q => by
  obtain ⟨τ, a, b, c⟩ := q
  exact ⟨τ, a, b, hP τ c⟩)
section XE
variable {l : Launch} {G : GC} {M : MI} {R : Room} {pc nx tg : Nat} {L : List (Option AV)} {st : List AV} {ca sl : Nat} {Q : Option AV → WS → Prop}
variable {n0 k idx ci N j n : Nat} {ρ : Nat → Int → Option Nat} {σ : Nat → Int → Int} {z i v : Int} {f : Int → Int} {fin : Bool}
theorem x_getIe (hd : dok M.2.1 (pc, .getfield idx, 3, nx, tg)) (hf : flq M.1.cls idx ci N j z true fin) (hs : shp k = (ci, N)) (hk : k < n0) (hv : σ k z = v) (kk : RunX l G M R nx L (vi v :: st) (n0, ρ, σ) ca sl Q) : RunX l G M R pc L (vr k :: st) (n0, ρ, σ) ca sl Q := by
  subst hv
  exact x_getI hd hf hs hk kk
theorem x_ialde (hd : dok M.2.1 (pc, .iaload, 1, nx, tg)) (hs : shp k = (12, n)) (hk : k < n0) (hix : 0 ≤ i ∧ i < n) (hf : σ k = f) (kk : RunX l G M R nx L (vi (f i) :: st) (n0, ρ, σ) ca sl Q) : RunX l G M R pc L (vi i :: vr k :: st) (n0, ρ, σ) ca sl Q := by
  subst hf
  exact x_iald hd hs hk hix kk
theorem x_zalde (hd : dok M.2.1 (pc, .baload, 1, nx, tg)) (hs : shp k = (13, n)) (hk : k < n0) (hix : 0 ≤ i ∧ i < n) (hf : σ k = f) (kk : RunX l G M R nx L (vi (f i) :: st) (n0, ρ, σ) ca sl Q) : RunX l G M R pc L (vi i :: vr k :: st) (n0, ρ, σ) ca sl Q := by
  subst hf
  exact x_zald hd hs hk hix kk
theorem x_lalde (hd : dok M.2.1 (pc, .laload, 1, nx, tg)) (hs : shp k = (14, n)) (hk : k < n0) (hix : 0 ≤ i ∧ i < n) (hf : σ k = f) (kk : RunX l G M R nx L (vl (f i) :: st) (n0, ρ, σ) ca sl Q) : RunX l G M R pc L (vi i :: vr k :: st) (n0, ρ, σ) ca sl Q := by
  subst hf
  exact x_lald hd hs hk hix kk
end XE
variable {l : Launch} {G : GC} {σ : Nat → Int → Int}

section XMath
variable {M : MI} {R : Room} {pc nx tg idx : Nat} {L : List (Option AV)} {st : List AV} {S : WS} {ca sl : Nat} {Q : Option AV → WS → Prop}
theorem x_mmax {x y : Int} (hd : dok M.2.1 (pc, .invokestatic idx, 3, nx, tg)) (hlk : Cond.methodLink M.1.cls idx M_J9_max_7cf53.1 ∈ tbG) (hx : rgi x) (hy : rgi y) (hR : 1 ≤ R.frames ∧ 21 ≤ R.locals ∧ ca ≤ R.cells ∧ sl ≤ R.slots ∧ catq st ≤ 8) (kk : RunX l G M R nx L (vi (max x y) :: st) S ca sl Q) : RunX l G M R pc L (vi y :: vi x :: st) S ca sl Q := by
  intro p e s m args below meth c H locs Z ls hc hn hks hr hi hlo hl
  obtain ⟨hd1, hd2, hd3⟩ := hd
  dsimp only at hd1 hd2 hd3
  subst hd2
  obtain ⟨⟨m1, m2, m3⟩, m4⟩ := ms_J9_max_7cf53
  have k1 := kk p e s m args below meth c H locs Z ls hc hn hks hr hi hlo hl
  refine va_mmax hc.1 hc.2.1 (hc.2.2.1.trans hl.1.symm) hc.2.2.2.1 (hc.2.2.2.2 _ hlk) (hc.2.2.2.2 _ m4) (hc.2.2.2.2 _ m2) (hc.2.2.2.2 _ m1) hR.1 (by rw [catq_sum]; omega) hR.2.2.1 hR.2.2.2.1 hd1 ?_
  have e : (if Int32.ofInt x < Int32.ofInt y then Int32.ofInt y else Int32.ofInt x) = Int32.ofInt (max x y) := by
    by_cases h : x < y
    · rw [if_pos ((o32_lt hx hy).mpr h), Int.max_eq_right (by omega)]
    · rw [if_neg (fun q => h ((o32_lt hx hy).mp q)), Int.max_eq_left (by omega)]
  rw [e]
  exact k1
theorem x_mmin {x y : Int} (hd : dok M.2.1 (pc, .invokestatic idx, 3, nx, tg)) (hlk : Cond.methodLink M.1.cls idx M_J9_min_7cf53.1 ∈ tbG) (hx : rgi x) (hy : rgi y) (hR : 1 ≤ R.frames ∧ 21 ≤ R.locals ∧ ca ≤ R.cells ∧ sl ≤ R.slots ∧ catq st ≤ 8) (kk : RunX l G M R nx L (vi (min x y) :: st) S ca sl Q) : RunX l G M R pc L (vi y :: vi x :: st) S ca sl Q := by
  intro p e s m args below meth c H locs Z ls hc hn hks hr hi hlo hl
  obtain ⟨hd1, hd2, hd3⟩ := hd
  dsimp only at hd1 hd2 hd3
  subst hd2
  obtain ⟨⟨m1, m2, m3⟩, m4⟩ := ms_J9_min_7cf53
  have k1 := kk p e s m args below meth c H locs Z ls hc hn hks hr hi hlo hl
  refine va_mmin hc.1 hc.2.1 (hc.2.2.1.trans hl.1.symm) hc.2.2.2.1 (hc.2.2.2.2 _ hlk) (hc.2.2.2.2 _ m4) (hc.2.2.2.2 _ m2) (hc.2.2.2.2 _ m1) hR.1 (by rw [catq_sum]; omega) hR.2.2.1 hR.2.2.2.1 hd1 ?_
  have e : (if Int32.ofInt y < Int32.ofInt x then Int32.ofInt y else Int32.ofInt x) = Int32.ofInt (min x y) := by
    by_cases h : y < x
    · rw [if_pos ((o32_lt hy hx).mpr h), Int.min_eq_right (by omega)]
    · rw [if_neg (fun q => h ((o32_lt hy hx).mp q)), Int.min_eq_left (by omega)]
  rw [e]
  exact k1
theorem x_mminL {x y : Int} (hd : dok M.2.1 (pc, .invokestatic idx, 3, nx, tg)) (hlk : Cond.methodLink M.1.cls idx M_J9_min_f86c9.1 ∈ tbG) (hx : rgl x) (hy : rgl y) (hR : 1 ≤ R.frames ∧ 23 ≤ R.locals ∧ ca ≤ R.cells ∧ sl ≤ R.slots ∧ catq st ≤ 8) (kk : RunX l G M R nx L (vl (min x y) :: st) S ca sl Q) : RunX l G M R pc L (vl y :: vl x :: st) S ca sl Q := by
  intro p e s m args below meth c H locs Z ls hc hn hks hr hi hlo hl
  obtain ⟨hd1, hd2, hd3⟩ := hd
  dsimp only at hd1 hd2 hd3
  subst hd2
  obtain ⟨⟨m1, m2, m3⟩, m4⟩ := ms_J9_min_f86c9
  have k1 := kk p e s m args below meth c H locs Z ls hc hn hks hr hi hlo hl
  refine va_mmin_long hc.1 hc.2.1 (hc.2.2.1.trans hl.1.symm) hc.2.2.2.1 (hc.2.2.2.2 _ hlk) (hc.2.2.2.2 _ m4) (hc.2.2.2.2 _ m2) (hc.2.2.2.2 _ m1) hR.1 (by rw [catq_sum]; omega) hR.2.2.1 hR.2.2.2.1 hd1 ?_
  have e : (if Int64.ofInt y < Int64.ofInt x then Int64.ofInt y else Int64.ofInt x) = Int64.ofInt (min x y) := by
    by_cases h : y < x
    · rw [if_pos ((o64_lt hy hx).mpr h), Int.min_eq_right (by omega)]
    · rw [if_neg (fun q => h ((o64_lt hy hx).mp q)), Int.min_eq_left (by omega)]
  rw [e]
  exact k1
end XMath

theorem c_X10_within {v a b : Int} (hv : rgi v) (ha : rgi a) (hb : rgi b) : CI l G M_X10_within 0 [vi v, vi a, vi b] σ (BP (a ≤ v ∧ v ≤ b) σ) := by
  refine Ct.of rfl (Nat.le_of_ble_eq_true rfl) ?_
  refine x_iload_n (E_X10_within_0 0 rfl) rfl ?_
  refine x_iload_n (E_X10_within_0 1 rfl) rfl ?_
  refine x_icmp_lt (E_X10_within_0 2 rfl) (by omega) (by omega) (fun c1 => ?_) (fun c1 => ?_)
  · refine x_iconst (E_X10_within_0 8 rfl) ?_
    refine z_iret (E_X10_within_0 9 rfl) (Or.inl rfl) ?_
    exact ⟨rfl, by first | exact Or.inl ⟨rfl, by omega⟩ | exact Or.inr ⟨rfl, by omega⟩⟩
  · refine x_iload_n (E_X10_within_0 3 rfl) rfl ?_
    refine x_iload_n (E_X10_within_0 4 rfl) rfl ?_
    refine x_icmp_gt (E_X10_within_0 5 rfl) (by omega) (by omega) (fun c2 => ?_) (fun c2 => ?_)
    · refine x_iconst (E_X10_within_0 8 rfl) ?_
      refine z_iret (E_X10_within_0 9 rfl) (Or.inl rfl) ?_
      exact ⟨rfl, by first | exact Or.inl ⟨rfl, by omega⟩ | exact Or.inr ⟨rfl, by omega⟩⟩
    · refine x_iconst (E_X10_within_0 6 rfl) ?_
      refine x_goto (E_X10_within_0 7 rfl) ?_
      refine z_iret (E_X10_within_0 9 rfl) (Or.inr rfl) ?_
      exact ⟨rfl, by first | exact Or.inl ⟨rfl, by omega⟩ | exact Or.inr ⟨rfl, by omega⟩⟩

theorem c_X10_isHouse {v : Int} (hv : rgi v) : CI l G M_X10_isHouse 1 [vi v] σ (BP (0 ≤ v ∧ v ≤ 7) σ) := by
  refine Ct.of rfl (Nat.le_of_ble_eq_true rfl) ?_
  refine x_iload_n (E_X10_isHouse_0 0 rfl) rfl ?_
  refine x_iconst (E_X10_isHouse_0 1 rfl) ?_
  refine x_bipush (z := 7) (E_X10_isHouse_0 2 rfl) (by decide) ?_
  refine z_callSi (E_X10_isHouse_0 3 rfl) ml_X10_100 ms_X10_within (c_X10_within (by omega) (by omega) (by omega)) (by decide) rfl rfl (by decide) (fun z9 τ9 h9 => ?_)
  obtain ⟨rfl, ⟨rfl, c1⟩ | ⟨rfl, c1⟩⟩ := h9
  · refine z_iret (E_X10_isHouse_0 4 rfl) (Or.inr rfl) ?_
    exact ⟨rfl, by first | exact Or.inl ⟨rfl, by omega⟩ | exact Or.inr ⟨rfl, by omega⟩⟩
  · refine z_iret (E_X10_isHouse_0 4 rfl) (Or.inl rfl) ?_
    exact ⟨rfl, by first | exact Or.inl ⟨rfl, by omega⟩ | exact Or.inr ⟨rfl, by omega⟩⟩

theorem c_X10_isFloor {v : Int} (hv : rgi v) : CI l G M_X10_isFloor 1 [vi v] σ (BP (0 ≤ v ∧ v ≤ 5) σ) := by
  refine Ct.of rfl (Nat.le_of_ble_eq_true rfl) ?_
  refine x_iload_n (E_X10_isFloor_0 0 rfl) rfl ?_
  refine x_iconst (E_X10_isFloor_0 1 rfl) ?_
  refine x_iconst (E_X10_isFloor_0 2 rfl) ?_
  refine z_callSi (E_X10_isFloor_0 3 rfl) ml_X10_100 ms_X10_within (c_X10_within (by omega) (by omega) (by omega)) (by decide) rfl rfl (by decide) (fun z9 τ9 h9 => ?_)
  obtain ⟨rfl, ⟨rfl, c1⟩ | ⟨rfl, c1⟩⟩ := h9
  · refine z_iret (E_X10_isFloor_0 4 rfl) (Or.inr rfl) ?_
    exact ⟨rfl, by first | exact Or.inl ⟨rfl, by omega⟩ | exact Or.inr ⟨rfl, by omega⟩⟩
  · refine z_iret (E_X10_isFloor_0 4 rfl) (Or.inl rfl) ?_
    exact ⟨rfl, by first | exact Or.inl ⟨rfl, by omega⟩ | exact Or.inr ⟨rfl, by omega⟩⟩

theorem c_X10_isSort {v : Int} (hv : rgi v) : CI l G M_X10_isSort 1 [vi v] σ (BP (0 ≤ v ∧ v ≤ 3) σ) := by
  refine Ct.of rfl (Nat.le_of_ble_eq_true rfl) ?_
  refine x_iload_n (E_X10_isSort_0 0 rfl) rfl ?_
  refine x_iconst (E_X10_isSort_0 1 rfl) ?_
  refine x_iconst (E_X10_isSort_0 2 rfl) ?_
  refine z_callSi (E_X10_isSort_0 3 rfl) ml_X10_100 ms_X10_within (c_X10_within (by omega) (by omega) (by omega)) (by decide) rfl rfl (by decide) (fun z9 τ9 h9 => ?_)
  obtain ⟨rfl, ⟨rfl, c1⟩ | ⟨rfl, c1⟩⟩ := h9
  · refine z_iret (E_X10_isSort_0 4 rfl) (Or.inr rfl) ?_
    exact ⟨rfl, by first | exact Or.inl ⟨rfl, by omega⟩ | exact Or.inr ⟨rfl, by omega⟩⟩
  · refine z_iret (E_X10_isSort_0 4 rfl) (Or.inl rfl) ?_
    exact ⟨rfl, by first | exact Or.inl ⟨rfl, by omega⟩ | exact Or.inr ⟨rfl, by omega⟩⟩

theorem c_X10_isDay {v : Int} (hv : rgi v) : CI l G M_X10_isDay 1 [vi v] σ (BP (0 ≤ v ∧ v ≤ 2000) σ) := by
  refine Ct.of rfl (Nat.le_of_ble_eq_true rfl) ?_
  refine x_iload_n (E_X10_isDay_0 0 rfl) rfl ?_
  refine x_iconst (E_X10_isDay_0 1 rfl) ?_
  refine x_sipush (z := 2000) (E_X10_isDay_0 2 rfl) (by decide) ?_
  refine z_callSi (E_X10_isDay_0 3 rfl) ml_X10_100 ms_X10_within (c_X10_within (by omega) (by omega) (by omega)) (by decide) rfl rfl (by decide) (fun z9 τ9 h9 => ?_)
  obtain ⟨rfl, ⟨rfl, c1⟩ | ⟨rfl, c1⟩⟩ := h9
  · refine z_iret (E_X10_isDay_0 4 rfl) (Or.inr rfl) ?_
    exact ⟨rfl, by first | exact Or.inl ⟨rfl, by omega⟩ | exact Or.inr ⟨rfl, by omega⟩⟩
  · refine z_iret (E_X10_isDay_0 4 rfl) (Or.inl rfl) ?_
    exact ⟨rfl, by first | exact Or.inl ⟨rfl, by omega⟩ | exact Or.inr ⟨rfl, by omega⟩⟩

theorem lCmp_lt {x y : Int} : lCmp x y < 0 ↔ x < y := by unfold lCmp; repeat' split <;> omega
theorem lCmp_gt {x y : Int} : 0 < lCmp x y ↔ y < x := by unfold lCmp; repeat' split <;> omega
theorem lCmp_rg {x y : Int} : rgi (lCmp x y) := by unfold lCmp; constructor <;> repeat' split <;> omega

theorem c_X11_in {v a b : Int} (hv : rgl v) (ha : rgl a) (hb : rgl b) : CI l G M_X11_in 0 [vl v, vl a, vl b] σ (BP (a ≤ v ∧ v ≤ b) σ) := by
  refine Ct.of rfl (Nat.le_of_ble_eq_true rfl) ?_
  refine x_lload_n (E_X11_in_0 0 rfl) rfl ?_
  refine x_lload_n (E_X11_in_0 1 rfl) rfl ?_
  refine x_lcmp (E_X11_in_0 2 rfl) (by omega) (by omega) ?_
  refine x_if_lt (E_X11_in_0 3 rfl) lCmp_rg (fun c1 => ?_) (fun c1 => ?_)
  · refine x_iconst (E_X11_in_0 10 rfl) ?_
    refine z_iret (E_X11_in_0 11 rfl) (Or.inl rfl) ?_
    (try rw [lCmp_lt] at c1) <;> (try rw [lCmp_gt] at c2) <;> exact ⟨rfl, by first | exact Or.inl ⟨rfl, by omega⟩ | exact Or.inr ⟨rfl, by omega⟩⟩
  · refine x_lload_n (E_X11_in_0 4 rfl) rfl ?_
    refine x_lload (E_X11_in_0 5 rfl) rfl ?_
    refine x_lcmp (E_X11_in_0 6 rfl) (by omega) (by omega) ?_
    refine x_if_gt (E_X11_in_0 7 rfl) lCmp_rg (fun c2 => ?_) (fun c2 => ?_)
    · refine x_iconst (E_X11_in_0 10 rfl) ?_
      refine z_iret (E_X11_in_0 11 rfl) (Or.inl rfl) ?_
      (try rw [lCmp_lt] at c1) <;> (try rw [lCmp_gt] at c2) <;> exact ⟨rfl, by first | exact Or.inl ⟨rfl, by omega⟩ | exact Or.inr ⟨rfl, by omega⟩⟩
    · refine x_iconst (E_X11_in_0 8 rfl) ?_
      refine x_goto (E_X11_in_0 9 rfl) ?_
      refine z_iret (E_X11_in_0 11 rfl) (Or.inr rfl) ?_
      (try rw [lCmp_lt] at c1) <;> (try rw [lCmp_gt] at c2) <;> exact ⟨rfl, by first | exact Or.inl ⟨rfl, by omega⟩ | exact Or.inr ⟨rfl, by omega⟩⟩

theorem c_X11_isHouse {v : Int} (hv : rgi v) : CI l G M_X11_isHouse 1 [vi v] σ (BP (0 ≤ v ∧ v ≤ 7) σ) := by
  refine Ct.of rfl (Nat.le_of_ble_eq_true rfl) ?_
  refine x_iload_n (E_X11_isHouse_0 0 rfl) rfl ?_
  refine x_i2l (E_X11_isHouse_0 1 rfl) (by omega) ?_
  refine x_lconst (z := 0) (E_X11_isHouse_0 2 rfl) rfl ?_
  refine x_ldc2 (z := 7) (E_X11_isHouse_0 3 rfl) kc_X11_195 (by decide) ?_
  refine z_callSi (E_X11_isHouse_0 4 rfl) ml_X11_197 ms_X11_in (c_X11_in (by omega) (by omega) (by omega)) (by decide) rfl rfl (by decide) (fun z9 τ9 h9 => ?_)
  obtain ⟨rfl, ⟨rfl, c1⟩ | ⟨rfl, c1⟩⟩ := h9
  · refine z_iret (E_X11_isHouse_0 5 rfl) (Or.inr rfl) ?_
    exact ⟨rfl, by first | exact Or.inl ⟨rfl, by omega⟩ | exact Or.inr ⟨rfl, by omega⟩⟩
  · refine z_iret (E_X11_isHouse_0 5 rfl) (Or.inl rfl) ?_
    exact ⟨rfl, by first | exact Or.inl ⟨rfl, by omega⟩ | exact Or.inr ⟨rfl, by omega⟩⟩

theorem c_X11_isFloor {v : Int} (hv : rgi v) : CI l G M_X11_isFloor 1 [vi v] σ (BP (0 ≤ v ∧ v ≤ 5) σ) := by
  refine Ct.of rfl (Nat.le_of_ble_eq_true rfl) ?_
  refine x_iload_n (E_X11_isFloor_0 0 rfl) rfl ?_
  refine x_i2l (E_X11_isFloor_0 1 rfl) (by omega) ?_
  refine x_lconst (z := 0) (E_X11_isFloor_0 2 rfl) rfl ?_
  refine x_ldc2 (z := 5) (E_X11_isFloor_0 3 rfl) kc_X11_201 (by decide) ?_
  refine z_callSi (E_X11_isFloor_0 4 rfl) ml_X11_197 ms_X11_in (c_X11_in (by omega) (by omega) (by omega)) (by decide) rfl rfl (by decide) (fun z9 τ9 h9 => ?_)
  obtain ⟨rfl, ⟨rfl, c1⟩ | ⟨rfl, c1⟩⟩ := h9
  · refine z_iret (E_X11_isFloor_0 5 rfl) (Or.inr rfl) ?_
    exact ⟨rfl, by first | exact Or.inl ⟨rfl, by omega⟩ | exact Or.inr ⟨rfl, by omega⟩⟩
  · refine z_iret (E_X11_isFloor_0 5 rfl) (Or.inl rfl) ?_
    exact ⟨rfl, by first | exact Or.inl ⟨rfl, by omega⟩ | exact Or.inr ⟨rfl, by omega⟩⟩

theorem c_X11_isDay {v : Int} (hv : rgi v) : CI l G M_X11_isDay 1 [vi v] σ (BP (0 ≤ v ∧ v ≤ 2000) σ) := by
  refine Ct.of rfl (Nat.le_of_ble_eq_true rfl) ?_
  refine x_iload_n (E_X11_isDay_0 0 rfl) rfl ?_
  refine x_i2l (E_X11_isDay_0 1 rfl) (by omega) ?_
  refine x_lconst (z := 0) (E_X11_isDay_0 2 rfl) rfl ?_
  refine x_ldc2 (z := 2000) (E_X11_isDay_0 3 rfl) kc_X11_203 (by decide) ?_
  refine z_callSi (E_X11_isDay_0 4 rfl) ml_X11_197 ms_X11_in (c_X11_in (by omega) (by omega) (by omega)) (by decide) rfl rfl (by decide) (fun z9 τ9 h9 => ?_)
  obtain ⟨rfl, ⟨rfl, c1⟩ | ⟨rfl, c1⟩⟩ := h9
  · refine z_iret (E_X11_isDay_0 5 rfl) (Or.inr rfl) ?_
    exact ⟨rfl, by first | exact Or.inl ⟨rfl, by omega⟩ | exact Or.inr ⟨rfl, by omega⟩⟩
  · refine z_iret (E_X11_isDay_0 5 rfl) (Or.inl rfl) ?_
    exact ⟨rfl, by first | exact Or.inl ⟨rfl, by omega⟩ | exact Or.inr ⟨rfl, by omega⟩⟩

theorem c_X11_one {v : Int} (hv : v = 0 ∨ v = 1) : CI l G M_X11_one 0 [vi v] σ (IP v σ) := by
  refine Ct.of rfl (Nat.le_of_ble_eq_true rfl) ?_
  refine x_iload_n (E_X11_one_0 0 rfl) rfl ?_
  refine x_if_eq (E_X11_one_0 1 rfl) (by omega) (fun c1 => ?_) (fun c1 => ?_)
  · refine x_iconst (E_X11_one_0 4 rfl) ?_
    refine z_iret (E_X11_one_0 5 rfl) trivial ?_
    exact ⟨by omega, rfl⟩
  · refine x_iconst (E_X11_one_0 2 rfl) ?_
    refine x_goto (E_X11_one_0 3 rfl) ?_
    refine z_iret (E_X11_one_0 5 rfl) trivial ?_
    exact ⟨by omega, rfl⟩

theorem c_X11_isKnown {v : Int} (hv : rgi v) (hn : rgi (σ 114 0)) : CI l G M_X11_isKnown 1 [vr 114, vi v] σ (BP (0 ≤ v ∧ v ≤ σ 114 0) σ) := by
  refine Ct.of rfl (Nat.le_of_ble_eq_true rfl) ?_
  refine x_iload_n (E_X11_isKnown_0 0 rfl) rfl ?_
  refine x_i2l (E_X11_isKnown_0 1 rfl) (by omega) ?_
  refine x_lconst (z := 0) (E_X11_isKnown_0 2 rfl) rfl ?_
  refine x_aload_n (E_X11_isKnown_0 3 rfl) rfl ?_
  refine x_getIe (v := σ 114 0) (E_X11_isKnown_0 4 rfl) fl_X11_205 rfl (by decide) rfl ?_
  refine x_i2l (E_X11_isKnown_0 5 rfl) (by omega) ?_
  refine z_callSi (E_X11_isKnown_0 6 rfl) ml_X11_197 ms_X11_in (c_X11_in (by omega) (by omega) (by omega)) (by decide) rfl rfl (by decide) (fun z9 τ9 h9 => ?_)
  obtain ⟨rfl, ⟨rfl, c1⟩ | ⟨rfl, c1⟩⟩ := h9
  · refine z_iret (E_X11_isKnown_0 7 rfl) (Or.inr rfl) ?_
    exact ⟨rfl, by first | exact Or.inl ⟨rfl, by omega⟩ | exact Or.inr ⟨rfl, by omega⟩⟩
  · refine z_iret (E_X11_isKnown_0 7 rfl) (Or.inl rfl) ?_
    exact ⟨rfl, by first | exact Or.inl ⟨rfl, by omega⟩ | exact Or.inr ⟨rfl, by omega⟩⟩

theorem c_X11_noLot {v : Int} (hv : rgi v) (hn : 0 ≤ σ 114 1 ∧ σ 114 1 ≤ 12) : CI l G M_X11_noLot 1 [vr 114, vi v] σ (BP (¬ (0 ≤ v ∧ v < σ 114 1)) σ) := by
  refine Ct.of rfl (Nat.le_of_ble_eq_true rfl) ?_
  refine x_iload_n (E_X11_noLot_0 0 rfl) rfl ?_
  refine x_i2l (E_X11_noLot_0 1 rfl) (by omega) ?_
  refine x_lconst (z := 0) (E_X11_noLot_0 2 rfl) rfl ?_
  refine x_aload_n (E_X11_noLot_0 3 rfl) rfl ?_
  refine x_getIe (v := σ 114 1) (E_X11_noLot_0 4 rfl) fl_X11_208 rfl (by decide) rfl ?_
  refine x_iconst (E_X11_noLot_0 5 rfl) ?_
  refine x_isub (E_X11_noLot_0 6 rfl) ?_
  refine x_i2l (E_X11_noLot_0 7 rfl) (by omega) ?_
  refine z_callSi (E_X11_noLot_0 8 rfl) ml_X11_197 ms_X11_in (c_X11_in (by omega) (by omega) (by omega)) (by decide) rfl rfl (by decide) (fun z9 τ9 h9 => ?_)
  obtain ⟨rfl, ⟨rfl, c1⟩ | ⟨rfl, c1⟩⟩ := h9
  · refine x_if_ne (E_X11_noLot_0 9 rfl) (by decide) (fun _ => ?_) (fun c9 => absurd c9 (by decide))
    refine x_iconst (E_X11_noLot_0 12 rfl) ?_
    refine z_iret (E_X11_noLot_0 13 rfl) (Or.inl rfl) ?_
    exact ⟨rfl, by first | exact Or.inl ⟨rfl, by omega⟩ | exact Or.inr ⟨rfl, by omega⟩⟩
  · refine x_if_ne (E_X11_noLot_0 9 rfl) (by decide) (fun c9 => absurd c9 (by decide)) (fun _ => ?_)
    refine x_iconst (E_X11_noLot_0 10 rfl) ?_
    refine x_goto (E_X11_noLot_0 11 rfl) ?_
    refine z_iret (E_X11_noLot_0 13 rfl) (Or.inr rfl) ?_
    exact ⟨rfl, by first | exact Or.inl ⟨rfl, by omega⟩ | exact Or.inr ⟨rfl, by omega⟩⟩

theorem c_X3_has {v : Int} (hv : rgi v) (hn : 0 ≤ σ 1 5 ∧ σ 1 5 ≤ 12) : CI l G M_X3_has 0 [vr 1, vi v] σ (BP (0 ≤ v ∧ v < σ 1 5) σ) := by
  refine Ct.of rfl (Nat.le_of_ble_eq_true rfl) ?_
  refine x_iload_n (E_X3_has_0 0 rfl) rfl ?_
  refine x_if_lt (E_X3_has_0 1 rfl) (by omega) (fun c1 => ?_) (fun c1 => ?_)
  · refine x_iconst (E_X3_has_0 8 rfl) ?_
    refine z_iret (E_X3_has_0 9 rfl) (Or.inl rfl) ?_
    exact ⟨rfl, by first | exact Or.inl ⟨rfl, by omega⟩ | exact Or.inr ⟨rfl, by omega⟩⟩
  · refine x_iload_n (E_X3_has_0 2 rfl) rfl ?_
    refine x_aload_n (E_X3_has_0 3 rfl) rfl ?_
    refine x_getIe (v := σ 1 5) (E_X3_has_0 4 rfl) fl_X3_27 rfl (by decide) rfl ?_
    refine x_icmp_ge (E_X3_has_0 5 rfl) (by omega) (by omega) (fun c2 => ?_) (fun c2 => ?_)
    · refine x_iconst (E_X3_has_0 8 rfl) ?_
      refine z_iret (E_X3_has_0 9 rfl) (Or.inl rfl) ?_
      exact ⟨rfl, by first | exact Or.inl ⟨rfl, by omega⟩ | exact Or.inr ⟨rfl, by omega⟩⟩
    · refine x_iconst (E_X3_has_0 6 rfl) ?_
      refine x_goto (E_X3_has_0 7 rfl) ?_
      refine z_iret (E_X3_has_0 9 rfl) (Or.inr rfl) ?_
      exact ⟨rfl, by first | exact Or.inl ⟨rfl, by omega⟩ | exact Or.inr ⟨rfl, by omega⟩⟩

theorem c_X2_has {v : Int} (hv : rgi v) (hn : 0 ≤ σ 7 9 ∧ σ 7 9 ≤ 120) : CI l G M_X2_has 0 [vr 7, vi v] σ (BP (0 ≤ v ∧ v < σ 7 9) σ) := by
  refine Ct.of rfl (Nat.le_of_ble_eq_true rfl) ?_
  refine x_iload_n (E_X2_has_0 0 rfl) rfl ?_
  refine x_if_lt (E_X2_has_0 1 rfl) (by omega) (fun c1 => ?_) (fun c1 => ?_)
  · refine x_iconst (E_X2_has_0 8 rfl) ?_
    refine z_iret (E_X2_has_0 9 rfl) (Or.inl rfl) ?_
    exact ⟨rfl, by first | exact Or.inl ⟨rfl, by omega⟩ | exact Or.inr ⟨rfl, by omega⟩⟩
  · refine x_iload_n (E_X2_has_0 2 rfl) rfl ?_
    refine x_aload_n (E_X2_has_0 3 rfl) rfl ?_
    refine x_getIe (v := σ 7 9) (E_X2_has_0 4 rfl) fl_X2_40 rfl (by decide) rfl ?_
    refine x_icmp_ge (E_X2_has_0 5 rfl) (by omega) (by omega) (fun c2 => ?_) (fun c2 => ?_)
    · refine x_iconst (E_X2_has_0 8 rfl) ?_
      refine z_iret (E_X2_has_0 9 rfl) (Or.inl rfl) ?_
      exact ⟨rfl, by first | exact Or.inl ⟨rfl, by omega⟩ | exact Or.inr ⟨rfl, by omega⟩⟩
    · refine x_iconst (E_X2_has_0 6 rfl) ?_
      refine x_goto (E_X2_has_0 7 rfl) ?_
      refine z_iret (E_X2_has_0 9 rfl) (Or.inr rfl) ?_
      exact ⟨rfl, by first | exact Or.inl ⟨rfl, by omega⟩ | exact Or.inr ⟨rfl, by omega⟩⟩
end
section
/-! lists of numbers in the order of a key, as insertion makes them -/
def insL (key : Int → Int) (x : Int) : List Int → List Int
  | [] => [x]
  | y :: l => if key y ≤ key x then y :: insL key x l else x :: y :: l
def srtL (key : Int → Int) (p : Int → Bool) : Nat → List Int
  | 0 => []
  | n + 1 => if p n = true then insL key n (srtL key p n) else srtL key p n
/-- the array f begins with the list -/
def RepL (f : Int → Int) (l : List Int) : Prop := ∀ (k : Nat) (x : Int), l[k]? = some x → f k = x
theorem insL_mem {key : Int → Int} {x z : Int} : ∀ {l : List Int}, z ∈ insL key x l ↔ z = x ∨ z ∈ l
  | [] => by simp [insL]
  | y :: l => by
    unfold insL
    split
    · rw [List.mem_cons, insL_mem, List.mem_cons]
      constructor
      · rintro (h | h | h)
        · exact Or.inr (Or.inl h)
        · exact Or.inl h
        · exact Or.inr (Or.inr h)
      · rintro (h | h | h)
        · exact Or.inr (Or.inl h)
        · exact Or.inl h
        · exact Or.inr (Or.inr h)
    · rw [List.mem_cons]
theorem insL_len {key : Int → Int} {x : Int} : ∀ {l : List Int}, (insL key x l).length = l.length + 1
  | [] => rfl
  | y :: l => by
    unfold insL
    split
    · rw [List.length_cons, insL_len, List.length_cons]
    · rfl
theorem srtL_mem {key : Int → Int} {p : Int → Bool} {z : Int} : ∀ {n : Nat}, z ∈ srtL key p n ↔ 0 ≤ z ∧ z < n ∧ p z = true
  | 0 => by
    simp only [srtL, List.not_mem_nil, false_iff]
    omega
  | n + 1 => by
    unfold srtL
    split
    · rename_i h
      rw [insL_mem, srtL_mem]
      constructor
      · rintro (rfl | ⟨h1, h2, h3⟩)
        · exact ⟨by omega, by omega, h⟩
        · exact ⟨h1, by omega, h3⟩
      · rintro ⟨h1, h2, h3⟩
        by_cases e : z = n
        · exact Or.inl e
        · exact Or.inr ⟨h1, by omega, h3⟩
    · rename_i h
      rw [srtL_mem]
      constructor
      · rintro ⟨h1, h2, h3⟩
        exact ⟨h1, by omega, h3⟩
      · rintro ⟨h1, h2, h3⟩
        refine ⟨h1, ?_, h3⟩
        by_cases e : z = n
        · subst e; exact absurd h3 h
        · omega
theorem srtL_len {key : Int → Int} : ∀ {n : Nat}, (srtL key (fun _ => true) n).length = n
  | 0 => rfl
  | n + 1 => by
    show (if true = true then insL key n (srtL key (fun _ => true) n) else _).length = _
    rw [if_pos rfl, insL_len, srtL_len]
theorem srtL_len_le {key : Int → Int} {p : Int → Bool} : ∀ {n : Nat}, (srtL key p n).length ≤ n
  | 0 => Nat.le_refl _
  | n + 1 => by
    unfold srtL
    have := srtL_len_le (key := key) (p := p) (n := n)
    split
    · rw [insL_len]; omega
    · omega
theorem insL_sorted {key : Int → Int} {x : Int} : ∀ {l : List Int}, l.Pairwise (fun a b => key a ≤ key b) → (insL key x l).Pairwise (fun a b => key a ≤ key b)
  | [], _ => by simp [insL]
  | y :: l, h => by
    rw [List.pairwise_cons] at h
    unfold insL
    split
    · rename_i h1
      rw [List.pairwise_cons]
      refine ⟨fun a ha => ?_, insL_sorted h.2⟩
      rcases insL_mem.mp ha with rfl | ha
      · exact h1
      · exact h.1 a ha
    · rename_i h1
      rw [List.pairwise_cons, List.pairwise_cons]
      refine ⟨fun a ha => ?_, h⟩
      rcases List.mem_cons.mp ha with rfl | ha
      · omega
      · have := h.1 a ha; omega
theorem srtL_sorted {key : Int → Int} {p : Int → Bool} : ∀ {n : Nat}, (srtL key p n).Pairwise (fun a b => key a ≤ key b)
  | 0 => List.Pairwise.nil
  | n + 1 => by
    unfold srtL
    split
    · exact insL_sorted srtL_sorted
    · exact srtL_sorted
theorem insL_nodup {key : Int → Int} {x : Int} : ∀ {l : List Int}, l.Nodup → x ∉ l → (insL key x l).Nodup
  | [], _, _ => by simp [insL]
  | y :: l, h, hx => by
    rw [List.nodup_cons] at h
    unfold insL
    split
    · rw [List.nodup_cons]
      refine ⟨fun q => ?_, insL_nodup h.2 (fun q => hx (List.mem_cons_of_mem _ q))⟩
      rcases insL_mem.mp q with rfl | q
      · exact hx List.mem_cons_self
      · exact h.1 q
    · rw [List.nodup_cons, List.nodup_cons]
      exact ⟨hx, h⟩
theorem srtL_nodup {key : Int → Int} {p : Int → Bool} : ∀ {n : Nat}, (srtL key p n).Nodup
  | 0 => List.nodup_nil
  | n + 1 => by
    unfold srtL
    split
    · exact insL_nodup srtL_nodup (fun q => by have := srtL_mem.mp q; omega)
    · exact srtL_nodup
/-- where it goes in -/
theorem insL_split {key : Int → Int} {x : Int} : ∀ {l1 l2 : List Int}, (∀ y ∈ l1, key y ≤ key x) → (∀ y ∈ l2, key x < key y) → insL key x (l1 ++ l2) = l1 ++ x :: l2
  | [], [], _, _ => rfl
  | [], y :: l2, _, h2 => by
    show (if key y ≤ key x then _ else _) = _
    rw [if_neg (by have := h2 y List.mem_cons_self; omega)]
    rfl
  | y :: l1, l2, h1, h2 => by
    show (if key y ≤ key x then y :: insL key x (l1 ++ l2) else _) = _
    rw [if_pos (h1 y List.mem_cons_self), insL_split (fun z hz => h1 z (List.mem_cons_of_mem _ hz)) h2]
    rfl
theorem insL_filter {key : Int → Int} {x : Int} {q : Int → Bool} : ∀ {l : List Int}, l.Pairwise (fun a b => key a ≤ key b) → (insL key x l).filter q = if q x = true then insL key x (l.filter q) else l.filter q
  | [], _ => by
    show List.filter q [x] = _
    by_cases h : q x = true
    · rw [if_pos h]; simp [insL, h]
    · rw [if_neg h]; simp [h]
  | y :: l, h => by
    have h0 := h
    rw [List.pairwise_cons] at h
    by_cases h1 : key y ≤ key x
    · rw [show insL key x (y :: l) = (if key y ≤ key x then y :: insL key x l else x :: y :: l) from rfl, if_pos h1]
      rw [List.filter_cons, insL_filter h.2, List.filter_cons]
      by_cases hy : q y = true
      · rw [if_pos hy, if_pos hy]
        by_cases hx : q x = true
        · rw [if_pos hx, if_pos hx]
          show _ = if key y ≤ key x then _ else _
          rw [if_pos h1]
        · rw [if_neg hx, if_neg hx]
      · rw [if_neg hy, if_neg hy]
    · rw [show insL key x (y :: l) = (if key y ≤ key x then y :: insL key x l else x :: y :: l) from rfl, if_neg h1]
      rw [List.filter_cons]
      by_cases hx : q x = true
      · rw [if_pos hx, if_pos hx]
        have : insL key x ([] ++ List.filter q (y :: l)) = [] ++ x :: List.filter q (y :: l) := insL_split (fun z hz => by cases hz) (fun z hz => by
          have hz2 := (List.mem_filter.mp hz).1
          rcases List.mem_cons.mp hz2 with rfl | hz3
          · omega
          · have := h.1 z hz3; omega)
        exact this.symm
      · rw [if_neg hx, if_neg hx]
theorem srtL_filter {key : Int → Int} {p q : Int → Bool} : ∀ {n : Nat}, (srtL key p n).filter q = srtL key (fun i => p i && q i) n
  | 0 => rfl
  | n + 1 => by
    unfold srtL
    by_cases hp : p n = true
    · rw [if_pos hp, insL_filter srtL_sorted, srtL_filter]
      by_cases hq : q n = true
      · rw [if_pos hq, if_pos (by simp [hp, hq])]
      · rw [if_neg hq, if_neg (by simp [hq])]
    · rw [if_neg hp, srtL_filter, if_neg (by simp [hp])]
theorem insL_cong {key key' : Int → Int} {x : Int} : ∀ {l : List Int}, key x = key' x → (∀ y ∈ l, key y = key' y) → insL key x l = insL key' x l
  | [], _, _ => rfl
  | y :: l, h1, h2 => by
    unfold insL
    rw [h1, h2 y List.mem_cons_self, insL_cong h1 (fun z hz => h2 z (List.mem_cons_of_mem _ hz))]
theorem srtL_cong {key key' : Int → Int} {p p' : Int → Bool} : ∀ {n : Nat}, (∀ i : Int, 0 ≤ i → i < n → key i = key' i ∧ p i = p' i) → srtL key p n = srtL key' p' n
  | 0, _ => rfl
  | n + 1, h => by
    unfold srtL
    have h1 := h n (by omega) (by omega)
    have h2 := srtL_cong (key := key) (key' := key') (p := p) (p' := p') (n := n) (fun i a b => h i a (by omega))
    rw [h1.2, h2, insL_cong h1.1 (fun y hy => (h y (srtL_mem.mp hy).1 (by have := srtL_mem.mp hy; omega)).1)]
/-! THE SPECIFICATION'S WORDS, AND THE RELATION BETWEEN CLASS AND MODEL -/
def updI (f : Int → Int) (k v : Int) : Int → Int := fun j => if j = k then v else f j
/-- NET of house h in sort so, of the first n sales -/
def netS (sl by9 so9 ck : Int → Int) (h so : Int) : Nat → Int
  | 0 => 0
  | n + 1 => netS sl by9 so9 ck h so n + (if so9 n = so then (if by9 n = h then ck n else 0) - (if sl n = h then ck n else 0) else 0)
/-- strikes of term t's first c clauses -/
def markS (cd vl : Int → Int → Int) (t : Int) (s : Int → Bool) : Nat → (Int → Bool)
  | 0 => s
  | c + 1 => if cd t c = 10 then (fun x => if x = vl t c then true else markS cd vl t s c x) else markS cd vl t s c
/-- what is struck on day d by the j last terms -/
def strS (dy cl : Int → Int) (cd vl : Int → Int → Int) (d : Int) (nt : Nat) : Nat → (Int → Bool)
  | 0 => fun _ => false
  | j + 1 => if dy ((nt : Int) - 1 - j) ≤ d ∧ strS dy cl cd vl d nt j ((nt : Int) - 1 - j) = false then markS cd vl ((nt : Int) - 1 - j) (strS dy cl cd vl d nt j) (cl ((nt : Int) - 1 - j)).toNat else strS dy cl cd vl d nt j
def cntS (dy cl : Int → Int) (cd vl : Int → Int → Int) (d : Int) (nt : Nat) (t : Int) : Bool := decide (dy t ≤ d) && !(strS dy cl cd vl d nt nt t)
/-- what the first c clauses of term t make of h -/
def ruleS (cd vl : Int → Int → Int) (t : Int) (h : Int → Int) : Nat → (Int → Int)
  | 0 => h
  | c + 1 => if cd t c ≠ 10 then updI (ruleS cd vl t h c) (cd t c) (vl t c) else ruleS cd vl t h c
def held0 (k : Int) : Int := [2, 1, 0, 10, 0, 0, 0, 0, 0, 2257].getD k.toNat 0
def foldS (cl : Int → Int) (cd vl : Int → Int → Int) (l : List Int) (h : Int → Int) : Int → Int := l.foldl (fun h t => ruleS cd vl t h (cl t).toNat) h
/-- what holds on day d: names 0..4, dry 5..8, rank 9 -/
def heldS (dy cl : Int → Int) (cd vl : Int → Int → Int) (nt : Nat) (d : Int) : Int → Int := foldS cl cd vl ((srtL dy (fun _ => true) nt).filter (cntS dy cl cd vl d nt)) held0
def hasPq (k : Int) : Prop := k = 0 ∨ k = 1 ∨ k = 3 ∨ k = 5 ∨ k = 9
def RNow (a b : Int) : Prop := b = a ∧ 0 ≤ a ∧ a ≤ 2000
def LotOk (now : Int) (c2 c3 c4 c5 c6 : Int → Int) (i : Int) : Prop := (0 ≤ c2 i ∧ c2 i ≤ 3) ∧ (1 ≤ c3 i ∧ c3 i ≤ 200) ∧ (1 ≤ c4 i ∧ c4 i ≤ 999) ∧ (0 ≤ c5 i ∧ c5 i ≤ 5) ∧ (0 ≤ c6 i ∧ c6 i ≤ now)
def RLots (now nl ml : Int) (c2 c3 c4 c5 c6 m2 m3 m4 m5 m6 : Int → Int) : Prop := ml = nl ∧ (0 ≤ nl ∧ nl ≤ 12) ∧ (m2 = c2 ∧ m3 = c3 ∧ m4 = c4 ∧ m5 = c5 ∧ m6 = c6) ∧ ∀ i, 0 ≤ i → i < nl → LotOk now c2 c3 c4 c5 c6 i
def RRoom (c m : Int → Int) : Prop := m = c ∧ ∀ f, 0 ≤ f → f < 6 → 0 ≤ c f ∧ c f ≤ 999
def LineOk (now nl : Int) (kd dy td tg pp qq nn : Int → Int) (i : Int) : Prop :=
  (0 ≤ kd i ∧ kd i ≤ 10) ∧ (0 ≤ dy i ∧ dy i ≤ td i ∧ td i ≤ now) ∧
  (kd i = 0 ∨ kd i = 8 → 0 ≤ tg i ∧ tg i < nl) ∧ (kd i = 10 → 0 ≤ tg i ∧ tg i < i) ∧ (¬ (kd i = 0 ∨ kd i = 8 ∨ kd i = 10) → 0 ≤ tg i ∧ tg i < i ∧ (kd (tg i) = 0 ∨ kd (tg i) = 2)) ∧
  (hasPq (kd i) → 0 ≤ pp i ∧ pp i ≤ 7) ∧ (¬ hasPq (kd i) → pp i = -1) ∧ (kd i = 1 → 0 ≤ qq i ∧ qq i ≤ 7) ∧ (kd i ≠ 1 → qq i = -1) ∧
  (kd i = 0 ∨ kd i = 2 ∨ kd i = 7 ∨ kd i = 8 → 1 ≤ nn i ∧ nn i ≤ 200) ∧ (kd i = 1 → 0 ≤ nn i ∧ nn i ≤ 1) ∧ (kd i = 3 → 1 ≤ nn i ∧ nn i ≤ 9999) ∧ (kd i = 4 ∨ kd i = 5 ∨ kd i = 6 ∨ kd i = 9 ∨ kd i = 10 → nn i = -1)
def RLines (now nl n mn : Int) (kd dy td tg pp qq nn mkd mdy mtd mtg mpp mqq mnn ord : Int → Int) : Prop := mn = n ∧ (0 ≤ n ∧ n ≤ 120) ∧ (mkd = kd ∧ mdy = dy ∧ mtd = td ∧ mtg = tg ∧ mpp = pp ∧ mqq = qq ∧ mnn = nn) ∧
  (∀ i, 0 ≤ i → i < n → LineOk now nl kd dy td tg pp qq nn i) ∧ (∀ i j, 0 ≤ i → i ≤ j → j < n → td i ≤ td j) ∧ RepL ord (srtL dy (fun _ => true) n.toNat)
def mostQ (f : Int) : Int := [99, 1, 1, 999, 1].getD f.toNat 0
/-- a clause in both tellings: the class's code and value, the model's kind, first, second -/
def ClRel (t cd vl ck f s : Int) : Prop :=
  (ck = 0 ∧ 0 ≤ f ∧ f ≤ 4 ∧ cd = f ∧ vl = s ∧ 0 ≤ s ∧ s ≤ mostQ f) ∨
  (ck = 1 ∧ 0 ≤ f ∧ f ≤ 3 ∧ cd = 5 + f ∧ vl = s ∧ 0 ≤ s ∧ s ≤ 999) ∨
  (ck = 2 ∧ cd = 9 ∧ 1 ≤ s ∧ s ≤ 4 ∧ 0 ≤ vl ∧ vl < 4096 ∧ 0 ≤ f ∧ f < 256 ∧ (∀ k : Nat, k < 4 → ((k : Int) < s → vl / 8 ^ k % 8 = f / 4 ^ k % 4 + 1) ∧ (s ≤ k → vl / 8 ^ k % 8 = 0)) ∧ ∀ a b : Nat, a < b → (b : Int) < s → f / 4 ^ a % 4 ≠ f / 4 ^ b % 4) ∨
  (ck = 3 ∧ cd = 10 ∧ vl = f ∧ 0 ≤ f ∧ f < t)
def RTerms (nt mnt : Int) (dy cl mdy mcl : Int → Int) (cd vl : Int → Int → Int) (mck mf ms ord : Int → Int) : Prop := mnt = nt ∧ (0 ≤ nt ∧ nt ≤ 8) ∧ (mdy = dy ∧ mcl = cl) ∧ (∀ t, 0 ≤ t → t < nt → (0 ≤ dy t ∧ dy t ≤ 2000) ∧ (0 ≤ cl t ∧ cl t ≤ 10) ∧ ∀ c, 0 ≤ c → c < cl t → ClRel t (cd t c) (vl t c) (mck (10 * t + c)) (mf (10 * t + c)) (ms (10 * t + c))) ∧ RepL ord (srtL dy (fun _ => true) nt.toNat)
def RText (len mlen : Int) (tx mtx : Int → Int) (fa mfa : Int) : Prop := mlen = len ∧ (0 ≤ len ∧ len ≤ 160) ∧ mtx = tx ∧ (∀ i, 0 ≤ i → i < 160 → 0 ≤ tx i ∧ tx i ≤ 255) ∧ mfa = fa ∧ -1 ≤ fa ∧ fa ≤ 160
def RWeigh (nl nw mw : Int) (a b c d ma mb mc md : Int → Int) : Prop := mw = nw ∧ (0 ≤ nw ∧ nw ≤ 40) ∧ (ma = a ∧ mb = b ∧ mc = c ∧ md = d) ∧ ∀ i, 0 ≤ i → i < nw → (0 ≤ a i ∧ a i < nl) ∧ (1 ≤ b i ∧ b i ≤ 200) ∧ (0 ≤ c i ∧ c i ≤ 199999) ∧ (0 ≤ d i ∧ d i ≤ 2000)
def RUnpaid (u : Int → Int → Int) (m : Int → Int) : Prop := ∀ h i, 0 ≤ h → h < 8 → 0 ≤ i → i < 12 → m (8 * i + h) = u h i ∧ 0 ≤ u h i ∧ u h i ≤ 9999
def RSales (ns ms : Int) (sl by9 so9 ck m : Int → Int) : Prop := ms = ns ∧ (0 ≤ ns ∧ ns ≤ 24) ∧ (∀ i, 0 ≤ i → i < ns → (0 ≤ sl i ∧ sl i ≤ 7) ∧ (0 ≤ by9 i ∧ by9 i ≤ 7) ∧ (0 ≤ so9 i ∧ so9 i ≤ 3) ∧ (1 ≤ ck i ∧ ck i ≤ 99)) ∧ ∀ h so, 0 ≤ h → h < 8 → 0 ≤ so → so < 4 → m (8 * so + h) = netS sl by9 so9 ck h so ns.toNat
def RDues (nd md : Int) (a b v ma mb mv coin mcoin : Int → Int) : Prop := md = nd ∧ (0 ≤ nd ∧ nd ≤ 24) ∧ (ma = a ∧ mb = b ∧ mv = v ∧ mcoin = coin) ∧ (∀ i, 0 ≤ i → i < nd → (0 ≤ a i ∧ a i ≤ 7) ∧ (0 ≤ b i ∧ b i ≤ 7) ∧ (1 ≤ v i ∧ v i ≤ 9999)) ∧ ∀ h, 0 ≤ h → h < 8 → 0 ≤ coin h ∧ coin h ≤ 9999
def RPart (pf m : Int → Int) : Prop := ∀ s, 0 ≤ s → s < 4 → (0 ≤ pf s ∧ pf s < 16) ∧ ∀ t : Nat, t < 4 → (m (4 * s + t) = 0 ∨ m (4 * s + t) = 1) ∧ pf s / 2 ^ t % 2 = m (4 * s + t)
/-- the numbers that terms keep of the day asked last -/
def RCache (on nt : Int) (dy cl : Int → Int) (cd vl : Int → Int → Int) (held : Int → Int) : Prop := on = -1 ∨ ((0 ≤ on ∧ on ≤ 2000) ∧ ∀ k, 0 ≤ k → k < 10 → held k = heldS dy cl cd vl nt.toNat on k)
/-- eight rows by number -/
def sel8 (a0 a1 a2 a3 a4 a5 a6 a7 : Int → Int) (t : Int) : Int → Int := if t = 0 then a0 else if t = 1 then a1 else if t = 2 then a2 else if t = 3 then a3 else if t = 4 then a4 else if t = 5 then a5 else if t = 6 then a6 else a7
abbrev cdq (σ : Nat → Int → Int) : Int → Int → Int := sel8 (σ 21) (σ 22) (σ 23) (σ 24) (σ 25) (σ 26) (σ 27) (σ 28)
abbrev vlq (σ : Nat → Int → Int) : Int → Int → Int := sel8 (σ 30) (σ 31) (σ 32) (σ 33) (σ 34) (σ 35) (σ 36) (σ 37)
abbrev upaq (σ : Nat → Int → Int) : Int → Int → Int := sel8 (σ 80) (σ 81) (σ 82) (σ 83) (σ 84) (σ 85) (σ 86) (σ 87)
theorem eight {t : Int} (h : 0 ≤ t ∧ t < 8) : t = 0 ∨ t = 1 ∨ t = 2 ∨ t = 3 ∨ t = 4 ∨ t = 5 ∨ t = 6 ∨ t = 7 := by omega
theorem cdq_at {σ : Nat → Int → Int} {t : Int} (h : 0 ≤ t ∧ t < 8) : σ (21 + t.toNat) = cdq σ t := by
  rcases eight h with rfl | rfl | rfl | rfl | rfl | rfl | rfl | rfl <;> rfl
theorem vlq_at {σ : Nat → Int → Int} {t : Int} (h : 0 ≤ t ∧ t < 8) : σ (30 + t.toNat) = vlq σ t := by
  rcases eight h with rfl | rfl | rfl | rfl | rfl | rfl | rfl | rfl <;> rfl
theorem upaq_at {σ : Nat → Int → Int} {t : Int} (h : 0 ≤ t ∧ t < 8) : σ (80 + t.toNat) = upaq σ t := by
  rcases eight h with rfl | rfl | rfl | rfl | rfl | rfl | rfl | rfl <;> rfl
def RR (σ : Nat → Int → Int) : Prop :=
  RNow (σ 0 0) (σ 114 0) ∧
  RLots (σ 0 0) (σ 1 5) (σ 114 1) (σ 2) (σ 3) (σ 4) (σ 5) (σ 6) (σ 115) (σ 116) (σ 117) (σ 119) (σ 120) ∧
  RRoom (σ 105) (σ 121) ∧
  RLines (σ 0 0) (σ 1 5) (σ 7 9) (σ 114 9) (σ 8) (σ 9) (σ 10) (σ 11) (σ 12) (σ 13) (σ 14) (σ 122) (σ 123) (σ 124) (σ 125) (σ 126) (σ 127) (σ 128) (σ 15) ∧
  RTerms (σ 17 8) (σ 114 22) (σ 18) (σ 19) (σ 133) (σ 134) (cdq σ) (vlq σ) (σ 135) (σ 136) (σ 137) (σ 38) ∧
  RText (σ 41 1) (σ 114 29) (σ 42) (σ 138) (σ 41 6) (σ 114 32) ∧
  RWeigh (σ 1 5) (σ 74 4) (σ 114 54) (σ 75) (σ 76) (σ 77) (σ 78) (σ 155) (σ 156) (σ 157) (σ 158) ∧
  RUnpaid (upaq σ) (σ 159) ∧
  RSales (σ 88 7) (σ 114 60) (σ 89) (σ 90) (σ 91) (σ 92) (σ 160) ∧
  RDues (σ 96 4) (σ 114 63) (σ 97) (σ 98) (σ 99) (σ 162) (σ 163) (σ 164) (σ 101) (σ 167) ∧
  RPart (σ 106) (σ 168) ∧
  RCache (σ 17 7) (σ 17 8) (σ 18) (σ 19) (cdq σ) (vlq σ) (σ 40)
/-- a call on both: the same answer, and the relation holds behind it -/
def Pair (l : Launch) (G : GC) (K1 : MI) (d1 : Nat) (K2 : MI) (d2 : Nat) (As : List AV) (σ : Nat → Int → Int) : Prop :=
  ∃ P : Int → (Nat → Int → Int) → Prop, CI l G K1 d1 (vr 0 :: As) σ P ∧ ∀ z τ, P z τ → rgi z ∧ CI l G K2 d2 (vr 114 :: As) τ (fun z' τ' => z' = z ∧ RR τ')
end
section
/-! calls without loops, on both -/
variable {l : Launch} {G : GC} {σ : Nat → Int → Int}

theorem c_X3_add {so n w f dd : Int} (h0 : 0 ≤ σ 1 5 ∧ σ 1 5 < 12) : CI l G M_X3_add 0 [vr 1, vi so, vi n, vi w, vi f, vi dd] σ (fun z τ => z = σ 1 5 ∧ τ = upq (upq (upq (upq (upq (upq σ 2 (σ 1 5) so) 3 (σ 1 5) n) 4 (σ 1 5) w) 5 (σ 1 5) f) 6 (σ 1 5) dd) 1 5 (σ 1 5 + 1)) := by
  refine Ct.of rfl (Nat.le_of_ble_eq_true rfl) ?_
  refine x_aload_n (E_X3_add_0 0 rfl) rfl ?_
  refine x_getIe (v := σ 1 5) (E_X3_add_0 1 rfl) fl_X3_27 rfl (by decide) rfl ?_
  refine x_istore (E_X3_add_0 2 rfl) rfl ?_
  refine x_aload_n (E_X3_add_0 3 rfl) rfl ?_
  refine x_getR (E_X3_add_0 4 rfl) fl_X3_9 rfl (by decide) rfl ?_
  refine x_iload (E_X3_add_0 5 rfl) rfl ?_
  refine x_iload_n (E_X3_add_0 6 rfl) rfl ?_
  refine x_iast (E_X3_add_0 7 rfl) rfl (by decide) (by omega) ?_
  refine x_aload_n (E_X3_add_0 8 rfl) rfl ?_
  refine x_getR (E_X3_add_0 9 rfl) fl_X3_15 rfl (by decide) rfl ?_
  refine x_iload (E_X3_add_0 10 rfl) rfl ?_
  refine x_iload_n (E_X3_add_0 11 rfl) rfl ?_
  refine x_iast (E_X3_add_0 12 rfl) rfl (by decide) (by omega) ?_
  refine x_aload_n (E_X3_add_0 13 rfl) rfl ?_
  refine x_getR (E_X3_add_0 14 rfl) fl_X3_18 rfl (by decide) rfl ?_
  refine x_iload (E_X3_add_0 15 rfl) rfl ?_
  refine x_iload_n (E_X3_add_0 16 rfl) rfl ?_
  refine x_iast (E_X3_add_0 17 rfl) rfl (by decide) (by omega) ?_
  refine x_aload_n (E_X3_add_0 18 rfl) rfl ?_
  refine x_getR (E_X3_add_0 19 rfl) fl_X3_21 rfl (by decide) rfl ?_
  refine x_iload (E_X3_add_0 20 rfl) rfl ?_
  refine x_iload (E_X3_add_0 21 rfl) rfl ?_
  refine x_iast (E_X3_add_0 22 rfl) rfl (by decide) (by omega) ?_
  refine x_aload_n (E_X3_add_0 23 rfl) rfl ?_
  refine x_getR (E_X3_add_0 24 rfl) fl_X3_24 rfl (by decide) rfl ?_
  refine x_iload (E_X3_add_0 25 rfl) rfl ?_
  refine x_iload (E_X3_add_0 26 rfl) rfl ?_
  refine x_iast (E_X3_add_0 27 rfl) rfl (by decide) (by omega) ?_
  refine x_aload_n (E_X3_add_0 28 rfl) rfl ?_
  refine x_dupr (E_X3_add_0 29 rfl) ?_
  refine x_getIe (v := σ 1 5) (E_X3_add_0 30 rfl) fl_X3_27 rfl (by decide) rfl ?_
  refine x_iconst (E_X3_add_0 31 rfl) ?_
  refine x_iadd (E_X3_add_0 32 rfl) ?_
  refine x_putI (E_X3_add_0 33 rfl) fl_X3_27 rfl (by decide) ?_
  refine x_iload (E_X3_add_0 34 rfl) rfl ?_
  refine z_iret (E_X3_add_0 35 rfl) trivial ?_
  exact ⟨rfl, rfl⟩

theorem c_X9_add {i n w d : Int} (h0 : 0 ≤ σ 74 4 ∧ σ 74 4 < 40) : CI l G M_X9_add 0 [vr 74, vi i, vi n, vi w, vi d] σ (fun z τ => z = σ 74 4 + 1 ∧ τ = upq (upq (upq (upq (upq σ 75 (σ 74 4) i) 76 (σ 74 4) n) 77 (σ 74 4) w) 78 (σ 74 4) d) 74 4 (σ 74 4 + 1)) := by
  refine Ct.of rfl (Nat.le_of_ble_eq_true rfl) ?_
  refine x_aload_n (E_X9_add_0 0 rfl) rfl ?_
  refine x_getR (E_X9_add_0 1 rfl) fl_X9_9 rfl (by decide) rfl ?_
  refine x_aload_n (E_X9_add_0 2 rfl) rfl ?_
  refine x_getIe (v := σ 74 4) (E_X9_add_0 3 rfl) fl_X9_22 rfl (by decide) rfl ?_
  refine x_iload_n (E_X9_add_0 4 rfl) rfl ?_
  refine x_iast (E_X9_add_0 5 rfl) rfl (by decide) (by omega) ?_
  refine x_aload_n (E_X9_add_0 6 rfl) rfl ?_
  refine x_getR (E_X9_add_0 7 rfl) fl_X9_13 rfl (by decide) rfl ?_
  refine x_aload_n (E_X9_add_0 8 rfl) rfl ?_
  refine x_getIe (v := σ 74 4) (E_X9_add_0 9 rfl) fl_X9_22 rfl (by decide) rfl ?_
  refine x_iload_n (E_X9_add_0 10 rfl) rfl ?_
  refine x_iast (E_X9_add_0 11 rfl) rfl (by decide) (by omega) ?_
  refine x_aload_n (E_X9_add_0 12 rfl) rfl ?_
  refine x_getR (E_X9_add_0 13 rfl) fl_X9_16 rfl (by decide) rfl ?_
  refine x_aload_n (E_X9_add_0 14 rfl) rfl ?_
  refine x_getIe (v := σ 74 4) (E_X9_add_0 15 rfl) fl_X9_22 rfl (by decide) rfl ?_
  refine x_iload_n (E_X9_add_0 16 rfl) rfl ?_
  refine x_iast (E_X9_add_0 17 rfl) rfl (by decide) (by omega) ?_
  refine x_aload_n (E_X9_add_0 18 rfl) rfl ?_
  refine x_getR (E_X9_add_0 19 rfl) fl_X9_19 rfl (by decide) rfl ?_
  refine x_aload_n (E_X9_add_0 20 rfl) rfl ?_
  refine x_getIe (v := σ 74 4) (E_X9_add_0 21 rfl) fl_X9_22 rfl (by decide) rfl ?_
  refine x_iload (E_X9_add_0 22 rfl) rfl ?_
  refine x_iast (E_X9_add_0 23 rfl) rfl (by decide) (by omega) ?_
  refine x_aload_n (E_X9_add_0 24 rfl) rfl ?_
  refine x_dupr (E_X9_add_0 25 rfl) ?_
  refine x_getIe (v := σ 74 4) (E_X9_add_0 26 rfl) fl_X9_22 rfl (by decide) rfl ?_
  refine x_iconst (E_X9_add_0 27 rfl) ?_
  refine x_iadd (E_X9_add_0 28 rfl) ?_
  refine x_putI (E_X9_add_0 29 rfl) fl_X9_22 rfl (by decide) ?_
  refine x_aload_n (E_X9_add_0 30 rfl) rfl ?_
  refine x_getI (E_X9_add_0 31 rfl) fl_X9_22 rfl (by decide) ?_
  refine z_iret (E_X9_add_0 32 rfl) trivial ?_
  exact ⟨rfl, rfl⟩

theorem c_X6_add {a b so n : Int} (h0 : 0 ≤ σ 88 7 ∧ σ 88 7 < 24) : CI l G M_X6_add 0 [vr 88, vi a, vi b, vi so, vi n] σ (fun z τ => z = σ 88 7 + 1 ∧ τ = upq (upq (upq (upq (upq σ 89 (σ 88 7) a) 90 (σ 88 7) b) 91 (σ 88 7) so) 92 (σ 88 7) n) 88 7 (σ 88 7 + 1)) := by
  refine Ct.of rfl (Nat.le_of_ble_eq_true rfl) ?_
  refine x_aload_n (E_X6_add_0 0 rfl) rfl ?_
  refine x_getR (E_X6_add_0 1 rfl) fl_X6_11 rfl (by decide) rfl ?_
  refine x_aload_n (E_X6_add_0 2 rfl) rfl ?_
  refine x_getIe (v := σ 88 7) (E_X6_add_0 3 rfl) fl_X6_33 rfl (by decide) rfl ?_
  refine x_iload_n (E_X6_add_0 4 rfl) rfl ?_
  refine x_iast (E_X6_add_0 5 rfl) rfl (by decide) (by omega) ?_
  refine x_aload_n (E_X6_add_0 6 rfl) rfl ?_
  refine x_getR (E_X6_add_0 7 rfl) fl_X6_15 rfl (by decide) rfl ?_
  refine x_aload_n (E_X6_add_0 8 rfl) rfl ?_
  refine x_getIe (v := σ 88 7) (E_X6_add_0 9 rfl) fl_X6_33 rfl (by decide) rfl ?_
  refine x_iload_n (E_X6_add_0 10 rfl) rfl ?_
  refine x_iast (E_X6_add_0 11 rfl) rfl (by decide) (by omega) ?_
  refine x_aload_n (E_X6_add_0 12 rfl) rfl ?_
  refine x_getR (E_X6_add_0 13 rfl) fl_X6_18 rfl (by decide) rfl ?_
  refine x_aload_n (E_X6_add_0 14 rfl) rfl ?_
  refine x_getIe (v := σ 88 7) (E_X6_add_0 15 rfl) fl_X6_33 rfl (by decide) rfl ?_
  refine x_iload_n (E_X6_add_0 16 rfl) rfl ?_
  refine x_iast (E_X6_add_0 17 rfl) rfl (by decide) (by omega) ?_
  refine x_aload_n (E_X6_add_0 18 rfl) rfl ?_
  refine x_getR (E_X6_add_0 19 rfl) fl_X6_21 rfl (by decide) rfl ?_
  refine x_aload_n (E_X6_add_0 20 rfl) rfl ?_
  refine x_getIe (v := σ 88 7) (E_X6_add_0 21 rfl) fl_X6_33 rfl (by decide) rfl ?_
  refine x_iload (E_X6_add_0 22 rfl) rfl ?_
  refine x_iast (E_X6_add_0 23 rfl) rfl (by decide) (by omega) ?_
  refine x_aload_n (E_X6_add_0 24 rfl) rfl ?_
  refine x_dupr (E_X6_add_0 25 rfl) ?_
  refine x_getIe (v := σ 88 7) (E_X6_add_0 26 rfl) fl_X6_33 rfl (by decide) rfl ?_
  refine x_iconst (E_X6_add_0 27 rfl) ?_
  refine x_iadd (E_X6_add_0 28 rfl) ?_
  refine x_putI (E_X6_add_0 29 rfl) fl_X6_33 rfl (by decide) ?_
  refine x_aload_n (E_X6_add_0 30 rfl) rfl ?_
  refine x_getI (E_X6_add_0 31 rfl) fl_X6_33 rfl (by decide) ?_
  refine z_iret (E_X6_add_0 32 rfl) trivial ?_
  exact ⟨rfl, rfl⟩

theorem c_X1_add {a b v : Int} (h0 : 0 ≤ σ 96 4 ∧ σ 96 4 < 24) : CI l G M_X1_add 0 [vr 96, vi a, vi b, vi v] σ (fun z τ => z = σ 96 4 + 1 ∧ τ = upq (upq (upq (upq σ 97 (σ 96 4) a) 98 (σ 96 4) b) 99 (σ 96 4) v) 96 4 (σ 96 4 + 1)) := by
  refine Ct.of rfl (Nat.le_of_ble_eq_true rfl) ?_
  refine x_aload_n (E_X1_add_0 0 rfl) rfl ?_
  refine x_getR (E_X1_add_0 1 rfl) fl_X1_11 rfl (by decide) rfl ?_
  refine x_aload_n (E_X1_add_0 2 rfl) rfl ?_
  refine x_getIe (v := σ 96 4) (E_X1_add_0 3 rfl) fl_X1_37 rfl (by decide) rfl ?_
  refine x_iload_n (E_X1_add_0 4 rfl) rfl ?_
  refine x_iast (E_X1_add_0 5 rfl) rfl (by decide) (by omega) ?_
  refine x_aload_n (E_X1_add_0 6 rfl) rfl ?_
  refine x_getR (E_X1_add_0 7 rfl) fl_X1_15 rfl (by decide) rfl ?_
  refine x_aload_n (E_X1_add_0 8 rfl) rfl ?_
  refine x_getIe (v := σ 96 4) (E_X1_add_0 9 rfl) fl_X1_37 rfl (by decide) rfl ?_
  refine x_iload_n (E_X1_add_0 10 rfl) rfl ?_
  refine x_iast (E_X1_add_0 11 rfl) rfl (by decide) (by omega) ?_
  refine x_aload_n (E_X1_add_0 12 rfl) rfl ?_
  refine x_getR (E_X1_add_0 13 rfl) fl_X1_18 rfl (by decide) rfl ?_
  refine x_aload_n (E_X1_add_0 14 rfl) rfl ?_
  refine x_getIe (v := σ 96 4) (E_X1_add_0 15 rfl) fl_X1_37 rfl (by decide) rfl ?_
  refine x_iload_n (E_X1_add_0 16 rfl) rfl ?_
  refine x_iast (E_X1_add_0 17 rfl) rfl (by decide) (by omega) ?_
  refine x_aload_n (E_X1_add_0 18 rfl) rfl ?_
  refine x_dupr (E_X1_add_0 19 rfl) ?_
  refine x_getIe (v := σ 96 4) (E_X1_add_0 20 rfl) fl_X1_37 rfl (by decide) rfl ?_
  refine x_iconst (E_X1_add_0 21 rfl) ?_
  refine x_iadd (E_X1_add_0 22 rfl) ?_
  refine x_putI (E_X1_add_0 23 rfl) fl_X1_37 rfl (by decide) ?_
  refine x_aload_n (E_X1_add_0 24 rfl) rfl ?_
  refine x_getI (E_X1_add_0 25 rfl) fl_X1_37 rfl (by decide) ?_
  refine z_iret (E_X1_add_0 26 rfl) trivial ?_
  exact ⟨rfl, rfl⟩

theorem c_X10_go {n : Int} (hn : rgi n) (hnow : 0 ≤ σ 0 0 ∧ σ 0 0 ≤ 2000) : CI l G M_X10_go 1 [vr 0, vi n] σ (fun z τ => z = (if ¬ (0 ≤ n ∧ n ≤ 999) then -1002 else if 2000 < σ 0 0 + n then -1003 else σ 0 0 + n) ∧ τ = if (0 ≤ n ∧ n ≤ 999) ∧ σ 0 0 + n ≤ 2000 then upq σ 0 0 (σ 0 0 + n) else σ) := by
  refine Ct.of rfl (Nat.le_of_ble_eq_true rfl) ?_
  refine x_iload_n (E_X10_go_0 0 rfl) rfl ?_
  refine x_iconst (E_X10_go_0 1 rfl) ?_
  refine x_sipush (z := 999) (E_X10_go_0 2 rfl) (by decide) ?_
  refine z_callSi (E_X10_go_0 3 rfl) ml_X10_100 ms_X10_within (c_X10_within (by omega) (by omega) (by omega)) (by decide) rfl rfl (by decide) (fun z9 τ9 h9 => ?_)
  obtain ⟨rfl, ⟨rfl, c1⟩ | ⟨rfl, c1⟩⟩ := h9
  · refine x_if_ne (E_X10_go_0 4 rfl) (by decide) (fun _ => ?_) (fun c9 => absurd c9 (by decide))
    refine x_aload_n (E_X10_go_0 7 rfl) rfl ?_
    refine x_getIe (v := σ 0 0) (E_X10_go_0 8 rfl) fl_X10_7 rfl (by decide) rfl ?_
    refine x_iload_n (E_X10_go_0 9 rfl) rfl ?_
    refine x_iadd (E_X10_go_0 10 rfl) ?_
    refine x_sipush (z := 2000) (E_X10_go_0 11 rfl) (by decide) ?_
    refine x_icmp_le (E_X10_go_0 12 rfl) (by omega) (by decide) (fun c2 => ?_) (fun c2 => ?_)
    · refine x_aload_n (E_X10_go_0 15 rfl) rfl ?_
      refine x_dupr (E_X10_go_0 16 rfl) ?_
      refine x_getIe (v := σ 0 0) (E_X10_go_0 17 rfl) fl_X10_7 rfl (by decide) rfl ?_
      refine x_iload_n (E_X10_go_0 18 rfl) rfl ?_
      refine x_iadd (E_X10_go_0 19 rfl) ?_
      refine x_putI (E_X10_go_0 20 rfl) fl_X10_7 rfl (by decide) ?_
      refine x_aload_n (E_X10_go_0 21 rfl) rfl ?_
      refine x_getI (E_X10_go_0 22 rfl) fl_X10_7 rfl (by decide) ?_
      refine z_iret (E_X10_go_0 23 rfl) trivial ?_
      refine ⟨?_, (if_pos (by omega)).symm⟩
      show σ 0 0 + n = _
      exact (if_n (by omega) (if_n (by omega) rfl)).symm
    · refine x_sipush (z := (-1003)) (E_X10_go_0 13 rfl) (by decide) ?_
      refine z_iret (E_X10_go_0 14 rfl) trivial ?_
      exact ⟨(if_n (by omega) (if_p (by omega) rfl)).symm, (if_neg (by omega)).symm⟩
  · refine x_if_ne (E_X10_go_0 4 rfl) (by decide) (fun c9 => absurd c9 (by decide)) (fun _ => ?_)
    refine x_sipush (z := (-1002)) (E_X10_go_0 5 rfl) (by decide) ?_
    refine z_iret (E_X10_go_0 6 rfl) trivial ?_
    exact ⟨(if_p (by omega) rfl).symm, (if_neg (by omega)).symm⟩

theorem c_X11_go {n : Int} (hn : rgi n) (hnow : 0 ≤ σ 114 0 ∧ σ 114 0 ≤ 2000) : CI l G M_X11_go 1 [vr 114, vi n] σ (fun z τ => z = (if ¬ (0 ≤ n ∧ n ≤ 999) then -1002 else if 2000 < σ 114 0 + n then -1003 else σ 114 0 + n) ∧ τ = if (0 ≤ n ∧ n ≤ 999) ∧ σ 114 0 + n ≤ 2000 then upq σ 114 0 (σ 114 0 + n) else σ) := by
  refine Ct.of rfl (Nat.le_of_ble_eq_true rfl) ?_
  refine x_iload_n (E_X11_go_0 0 rfl) rfl ?_
  refine x_i2l (E_X11_go_0 1 rfl) (by omega) ?_
  refine x_lconst (z := 0) (E_X11_go_0 2 rfl) rfl ?_
  refine x_ldc2 (z := 999) (E_X11_go_0 3 rfl) kc_X11_211 (by decide) ?_
  refine z_callSi (E_X11_go_0 4 rfl) ml_X11_197 ms_X11_in (c_X11_in (by omega) (by omega) (by omega)) (by decide) rfl rfl (by decide) (fun z9 τ9 h9 => ?_)
  obtain ⟨rfl, ⟨rfl, c1⟩ | ⟨rfl, c1⟩⟩ := h9
  · refine x_if_ne (E_X11_go_0 5 rfl) (by decide) (fun _ => ?_) (fun c9 => absurd c9 (by decide))
    refine x_aload_n (E_X11_go_0 8 rfl) rfl ?_
    refine x_getIe (v := σ 114 0) (E_X11_go_0 9 rfl) fl_X11_205 rfl (by decide) rfl ?_
    refine x_iload_n (E_X11_go_0 10 rfl) rfl ?_
    refine x_iadd (E_X11_go_0 11 rfl) ?_
    refine x_sipush (z := 2000) (E_X11_go_0 12 rfl) (by decide) ?_
    refine x_icmp_le (E_X11_go_0 13 rfl) (by omega) (by decide) (fun c2 => ?_) (fun c2 => ?_)
    · refine x_aload_n (E_X11_go_0 16 rfl) rfl ?_
      refine x_dupr (E_X11_go_0 17 rfl) ?_
      refine x_getIe (v := σ 114 0) (E_X11_go_0 18 rfl) fl_X11_205 rfl (by decide) rfl ?_
      refine x_iload_n (E_X11_go_0 19 rfl) rfl ?_
      refine x_iadd (E_X11_go_0 20 rfl) ?_
      refine x_putI (E_X11_go_0 21 rfl) fl_X11_205 rfl (by decide) ?_
      refine x_aload_n (E_X11_go_0 22 rfl) rfl ?_
      refine x_getI (E_X11_go_0 23 rfl) fl_X11_205 rfl (by decide) ?_
      refine z_iret (E_X11_go_0 24 rfl) trivial ?_
      refine ⟨?_, (if_pos (by omega)).symm⟩
      show σ 114 0 + n = _
      exact (if_n (by omega) (if_n (by omega) rfl)).symm
    · refine x_sipush (z := (-1003)) (E_X11_go_0 14 rfl) (by decide) ?_
      refine z_iret (E_X11_go_0 15 rfl) trivial ?_
      exact ⟨(if_n (by omega) (if_p (by omega) rfl)).symm, (if_neg (by omega)).symm⟩
  · refine x_if_ne (E_X11_go_0 5 rfl) (by decide) (fun c9 => absurd c9 (by decide)) (fun _ => ?_)
    refine x_sipush (z := (-1002)) (E_X11_go_0 6 rfl) (by decide) ?_
    refine z_iret (E_X11_go_0 7 rfl) trivial ?_
    exact ⟨(if_p (by omega) rfl).symm, (if_neg (by omega)).symm⟩

theorem c_X10_lot {so n w h f : Int} (hso : rgi so) (hn : rgi n) (hw : rgi w) (hh : rgi h) (hf : rgi f) (h0 : 0 ≤ σ 1 5 ∧ σ 1 5 ≤ 12) : CI l G M_X10_lot 2 [vr 0, vi so, vi n, vi w, vi h, vi f] σ (fun z τ => z = (if ¬ ((0 ≤ h ∧ h ≤ 7) ∧ 0 ≤ f ∧ f ≤ 5) then -1001 else if ¬ ((0 ≤ so ∧ so ≤ 3) ∧ (1 ≤ n ∧ n ≤ 200) ∧ 1 ≤ w ∧ w ≤ 999) then -1002 else if 12 ≤ σ 1 5 then -1004 else σ 1 5) ∧ τ = if ((0 ≤ h ∧ h ≤ 7) ∧ 0 ≤ f ∧ f ≤ 5) ∧ ((0 ≤ so ∧ so ≤ 3) ∧ (1 ≤ n ∧ n ≤ 200) ∧ 1 ≤ w ∧ w ≤ 999) ∧ σ 1 5 < 12 then upq (upq (upq (upq (upq (upq σ 2 (σ 1 5) so) 3 (σ 1 5) n) 4 (σ 1 5) w) 5 (σ 1 5) f) 6 (σ 1 5) (σ 0 0)) 1 5 (σ 1 5 + 1) else σ) := by
  refine Ct.of rfl (Nat.le_of_ble_eq_true rfl) ?_
  refine x_iload (E_X10_lot_0 0 rfl) rfl ?_
  refine z_callSi (E_X10_lot_0 1 rfl) ml_X10_104 ms_X10_isHouse (c_X10_isHouse (by omega)) (by decide) rfl rfl (by decide) (fun z9 τ9 h9 => ?_)
  obtain ⟨rfl, ⟨rfl, c1⟩ | ⟨rfl, c1⟩⟩ := h9
  · refine x_if_eq (E_X10_lot_0 2 rfl) (by decide) (fun c9 => absurd c9 (by decide)) (fun _ => ?_)
    refine x_iload (E_X10_lot_0 3 rfl) rfl ?_
    refine z_callSi (E_X10_lot_0 4 rfl) ml_X10_108 ms_X10_isFloor (c_X10_isFloor (by omega)) (by decide) rfl rfl (by decide) (fun z9 τ9 h9 => ?_)
    obtain ⟨rfl, ⟨rfl, c2⟩ | ⟨rfl, c2⟩⟩ := h9
    · refine x_if_ne (E_X10_lot_0 5 rfl) (by decide) (fun _ => ?_) (fun c9 => absurd c9 (by decide))
      refine x_iload_n (E_X10_lot_0 8 rfl) rfl ?_
      refine z_callSi (E_X10_lot_0 9 rfl) ml_X10_111 ms_X10_isSort (c_X10_isSort (by omega)) (by decide) rfl rfl (by decide) (fun z9 τ9 h9 => ?_)
      obtain ⟨rfl, ⟨rfl, c3⟩ | ⟨rfl, c3⟩⟩ := h9
      · refine x_if_eq (E_X10_lot_0 10 rfl) (by decide) (fun c9 => absurd c9 (by decide)) (fun _ => ?_)
        refine x_iload_n (E_X10_lot_0 11 rfl) rfl ?_
        refine x_iconst (E_X10_lot_0 12 rfl) ?_
        refine x_sipush (z := 200) (E_X10_lot_0 13 rfl) (by decide) ?_
        refine z_callSi (E_X10_lot_0 14 rfl) ml_X10_100 ms_X10_within (c_X10_within (by omega) (by omega) (by omega)) (by decide) rfl rfl (by decide) (fun z9 τ9 h9 => ?_)
        obtain ⟨rfl, ⟨rfl, c4⟩ | ⟨rfl, c4⟩⟩ := h9
        · refine x_if_eq (E_X10_lot_0 15 rfl) (by decide) (fun c9 => absurd c9 (by decide)) (fun _ => ?_)
          refine x_iload_n (E_X10_lot_0 16 rfl) rfl ?_
          refine x_iconst (E_X10_lot_0 17 rfl) ?_
          refine x_sipush (z := 999) (E_X10_lot_0 18 rfl) (by decide) ?_
          refine z_callSi (E_X10_lot_0 19 rfl) ml_X10_100 ms_X10_within (c_X10_within (by omega) (by omega) (by omega)) (by decide) rfl rfl (by decide) (fun z9 τ9 h9 => ?_)
          obtain ⟨rfl, ⟨rfl, c5⟩ | ⟨rfl, c5⟩⟩ := h9
          · refine x_if_ne (E_X10_lot_0 20 rfl) (by decide) (fun _ => ?_) (fun c9 => absurd c9 (by decide))
            refine x_aload_n (E_X10_lot_0 23 rfl) rfl ?_
            refine x_getR (E_X10_lot_0 24 rfl) fl_X10_16 rfl (by decide) rfl ?_
            refine x_getIe (v := σ 1 5) (E_X10_lot_0 25 rfl) fl_X10_114 rfl (by decide) rfl ?_
            refine x_bipush (z := 12) (E_X10_lot_0 26 rfl) (by decide) ?_
            refine x_icmp_lt (E_X10_lot_0 27 rfl) (by omega) (by decide) (fun c6 => ?_) (fun c6 => ?_)
            · refine x_aload_n (E_X10_lot_0 30 rfl) rfl ?_
              refine x_getR (E_X10_lot_0 31 rfl) fl_X10_16 rfl (by decide) rfl ?_
              refine x_iload_n (E_X10_lot_0 32 rfl) rfl ?_
              refine x_iload_n (E_X10_lot_0 33 rfl) rfl ?_
              refine x_iload_n (E_X10_lot_0 34 rfl) rfl ?_
              refine x_iload (E_X10_lot_0 35 rfl) rfl ?_
              refine x_aload_n (E_X10_lot_0 36 rfl) rfl ?_
              refine x_getIe (v := σ 0 0) (E_X10_lot_0 37 rfl) fl_X10_7 rfl (by decide) rfl ?_
              refine z_callVi (E_X10_lot_0 38 rfl) ml_X10_117 mv_X3_add rfl (by decide) (by decide) (c_X3_add (by omega)) (by decide) rfl rfl (by decide) (fun z9 τ9 h9 => ?_)
              obtain ⟨rfl, rfl⟩ := h9
              refine z_iret (E_X10_lot_0 39 rfl) trivial ?_
              exact ⟨(if_n (by omega) (if_n (by omega) (if_n (by omega) rfl))).symm, (if_pos (by omega)).symm⟩
            · refine x_sipush (z := (-1004)) (E_X10_lot_0 28 rfl) (by decide) ?_
              refine z_iret (E_X10_lot_0 29 rfl) trivial ?_
              exact ⟨(if_n (by omega) (if_n (by omega) (if_p (by omega) rfl))).symm, (if_neg (by omega)).symm⟩
          · refine x_if_ne (E_X10_lot_0 20 rfl) (by decide) (fun c9 => absurd c9 (by decide)) (fun _ => ?_)
            refine x_sipush (z := (-1002)) (E_X10_lot_0 21 rfl) (by decide) ?_
            refine z_iret (E_X10_lot_0 22 rfl) trivial ?_
            exact ⟨(if_n (by omega) (if_p (by omega) rfl)).symm, (if_neg (by omega)).symm⟩
        · refine x_if_eq (E_X10_lot_0 15 rfl) (by decide) (fun _ => ?_) (fun c9 => absurd (by decide) c9)
          refine x_sipush (z := (-1002)) (E_X10_lot_0 21 rfl) (by decide) ?_
          refine z_iret (E_X10_lot_0 22 rfl) trivial ?_
          exact ⟨(if_n (by omega) (if_p (by omega) rfl)).symm, (if_neg (by omega)).symm⟩
      · refine x_if_eq (E_X10_lot_0 10 rfl) (by decide) (fun _ => ?_) (fun c9 => absurd (by decide) c9)
        refine x_sipush (z := (-1002)) (E_X10_lot_0 21 rfl) (by decide) ?_
        refine z_iret (E_X10_lot_0 22 rfl) trivial ?_
        exact ⟨(if_n (by omega) (if_p (by omega) rfl)).symm, (if_neg (by omega)).symm⟩
    · refine x_if_ne (E_X10_lot_0 5 rfl) (by decide) (fun c9 => absurd c9 (by decide)) (fun _ => ?_)
      refine x_sipush (z := (-1001)) (E_X10_lot_0 6 rfl) (by decide) ?_
      refine z_iret (E_X10_lot_0 7 rfl) trivial ?_
      exact ⟨(if_p (by omega) rfl).symm, (if_neg (by omega)).symm⟩
  · refine x_if_eq (E_X10_lot_0 2 rfl) (by decide) (fun _ => ?_) (fun c9 => absurd (by decide) c9)
    refine x_sipush (z := (-1001)) (E_X10_lot_0 6 rfl) (by decide) ?_
    refine z_iret (E_X10_lot_0 7 rfl) trivial ?_
    exact ⟨(if_p (by omega) rfl).symm, (if_neg (by omega)).symm⟩

theorem c_X11_lot {so n w h f : Int} (hso : rgi so) (hn : rgi n) (hw : rgi w) (hh : rgi h) (hf : rgi f) (h0 : 0 ≤ σ 114 1 ∧ σ 114 1 ≤ 12) : CI l G M_X11_lot 2 [vr 114, vi so, vi n, vi w, vi h, vi f] σ (fun z τ => z = (if ¬ ((0 ≤ h ∧ h ≤ 7) ∧ 0 ≤ f ∧ f ≤ 5) then -1001 else if ¬ ((0 ≤ so ∧ so ≤ 3) ∧ (1 ≤ n ∧ n ≤ 200) ∧ 1 ≤ w ∧ w ≤ 999) then -1002 else if 12 ≤ σ 114 1 then -1004 else σ 114 1) ∧ τ = if ((0 ≤ h ∧ h ≤ 7) ∧ 0 ≤ f ∧ f ≤ 5) ∧ ((0 ≤ so ∧ so ≤ 3) ∧ (1 ≤ n ∧ n ≤ 200) ∧ 1 ≤ w ∧ w ≤ 999) ∧ σ 114 1 < 12 then upq (upq (upq (upq (upq (upq (upq σ 115 (σ 114 1) so) 116 (σ 114 1) n) 117 (σ 114 1) w) 118 (σ 114 1) h) 119 (σ 114 1) f) 120 (σ 114 1) (σ 114 0)) 114 1 (σ 114 1 + 1) else σ) := by
  refine Ct.of rfl (Nat.le_of_ble_eq_true rfl) ?_
  refine x_iload (E_X11_lot_0 0 rfl) rfl ?_
  refine z_callSi (E_X11_lot_0 1 rfl) ml_X11_213 ms_X11_isHouse (c_X11_isHouse (by omega)) (by decide) rfl rfl (by decide) (fun z9 τ9 h9 => ?_)
  obtain ⟨rfl, ⟨rfl, c1⟩ | ⟨rfl, c1⟩⟩ := h9
  · refine x_if_eq (E_X11_lot_0 2 rfl) (by decide) (fun c9 => absurd c9 (by decide)) (fun _ => ?_)
    refine x_iload (E_X11_lot_0 3 rfl) rfl ?_
    refine z_callSi (E_X11_lot_0 4 rfl) ml_X11_217 ms_X11_isFloor (c_X11_isFloor (by omega)) (by decide) rfl rfl (by decide) (fun z9 τ9 h9 => ?_)
    obtain ⟨rfl, ⟨rfl, c2⟩ | ⟨rfl, c2⟩⟩ := h9
    · refine x_if_ne (E_X11_lot_0 5 rfl) (by decide) (fun _ => ?_) (fun c9 => absurd c9 (by decide))
      refine x_iload_n (E_X11_lot_0 8 rfl) rfl ?_
      refine x_i2l (E_X11_lot_0 9 rfl) (by omega) ?_
      refine x_lconst (z := 0) (E_X11_lot_0 10 rfl) rfl ?_
      refine x_ldc2 (z := 3) (E_X11_lot_0 11 rfl) kc_X11_220 (by decide) ?_
      refine z_callSi (E_X11_lot_0 12 rfl) ml_X11_197 ms_X11_in (c_X11_in (by omega) (by omega) (by omega)) (by decide) rfl rfl (by decide) (fun z9 τ9 h9 => ?_)
      obtain ⟨rfl, ⟨rfl, c3⟩ | ⟨rfl, c3⟩⟩ := h9
      · refine x_if_eq (E_X11_lot_0 13 rfl) (by decide) (fun c9 => absurd c9 (by decide)) (fun _ => ?_)
        refine x_iload_n (E_X11_lot_0 14 rfl) rfl ?_
        refine x_i2l (E_X11_lot_0 15 rfl) (by omega) ?_
        refine x_lconst (z := 1) (E_X11_lot_0 16 rfl) rfl ?_
        refine x_ldc2 (z := 200) (E_X11_lot_0 17 rfl) kc_X11_222 (by decide) ?_
        refine z_callSi (E_X11_lot_0 18 rfl) ml_X11_197 ms_X11_in (c_X11_in (by omega) (by omega) (by omega)) (by decide) rfl rfl (by decide) (fun z9 τ9 h9 => ?_)
        obtain ⟨rfl, ⟨rfl, c4⟩ | ⟨rfl, c4⟩⟩ := h9
        · refine x_if_eq (E_X11_lot_0 19 rfl) (by decide) (fun c9 => absurd c9 (by decide)) (fun _ => ?_)
          refine x_iload_n (E_X11_lot_0 20 rfl) rfl ?_
          refine x_i2l (E_X11_lot_0 21 rfl) (by omega) ?_
          refine x_lconst (z := 1) (E_X11_lot_0 22 rfl) rfl ?_
          refine x_ldc2 (z := 999) (E_X11_lot_0 23 rfl) kc_X11_211 (by decide) ?_
          refine z_callSi (E_X11_lot_0 24 rfl) ml_X11_197 ms_X11_in (c_X11_in (by omega) (by omega) (by omega)) (by decide) rfl rfl (by decide) (fun z9 τ9 h9 => ?_)
          obtain ⟨rfl, ⟨rfl, c5⟩ | ⟨rfl, c5⟩⟩ := h9
          · refine x_if_ne (E_X11_lot_0 25 rfl) (by decide) (fun _ => ?_) (fun c9 => absurd c9 (by decide))
            refine x_aload_n (E_X11_lot_0 28 rfl) rfl ?_
            refine x_getIe (v := σ 114 1) (E_X11_lot_0 29 rfl) fl_X11_208 rfl (by decide) rfl ?_
            refine x_bipush (z := 12) (E_X11_lot_0 30 rfl) (by decide) ?_
            refine x_icmp_ne (E_X11_lot_0 31 rfl) (by omega) (by decide) (fun c6 => ?_) (fun c6 => ?_)
            · refine x_aload_n (E_X11_lot_0 34 rfl) rfl ?_
              refine x_getR (E_X11_lot_0 35 rfl) fl_X11_7 rfl (by decide) rfl ?_
              refine x_aload_n (E_X11_lot_0 36 rfl) rfl ?_
              refine x_getIe (v := σ 114 1) (E_X11_lot_0 37 rfl) fl_X11_208 rfl (by decide) rfl ?_
              refine x_iload_n (E_X11_lot_0 38 rfl) rfl ?_
              refine x_iast (E_X11_lot_0 39 rfl) rfl (by decide) (by omega) ?_
              refine x_aload_n (E_X11_lot_0 40 rfl) rfl ?_
              refine x_getR (E_X11_lot_0 41 rfl) fl_X11_13 rfl (by decide) rfl ?_
              refine x_aload_n (E_X11_lot_0 42 rfl) rfl ?_
              refine x_getIe (v := σ 114 1) (E_X11_lot_0 43 rfl) fl_X11_208 rfl (by decide) rfl ?_
              refine x_iload_n (E_X11_lot_0 44 rfl) rfl ?_
              refine x_iast (E_X11_lot_0 45 rfl) rfl (by decide) (by omega) ?_
              refine x_aload_n (E_X11_lot_0 46 rfl) rfl ?_
              refine x_getR (E_X11_lot_0 47 rfl) fl_X11_16 rfl (by decide) rfl ?_
              refine x_aload_n (E_X11_lot_0 48 rfl) rfl ?_
              refine x_getIe (v := σ 114 1) (E_X11_lot_0 49 rfl) fl_X11_208 rfl (by decide) rfl ?_
              refine x_iload_n (E_X11_lot_0 50 rfl) rfl ?_
              refine x_iast (E_X11_lot_0 51 rfl) rfl (by decide) (by omega) ?_
              refine x_aload_n (E_X11_lot_0 52 rfl) rfl ?_
              refine x_getR (E_X11_lot_0 53 rfl) fl_X11_19 rfl (by decide) rfl ?_
              refine x_aload_n (E_X11_lot_0 54 rfl) rfl ?_
              refine x_getIe (v := σ 114 1) (E_X11_lot_0 55 rfl) fl_X11_208 rfl (by decide) rfl ?_
              refine x_iload (E_X11_lot_0 56 rfl) rfl ?_
              refine x_iast (E_X11_lot_0 57 rfl) rfl (by decide) (by omega) ?_
              refine x_aload_n (E_X11_lot_0 58 rfl) rfl ?_
              refine x_getR (E_X11_lot_0 59 rfl) fl_X11_22 rfl (by decide) rfl ?_
              refine x_aload_n (E_X11_lot_1 0 rfl) rfl ?_
              refine x_getIe (v := σ 114 1) (E_X11_lot_1 1 rfl) fl_X11_208 rfl (by decide) rfl ?_
              refine x_iload (E_X11_lot_1 2 rfl) rfl ?_
              refine x_iast (E_X11_lot_1 3 rfl) rfl (by decide) (by omega) ?_
              refine x_aload_n (E_X11_lot_1 4 rfl) rfl ?_
              refine x_getR (E_X11_lot_1 5 rfl) fl_X11_25 rfl (by decide) rfl ?_
              refine x_aload_n (E_X11_lot_1 6 rfl) rfl ?_
              refine x_getIe (v := σ 114 1) (E_X11_lot_1 7 rfl) fl_X11_208 rfl (by decide) rfl ?_
              refine x_aload_n (E_X11_lot_1 8 rfl) rfl ?_
              refine x_getIe (v := σ 114 0) (E_X11_lot_1 9 rfl) fl_X11_205 rfl (by decide) rfl ?_
              refine x_iast (E_X11_lot_1 10 rfl) rfl (by decide) (by omega) ?_
              refine x_aload_n (E_X11_lot_1 11 rfl) rfl ?_
              refine x_dupr (E_X11_lot_1 12 rfl) ?_
              refine x_getIe (v := σ 114 1) (E_X11_lot_1 13 rfl) fl_X11_208 rfl (by decide) rfl ?_
              refine x_iconst (E_X11_lot_1 14 rfl) ?_
              refine x_iadd (E_X11_lot_1 15 rfl) ?_
              refine x_putI (E_X11_lot_1 16 rfl) fl_X11_208 rfl (by decide) ?_
              refine x_aload_n (E_X11_lot_1 17 rfl) rfl ?_
              refine x_getI (E_X11_lot_1 18 rfl) fl_X11_208 rfl (by decide) ?_
              refine x_iconst (E_X11_lot_1 19 rfl) ?_
              refine x_isub (E_X11_lot_1 20 rfl) ?_
              refine z_iret (E_X11_lot_1 21 rfl) trivial ?_
              refine ⟨?_, (if_pos (by omega)).symm⟩
              show σ 114 1 + 1 - 1 = _
              exact (if_n (by omega) (if_n (by omega) (if_n (by omega) (by omega)))).symm
            · refine x_sipush (z := (-1004)) (E_X11_lot_0 32 rfl) (by decide) ?_
              refine z_iret (E_X11_lot_0 33 rfl) trivial ?_
              exact ⟨(if_n (by omega) (if_n (by omega) (if_p (by omega) rfl))).symm, (if_neg (by omega)).symm⟩
          · refine x_if_ne (E_X11_lot_0 25 rfl) (by decide) (fun c9 => absurd c9 (by decide)) (fun _ => ?_)
            refine x_sipush (z := (-1002)) (E_X11_lot_0 26 rfl) (by decide) ?_
            refine z_iret (E_X11_lot_0 27 rfl) trivial ?_
            exact ⟨(if_n (by omega) (if_p (by omega) rfl)).symm, (if_neg (by omega)).symm⟩
        · refine x_if_eq (E_X11_lot_0 19 rfl) (by decide) (fun _ => ?_) (fun c9 => absurd (by decide) c9)
          refine x_sipush (z := (-1002)) (E_X11_lot_0 26 rfl) (by decide) ?_
          refine z_iret (E_X11_lot_0 27 rfl) trivial ?_
          exact ⟨(if_n (by omega) (if_p (by omega) rfl)).symm, (if_neg (by omega)).symm⟩
      · refine x_if_eq (E_X11_lot_0 13 rfl) (by decide) (fun _ => ?_) (fun c9 => absurd (by decide) c9)
        refine x_sipush (z := (-1002)) (E_X11_lot_0 26 rfl) (by decide) ?_
        refine z_iret (E_X11_lot_0 27 rfl) trivial ?_
        exact ⟨(if_n (by omega) (if_p (by omega) rfl)).symm, (if_neg (by omega)).symm⟩
    · refine x_if_ne (E_X11_lot_0 5 rfl) (by decide) (fun c9 => absurd c9 (by decide)) (fun _ => ?_)
      refine x_sipush (z := (-1001)) (E_X11_lot_0 6 rfl) (by decide) ?_
      refine z_iret (E_X11_lot_0 7 rfl) trivial ?_
      exact ⟨(if_p (by omega) rfl).symm, (if_neg (by omega)).symm⟩
  · refine x_if_eq (E_X11_lot_0 2 rfl) (by decide) (fun _ => ?_) (fun c9 => absurd (by decide) c9)
    refine x_sipush (z := (-1001)) (E_X11_lot_0 6 rfl) (by decide) ?_
    refine z_iret (E_X11_lot_0 7 rfl) trivial ?_
    exact ⟨(if_p (by omega) rfl).symm, (if_neg (by omega)).symm⟩

theorem c_X10_room {f v : Int} (hf : rgi f) (hv : rgi v)  : CI l G M_X10_room 2 [vr 0, vi f, vi v] σ (fun z τ => z = (if ¬ (0 ≤ f ∧ f ≤ 5) then -1001 else if ¬ (0 ≤ v ∧ v ≤ 999) then -1002 else σ 105 f) ∧ τ = if (0 ≤ f ∧ f ≤ 5) ∧ 0 ≤ v ∧ v ≤ 999 then upq σ 105 f v else σ) := by
  refine Ct.of rfl (Nat.le_of_ble_eq_true rfl) ?_
  refine x_iload_n (E_X10_room_0 0 rfl) rfl ?_
  refine z_callSi (E_X10_room_0 1 rfl) ml_X10_108 ms_X10_isFloor (c_X10_isFloor (by omega)) (by decide) rfl rfl (by decide) (fun z9 τ9 h9 => ?_)
  obtain ⟨rfl, ⟨rfl, c1⟩ | ⟨rfl, c1⟩⟩ := h9
  · refine x_if_ne (E_X10_room_0 2 rfl) (by decide) (fun _ => ?_) (fun c9 => absurd c9 (by decide))
    refine x_iload_n (E_X10_room_0 5 rfl) rfl ?_
    refine x_iconst (E_X10_room_0 6 rfl) ?_
    refine x_sipush (z := 999) (E_X10_room_0 7 rfl) (by decide) ?_
    refine z_callSi (E_X10_room_0 8 rfl) ml_X10_100 ms_X10_within (c_X10_within (by omega) (by omega) (by omega)) (by decide) rfl rfl (by decide) (fun z9 τ9 h9 => ?_)
    obtain ⟨rfl, ⟨rfl, c2⟩ | ⟨rfl, c2⟩⟩ := h9
    · refine x_if_ne (E_X10_room_0 9 rfl) (by decide) (fun _ => ?_) (fun c9 => absurd c9 (by decide))
      refine x_aload_n (E_X10_room_0 12 rfl) rfl ?_
      refine x_getR (E_X10_room_0 13 rfl) fl_X10_86 rfl (by decide) rfl ?_
      refine x_iload_n (E_X10_room_0 14 rfl) rfl ?_
      refine x_ialde (f := σ 105) (E_X10_room_0 15 rfl) rfl (by decide) (by omega) rfl ?_
      refine x_istore_n (E_X10_room_0 16 rfl) rfl ?_
      refine x_aload_n (E_X10_room_0 17 rfl) rfl ?_
      refine x_getR (E_X10_room_0 18 rfl) fl_X10_86 rfl (by decide) rfl ?_
      refine x_iload_n (E_X10_room_0 19 rfl) rfl ?_
      refine x_iload_n (E_X10_room_0 20 rfl) rfl ?_
      refine x_iast (E_X10_room_0 21 rfl) rfl (by decide) (by omega) ?_
      refine x_iload_n (E_X10_room_0 22 rfl) rfl ?_
      refine z_iret (E_X10_room_0 23 rfl) trivial ?_
      exact ⟨(if_n (by omega) (if_n (by omega) rfl)).symm, (if_pos (by omega)).symm⟩
    · refine x_if_ne (E_X10_room_0 9 rfl) (by decide) (fun c9 => absurd c9 (by decide)) (fun _ => ?_)
      refine x_sipush (z := (-1002)) (E_X10_room_0 10 rfl) (by decide) ?_
      refine z_iret (E_X10_room_0 11 rfl) trivial ?_
      exact ⟨(if_n (by omega) (if_p (by omega) rfl)).symm, (if_neg (by omega)).symm⟩
  · refine x_if_ne (E_X10_room_0 2 rfl) (by decide) (fun c9 => absurd c9 (by decide)) (fun _ => ?_)
    refine x_sipush (z := (-1001)) (E_X10_room_0 3 rfl) (by decide) ?_
    refine z_iret (E_X10_room_0 4 rfl) trivial ?_
    exact ⟨(if_p (by omega) rfl).symm, (if_neg (by omega)).symm⟩

theorem c_X11_room {f v : Int} (hf : rgi f) (hv : rgi v)  : CI l G M_X11_room 2 [vr 114, vi f, vi v] σ (fun z τ => z = (if ¬ (0 ≤ f ∧ f ≤ 5) then -1001 else if ¬ (0 ≤ v ∧ v ≤ 999) then -1002 else σ 121 f) ∧ τ = if (0 ≤ f ∧ f ≤ 5) ∧ 0 ≤ v ∧ v ≤ 999 then upq σ 121 f v else σ) := by
  refine Ct.of rfl (Nat.le_of_ble_eq_true rfl) ?_
  refine x_iload_n (E_X11_room_0 0 rfl) rfl ?_
  refine z_callSi (E_X11_room_0 1 rfl) ml_X11_217 ms_X11_isFloor (c_X11_isFloor (by omega)) (by decide) rfl rfl (by decide) (fun z9 τ9 h9 => ?_)
  obtain ⟨rfl, ⟨rfl, c1⟩ | ⟨rfl, c1⟩⟩ := h9
  · refine x_if_ne (E_X11_room_0 2 rfl) (by decide) (fun _ => ?_) (fun c9 => absurd c9 (by decide))
    refine x_iload_n (E_X11_room_0 5 rfl) rfl ?_
    refine x_i2l (E_X11_room_0 6 rfl) (by omega) ?_
    refine x_lconst (z := 0) (E_X11_room_0 7 rfl) rfl ?_
    refine x_ldc2 (z := 999) (E_X11_room_0 8 rfl) kc_X11_211 (by decide) ?_
    refine z_callSi (E_X11_room_0 9 rfl) ml_X11_197 ms_X11_in (c_X11_in (by omega) (by omega) (by omega)) (by decide) rfl rfl (by decide) (fun z9 τ9 h9 => ?_)
    obtain ⟨rfl, ⟨rfl, c2⟩ | ⟨rfl, c2⟩⟩ := h9
    · refine x_if_ne (E_X11_room_0 10 rfl) (by decide) (fun _ => ?_) (fun c9 => absurd c9 (by decide))
      refine x_aload_n (E_X11_room_0 13 rfl) rfl ?_
      refine x_getR (E_X11_room_0 14 rfl) fl_X11_28 rfl (by decide) rfl ?_
      refine x_iload_n (E_X11_room_0 15 rfl) rfl ?_
      refine x_ialde (f := σ 121) (E_X11_room_0 16 rfl) rfl (by decide) (by omega) rfl ?_
      refine x_istore_n (E_X11_room_0 17 rfl) rfl ?_
      refine x_aload_n (E_X11_room_0 18 rfl) rfl ?_
      refine x_getR (E_X11_room_0 19 rfl) fl_X11_28 rfl (by decide) rfl ?_
      refine x_iload_n (E_X11_room_0 20 rfl) rfl ?_
      refine x_iload_n (E_X11_room_0 21 rfl) rfl ?_
      refine x_iast (E_X11_room_0 22 rfl) rfl (by decide) (by omega) ?_
      refine x_iload_n (E_X11_room_0 23 rfl) rfl ?_
      refine z_iret (E_X11_room_0 24 rfl) trivial ?_
      exact ⟨(if_n (by omega) (if_n (by omega) rfl)).symm, (if_pos (by omega)).symm⟩
    · refine x_if_ne (E_X11_room_0 10 rfl) (by decide) (fun c9 => absurd c9 (by decide)) (fun _ => ?_)
      refine x_sipush (z := (-1002)) (E_X11_room_0 11 rfl) (by decide) ?_
      refine z_iret (E_X11_room_0 12 rfl) trivial ?_
      exact ⟨(if_n (by omega) (if_p (by omega) rfl)).symm, (if_neg (by omega)).symm⟩
  · refine x_if_ne (E_X11_room_0 2 rfl) (by decide) (fun c9 => absurd c9 (by decide)) (fun _ => ?_)
    refine x_sipush (z := (-1001)) (E_X11_room_0 3 rfl) (by decide) ?_
    refine z_iret (E_X11_room_0 4 rfl) trivial ?_
    exact ⟨(if_p (by omega) rfl).symm, (if_neg (by omega)).symm⟩

theorem c_X10_move {i f : Int} (hi : rgi i) (hf : rgi f) (h0 : 0 ≤ σ 1 5 ∧ σ 1 5 ≤ 12) (hfl : ∀ i, 0 ≤ i → i < σ 1 5 → 0 ≤ σ 5 i ∧ σ 5 i ≤ 5) : CI l G M_X10_move 2 [vr 0, vi i, vi f] σ (fun z τ => z = (if ¬ ((0 ≤ i ∧ i < σ 1 5) ∧ 0 ≤ f ∧ f ≤ 5) then -1001 else if σ 5 i = f then -1003 else σ 5 i) ∧ τ = if ((0 ≤ i ∧ i < σ 1 5) ∧ 0 ≤ f ∧ f ≤ 5) ∧ σ 5 i ≠ f then upq σ 5 i f else σ) := by
  refine Ct.of rfl (Nat.le_of_ble_eq_true rfl) ?_
  refine x_aload_n (E_X10_move_0 0 rfl) rfl ?_
  refine x_getR (E_X10_move_0 1 rfl) fl_X10_16 rfl (by decide) rfl ?_
  refine x_iload_n (E_X10_move_0 2 rfl) rfl ?_
  refine z_callVi (E_X10_move_0 3 rfl) ml_X10_121 mv_X3_has rfl (by decide) (by decide) (c_X3_has (by omega) (by omega)) (by decide) rfl rfl (by decide) (fun z9 τ9 h9 => ?_)
  obtain ⟨rfl, ⟨rfl, c1⟩ | ⟨rfl, c1⟩⟩ := h9
  · refine x_if_eq (E_X10_move_0 4 rfl) (by decide) (fun c9 => absurd c9 (by decide)) (fun _ => ?_)
    refine x_iload_n (E_X10_move_0 5 rfl) rfl ?_
    refine z_callSi (E_X10_move_0 6 rfl) ml_X10_108 ms_X10_isFloor (c_X10_isFloor (by omega)) (by decide) rfl rfl (by decide) (fun z9 τ9 h9 => ?_)
    obtain ⟨rfl, ⟨rfl, c2⟩ | ⟨rfl, c2⟩⟩ := h9
    · refine x_if_ne (E_X10_move_0 7 rfl) (by decide) (fun _ => ?_) (fun c9 => absurd c9 (by decide))
      refine x_aload_n (E_X10_move_0 10 rfl) rfl ?_
      refine x_getR (E_X10_move_0 11 rfl) fl_X10_16 rfl (by decide) rfl ?_
      refine x_getR (E_X10_move_0 12 rfl) fl_X10_124 rfl (by decide) rfl ?_
      refine x_iload_n (E_X10_move_0 13 rfl) rfl ?_
      refine x_ialde (f := σ 5) (E_X10_move_0 14 rfl) rfl (by decide) (by omega) rfl ?_
      refine x_istore_n (E_X10_move_0 15 rfl) rfl ?_
      have hx9 := hfl i (by omega) (by omega)
      refine x_iload_n (E_X10_move_0 16 rfl) rfl ?_
      refine x_iload_n (E_X10_move_0 17 rfl) rfl ?_
      refine x_icmp_ne (E_X10_move_0 18 rfl) (by omega) (by omega) (fun c3 => ?_) (fun c3 => ?_)
      · refine x_aload_n (E_X10_move_0 21 rfl) rfl ?_
        refine x_getR (E_X10_move_0 22 rfl) fl_X10_16 rfl (by decide) rfl ?_
        refine x_getR (E_X10_move_0 23 rfl) fl_X10_124 rfl (by decide) rfl ?_
        refine x_iload_n (E_X10_move_0 24 rfl) rfl ?_
        refine x_iload_n (E_X10_move_0 25 rfl) rfl ?_
        refine x_iast (E_X10_move_0 26 rfl) rfl (by decide) (by omega) ?_
        refine x_iload_n (E_X10_move_0 27 rfl) rfl ?_
        refine z_iret (E_X10_move_0 28 rfl) trivial ?_
        exact ⟨(if_n (by omega) (if_n (by omega) rfl)).symm, (if_pos (by omega)).symm⟩
      · refine x_sipush (z := (-1003)) (E_X10_move_0 19 rfl) (by decide) ?_
        refine z_iret (E_X10_move_0 20 rfl) trivial ?_
        exact ⟨(if_n (by omega) (if_p (by omega) rfl)).symm, (if_neg (by omega)).symm⟩
    · refine x_if_ne (E_X10_move_0 7 rfl) (by decide) (fun c9 => absurd c9 (by decide)) (fun _ => ?_)
      refine x_sipush (z := (-1001)) (E_X10_move_0 8 rfl) (by decide) ?_
      refine z_iret (E_X10_move_0 9 rfl) trivial ?_
      exact ⟨(if_p (by omega) rfl).symm, (if_neg (by omega)).symm⟩
  · refine x_if_eq (E_X10_move_0 4 rfl) (by decide) (fun _ => ?_) (fun c9 => absurd (by decide) c9)
    refine x_sipush (z := (-1001)) (E_X10_move_0 8 rfl) (by decide) ?_
    refine z_iret (E_X10_move_0 9 rfl) trivial ?_
    exact ⟨(if_p (by omega) rfl).symm, (if_neg (by omega)).symm⟩

theorem c_X11_move {i f : Int} (hi : rgi i) (hf : rgi f) (h0 : 0 ≤ σ 114 1 ∧ σ 114 1 ≤ 12) (hfl : ∀ i, 0 ≤ i → i < σ 114 1 → 0 ≤ σ 119 i ∧ σ 119 i ≤ 5) : CI l G M_X11_move 2 [vr 114, vi i, vi f] σ (fun z τ => z = (if ¬ ((0 ≤ i ∧ i < σ 114 1) ∧ 0 ≤ f ∧ f ≤ 5) then -1001 else if σ 119 i = f then -1003 else σ 119 i) ∧ τ = if ((0 ≤ i ∧ i < σ 114 1) ∧ 0 ≤ f ∧ f ≤ 5) ∧ σ 119 i ≠ f then upq σ 119 i f else σ) := by
  refine Ct.of rfl (Nat.le_of_ble_eq_true rfl) ?_
  refine x_aload_n (E_X11_move_0 0 rfl) rfl ?_
  refine x_iload_n (E_X11_move_0 1 rfl) rfl ?_
  refine z_callVi (E_X11_move_0 2 rfl) ml_X11_224 mv_X11_noLot rfl (by decide) (by decide) (c_X11_noLot (by omega) (by omega)) (by decide) rfl rfl (by decide) (fun z9 τ9 h9 => ?_)
  obtain ⟨rfl, ⟨rfl, c1⟩ | ⟨rfl, c1⟩⟩ := h9
  · refine x_if_ne (E_X11_move_0 3 rfl) (by decide) (fun _ => ?_) (fun c9 => absurd c9 (by decide))
    refine x_sipush (z := (-1001)) (E_X11_move_0 7 rfl) (by decide) ?_
    refine z_iret (E_X11_move_0 8 rfl) trivial ?_
    exact ⟨(if_p (by omega) rfl).symm, (if_neg (by omega)).symm⟩
  · refine x_if_ne (E_X11_move_0 3 rfl) (by decide) (fun c9 => absurd c9 (by decide)) (fun _ => ?_)
    refine x_iload_n (E_X11_move_0 4 rfl) rfl ?_
    refine z_callSi (E_X11_move_0 5 rfl) ml_X11_217 ms_X11_isFloor (c_X11_isFloor (by omega)) (by decide) rfl rfl (by decide) (fun z9 τ9 h9 => ?_)
    obtain ⟨rfl, ⟨rfl, c2⟩ | ⟨rfl, c2⟩⟩ := h9
    · refine x_if_ne (E_X11_move_0 6 rfl) (by decide) (fun _ => ?_) (fun c9 => absurd c9 (by decide))
      refine x_aload_n (E_X11_move_0 9 rfl) rfl ?_
      refine x_getR (E_X11_move_0 10 rfl) fl_X11_22 rfl (by decide) rfl ?_
      refine x_iload_n (E_X11_move_0 11 rfl) rfl ?_
      refine x_ialde (f := σ 119) (E_X11_move_0 12 rfl) rfl (by decide) (by omega) rfl ?_
      have hx9 := hfl i (by omega) (by omega)
      refine x_iload_n (E_X11_move_0 13 rfl) rfl ?_
      refine x_icmp_ne (E_X11_move_0 14 rfl) (by omega) (by omega) (fun c3 => ?_) (fun c3 => ?_)
      · refine x_aload_n (E_X11_move_0 17 rfl) rfl ?_
        refine x_getR (E_X11_move_0 18 rfl) fl_X11_22 rfl (by decide) rfl ?_
        refine x_iload_n (E_X11_move_0 19 rfl) rfl ?_
        refine x_ialde (f := σ 119) (E_X11_move_0 20 rfl) rfl (by decide) (by omega) rfl ?_
        refine x_istore_n (E_X11_move_0 21 rfl) rfl ?_
        refine x_aload_n (E_X11_move_0 22 rfl) rfl ?_
        refine x_getR (E_X11_move_0 23 rfl) fl_X11_22 rfl (by decide) rfl ?_
        refine x_iload_n (E_X11_move_0 24 rfl) rfl ?_
        refine x_iload_n (E_X11_move_0 25 rfl) rfl ?_
        refine x_iast (E_X11_move_0 26 rfl) rfl (by decide) (by omega) ?_
        refine x_iload_n (E_X11_move_0 27 rfl) rfl ?_
        refine z_iret (E_X11_move_0 28 rfl) trivial ?_
        exact ⟨(if_n (by omega) (if_n (by omega) rfl)).symm, (if_pos (by omega)).symm⟩
      · refine x_sipush (z := (-1003)) (E_X11_move_0 15 rfl) (by decide) ?_
        refine z_iret (E_X11_move_0 16 rfl) trivial ?_
        exact ⟨(if_n (by omega) (if_p (by omega) rfl)).symm, (if_neg (by omega)).symm⟩
    · refine x_if_ne (E_X11_move_0 6 rfl) (by decide) (fun c9 => absurd c9 (by decide)) (fun _ => ?_)
      refine x_sipush (z := (-1001)) (E_X11_move_0 7 rfl) (by decide) ?_
      refine z_iret (E_X11_move_0 8 rfl) trivial ?_
      exact ⟨(if_p (by omega) rfl).symm, (if_neg (by omega)).symm⟩

theorem c_X10_fault  : CI l G M_X10_fault 0 [vr 0] σ (fun z τ => z = (σ 41 6) ∧ τ = if True then σ else σ) := by
  refine Ct.of rfl (Nat.le_of_ble_eq_true rfl) ?_
  refine x_aload_n (E_X10_fault_0 0 rfl) rfl ?_
  refine x_getR (E_X10_fault_0 1 rfl) fl_X10_37 rfl (by decide) rfl ?_
  refine x_getIe (v := σ 41 6) (E_X10_fault_0 2 rfl) fl_X10_219 rfl (by decide) rfl ?_
  refine z_iret (E_X10_fault_0 3 rfl) trivial ?_
  exact ⟨rfl, (if_pos trivial).symm⟩

theorem c_X11_fault  : CI l G M_X11_fault 0 [vr 114] σ (fun z τ => z = (σ 114 32) ∧ τ = if True then σ else σ) := by
  refine Ct.of rfl (Nat.le_of_ble_eq_true rfl) ?_
  refine x_aload_n (E_X11_fault_0 0 rfl) rfl ?_
  refine x_getIe (v := σ 114 32) (E_X11_fault_0 1 rfl) fl_X11_83 rfl (by decide) rfl ?_
  refine z_iret (E_X11_fault_0 2 rfl) trivial ?_
  exact ⟨rfl, (if_pos trivial).symm⟩

theorem c_X10_weigh {i n w : Int} (hi : rgi i) (hn : rgi n) (hw : rgi w) (h0 : 0 ≤ σ 1 5 ∧ σ 1 5 ≤ 12) (h1 : 0 ≤ σ 74 4 ∧ σ 74 4 ≤ 40) : CI l G M_X10_weigh 1 [vr 0, vi i, vi n, vi w] σ (fun z τ => z = (if ¬ (0 ≤ i ∧ i < σ 1 5) then -1001 else if ¬ ((1 ≤ n ∧ n ≤ 200) ∧ 0 ≤ w ∧ w ≤ 199999) then -1002 else if 40 ≤ σ 74 4 then -1004 else σ 74 4 + 1) ∧ τ = if (0 ≤ i ∧ i < σ 1 5) ∧ ((1 ≤ n ∧ n ≤ 200) ∧ 0 ≤ w ∧ w ≤ 199999) ∧ σ 74 4 < 40 then upq (upq (upq (upq (upq σ 75 (σ 74 4) i) 76 (σ 74 4) n) 77 (σ 74 4) w) 78 (σ 74 4) (σ 0 0)) 74 4 (σ 74 4 + 1) else σ) := by
  refine Ct.of rfl (Nat.le_of_ble_eq_true rfl) ?_
  refine x_aload_n (E_X10_weigh_0 0 rfl) rfl ?_
  refine x_getR (E_X10_weigh_0 1 rfl) fl_X10_16 rfl (by decide) rfl ?_
  refine x_iload_n (E_X10_weigh_0 2 rfl) rfl ?_
  refine z_callVi (E_X10_weigh_0 3 rfl) ml_X10_121 mv_X3_has rfl (by decide) (by decide) (c_X3_has (by omega) (by omega)) (by decide) rfl rfl (by decide) (fun z9 τ9 h9 => ?_)
  obtain ⟨rfl, ⟨rfl, c1⟩ | ⟨rfl, c1⟩⟩ := h9
  · refine x_if_ne (E_X10_weigh_0 4 rfl) (by decide) (fun _ => ?_) (fun c9 => absurd c9 (by decide))
    refine x_iload_n (E_X10_weigh_0 7 rfl) rfl ?_
    refine x_iconst (E_X10_weigh_0 8 rfl) ?_
    refine x_sipush (z := 200) (E_X10_weigh_0 9 rfl) (by decide) ?_
    refine z_callSi (E_X10_weigh_0 10 rfl) ml_X10_100 ms_X10_within (c_X10_within (by omega) (by omega) (by omega)) (by decide) rfl rfl (by decide) (fun z9 τ9 h9 => ?_)
    obtain ⟨rfl, ⟨rfl, c2⟩ | ⟨rfl, c2⟩⟩ := h9
    · refine x_if_eq (E_X10_weigh_0 11 rfl) (by decide) (fun c9 => absurd c9 (by decide)) (fun _ => ?_)
      refine x_iload_n (E_X10_weigh_0 12 rfl) rfl ?_
      refine x_iconst (E_X10_weigh_0 13 rfl) ?_
      refine x_ldcw (z := 199999) (E_X10_weigh_0 14 rfl) kc_X10_303 (by decide) ?_
      refine z_callSi (E_X10_weigh_0 15 rfl) ml_X10_100 ms_X10_within (c_X10_within (by omega) (by omega) (by omega)) (by decide) rfl rfl (by decide) (fun z9 τ9 h9 => ?_)
      obtain ⟨rfl, ⟨rfl, c3⟩ | ⟨rfl, c3⟩⟩ := h9
      · refine x_if_ne (E_X10_weigh_0 16 rfl) (by decide) (fun _ => ?_) (fun c9 => absurd c9 (by decide))
        refine x_aload_n (E_X10_weigh_0 19 rfl) rfl ?_
        refine x_getR (E_X10_weigh_0 20 rfl) fl_X10_63 rfl (by decide) rfl ?_
        refine x_getIe (v := σ 74 4) (E_X10_weigh_0 21 rfl) fl_X10_204 rfl (by decide) rfl ?_
        refine x_bipush (z := 40) (E_X10_weigh_0 22 rfl) (by decide) ?_
        refine x_icmp_lt (E_X10_weigh_0 23 rfl) (by omega) (by decide) (fun c4 => ?_) (fun c4 => ?_)
        · refine x_aload_n (E_X10_weigh_0 26 rfl) rfl ?_
          refine x_getR (E_X10_weigh_0 27 rfl) fl_X10_63 rfl (by decide) rfl ?_
          refine x_iload_n (E_X10_weigh_0 28 rfl) rfl ?_
          refine x_iload_n (E_X10_weigh_0 29 rfl) rfl ?_
          refine x_iload_n (E_X10_weigh_0 30 rfl) rfl ?_
          refine x_aload_n (E_X10_weigh_0 31 rfl) rfl ?_
          refine x_getIe (v := σ 0 0) (E_X10_weigh_0 32 rfl) fl_X10_7 rfl (by decide) rfl ?_
          refine z_callVi (E_X10_weigh_0 33 rfl) ml_X10_304 mv_X9_add rfl (by decide) (by decide) (c_X9_add (by omega)) (by decide) rfl rfl (by decide) (fun z9 τ9 h9 => ?_)
          obtain ⟨rfl, rfl⟩ := h9
          refine z_iret (E_X10_weigh_0 34 rfl) trivial ?_
          exact ⟨(if_n (by omega) (if_n (by omega) (if_n (by omega) rfl))).symm, (if_pos (by omega)).symm⟩
        · refine x_sipush (z := (-1004)) (E_X10_weigh_0 24 rfl) (by decide) ?_
          refine z_iret (E_X10_weigh_0 25 rfl) trivial ?_
          exact ⟨(if_n (by omega) (if_n (by omega) (if_p (by omega) rfl))).symm, (if_neg (by omega)).symm⟩
      · refine x_if_ne (E_X10_weigh_0 16 rfl) (by decide) (fun c9 => absurd c9 (by decide)) (fun _ => ?_)
        refine x_sipush (z := (-1002)) (E_X10_weigh_0 17 rfl) (by decide) ?_
        refine z_iret (E_X10_weigh_0 18 rfl) trivial ?_
        exact ⟨(if_n (by omega) (if_p (by omega) rfl)).symm, (if_neg (by omega)).symm⟩
    · refine x_if_eq (E_X10_weigh_0 11 rfl) (by decide) (fun _ => ?_) (fun c9 => absurd (by decide) c9)
      refine x_sipush (z := (-1002)) (E_X10_weigh_0 17 rfl) (by decide) ?_
      refine z_iret (E_X10_weigh_0 18 rfl) trivial ?_
      exact ⟨(if_n (by omega) (if_p (by omega) rfl)).symm, (if_neg (by omega)).symm⟩
  · refine x_if_ne (E_X10_weigh_0 4 rfl) (by decide) (fun c9 => absurd c9 (by decide)) (fun _ => ?_)
    refine x_sipush (z := (-1001)) (E_X10_weigh_0 5 rfl) (by decide) ?_
    refine z_iret (E_X10_weigh_0 6 rfl) trivial ?_
    exact ⟨(if_p (by omega) rfl).symm, (if_neg (by omega)).symm⟩

theorem c_X11_weigh {i n w : Int} (hi : rgi i) (hn : rgi n) (hw : rgi w) (h0 : 0 ≤ σ 114 1 ∧ σ 114 1 ≤ 12) (h1 : 0 ≤ σ 114 54 ∧ σ 114 54 ≤ 40) : CI l G M_X11_weigh 2 [vr 114, vi i, vi n, vi w] σ (fun z τ => z = (if ¬ (0 ≤ i ∧ i < σ 114 1) then -1001 else if ¬ ((1 ≤ n ∧ n ≤ 200) ∧ 0 ≤ w ∧ w ≤ 199999) then -1002 else if 40 ≤ σ 114 54 then -1004 else σ 114 54 + 1) ∧ τ = if (0 ≤ i ∧ i < σ 114 1) ∧ ((1 ≤ n ∧ n ≤ 200) ∧ 0 ≤ w ∧ w ≤ 199999) ∧ σ 114 54 < 40 then upq (upq (upq (upq (upq σ 155 (σ 114 54) i) 156 (σ 114 54) n) 157 (σ 114 54) w) 158 (σ 114 54) (σ 114 0)) 114 54 (σ 114 54 + 1) else σ) := by
  refine Ct.of rfl (Nat.le_of_ble_eq_true rfl) ?_
  refine x_aload_n (E_X11_weigh_0 0 rfl) rfl ?_
  refine x_iload_n (E_X11_weigh_0 1 rfl) rfl ?_
  refine z_callVi (E_X11_weigh_0 2 rfl) ml_X11_224 mv_X11_noLot rfl (by decide) (by decide) (c_X11_noLot (by omega) (by omega)) (by decide) rfl rfl (by decide) (fun z9 τ9 h9 => ?_)
  obtain ⟨rfl, ⟨rfl, c1⟩ | ⟨rfl, c1⟩⟩ := h9
  · refine x_if_eq (E_X11_weigh_0 3 rfl) (by decide) (fun c9 => absurd c9 (by decide)) (fun _ => ?_)
    refine x_sipush (z := (-1001)) (E_X11_weigh_0 4 rfl) (by decide) ?_
    refine z_iret (E_X11_weigh_0 5 rfl) trivial ?_
    exact ⟨(if_p (by omega) rfl).symm, (if_neg (by omega)).symm⟩
  · refine x_if_eq (E_X11_weigh_0 3 rfl) (by decide) (fun _ => ?_) (fun c9 => absurd (by decide) c9)
    refine x_iload_n (E_X11_weigh_0 6 rfl) rfl ?_
    refine x_i2l (E_X11_weigh_0 7 rfl) (by omega) ?_
    refine x_lconst (z := 1) (E_X11_weigh_0 8 rfl) rfl ?_
    refine x_ldc2 (z := 200) (E_X11_weigh_0 9 rfl) kc_X11_222 (by decide) ?_
    refine z_callSi (E_X11_weigh_0 10 rfl) ml_X11_197 ms_X11_in (c_X11_in (by omega) (by omega) (by omega)) (by decide) rfl rfl (by decide) (fun z9 τ9 h9 => ?_)
    obtain ⟨rfl, ⟨rfl, c2⟩ | ⟨rfl, c2⟩⟩ := h9
    · refine x_if_eq (E_X11_weigh_0 11 rfl) (by decide) (fun c9 => absurd c9 (by decide)) (fun _ => ?_)
      refine x_iload_n (E_X11_weigh_0 12 rfl) rfl ?_
      refine x_i2l (E_X11_weigh_0 13 rfl) (by omega) ?_
      refine x_lconst (z := 0) (E_X11_weigh_0 14 rfl) rfl ?_
      refine x_ldc2 (z := 199999) (E_X11_weigh_0 15 rfl) kc_X11_419 (by decide) ?_
      refine z_callSi (E_X11_weigh_0 16 rfl) ml_X11_197 ms_X11_in (c_X11_in (by omega) (by omega) (by omega)) (by decide) rfl rfl (by decide) (fun z9 τ9 h9 => ?_)
      obtain ⟨rfl, ⟨rfl, c3⟩ | ⟨rfl, c3⟩⟩ := h9
      · refine x_if_ne (E_X11_weigh_0 17 rfl) (by decide) (fun _ => ?_) (fun c9 => absurd c9 (by decide))
        refine x_aload_n (E_X11_weigh_0 20 rfl) rfl ?_
        refine x_getIe (v := σ 114 54) (E_X11_weigh_0 21 rfl) fl_X11_393 rfl (by decide) rfl ?_
        refine x_bipush (z := 40) (E_X11_weigh_0 22 rfl) (by decide) ?_
        refine x_icmp_ne (E_X11_weigh_0 23 rfl) (by omega) (by decide) (fun c4 => ?_) (fun c4 => ?_)
        · refine x_aload_n (E_X11_weigh_0 26 rfl) rfl ?_
          refine x_getR (E_X11_weigh_0 27 rfl) fl_X11_135 rfl (by decide) rfl ?_
          refine x_aload_n (E_X11_weigh_0 28 rfl) rfl ?_
          refine x_getIe (v := σ 114 54) (E_X11_weigh_0 29 rfl) fl_X11_393 rfl (by decide) rfl ?_
          refine x_iload_n (E_X11_weigh_0 30 rfl) rfl ?_
          refine x_iast (E_X11_weigh_0 31 rfl) rfl (by decide) (by omega) ?_
          refine x_aload_n (E_X11_weigh_0 32 rfl) rfl ?_
          refine x_getR (E_X11_weigh_0 33 rfl) fl_X11_138 rfl (by decide) rfl ?_
          refine x_aload_n (E_X11_weigh_0 34 rfl) rfl ?_
          refine x_getIe (v := σ 114 54) (E_X11_weigh_0 35 rfl) fl_X11_393 rfl (by decide) rfl ?_
          refine x_iload_n (E_X11_weigh_0 36 rfl) rfl ?_
          refine x_iast (E_X11_weigh_0 37 rfl) rfl (by decide) (by omega) ?_
          refine x_aload_n (E_X11_weigh_0 38 rfl) rfl ?_
          refine x_getR (E_X11_weigh_0 39 rfl) fl_X11_141 rfl (by decide) rfl ?_
          refine x_aload_n (E_X11_weigh_0 40 rfl) rfl ?_
          refine x_getIe (v := σ 114 54) (E_X11_weigh_0 41 rfl) fl_X11_393 rfl (by decide) rfl ?_
          refine x_iload_n (E_X11_weigh_0 42 rfl) rfl ?_
          refine x_iast (E_X11_weigh_0 43 rfl) rfl (by decide) (by omega) ?_
          refine x_aload_n (E_X11_weigh_0 44 rfl) rfl ?_
          refine x_getR (E_X11_weigh_0 45 rfl) fl_X11_144 rfl (by decide) rfl ?_
          refine x_aload_n (E_X11_weigh_0 46 rfl) rfl ?_
          refine x_getIe (v := σ 114 54) (E_X11_weigh_0 47 rfl) fl_X11_393 rfl (by decide) rfl ?_
          refine x_aload_n (E_X11_weigh_0 48 rfl) rfl ?_
          refine x_getIe (v := σ 114 0) (E_X11_weigh_0 49 rfl) fl_X11_205 rfl (by decide) rfl ?_
          refine x_iast (E_X11_weigh_0 50 rfl) rfl (by decide) (by omega) ?_
          refine x_aload_n (E_X11_weigh_0 51 rfl) rfl ?_
          refine x_dupr (E_X11_weigh_0 52 rfl) ?_
          refine x_getIe (v := σ 114 54) (E_X11_weigh_0 53 rfl) fl_X11_393 rfl (by decide) rfl ?_
          refine x_iconst (E_X11_weigh_0 54 rfl) ?_
          refine x_iadd (E_X11_weigh_0 55 rfl) ?_
          refine x_putI (E_X11_weigh_0 56 rfl) fl_X11_393 rfl (by decide) ?_
          refine x_aload_n (E_X11_weigh_0 57 rfl) rfl ?_
          refine x_getI (E_X11_weigh_0 58 rfl) fl_X11_393 rfl (by decide) ?_
          refine z_iret (E_X11_weigh_0 59 rfl) trivial ?_
          refine ⟨?_, (if_pos (by omega)).symm⟩
          show σ 114 54 + 1 = _
          exact (if_n (by omega) (if_n (by omega) (if_n (by omega) rfl))).symm
        · refine x_sipush (z := (-1004)) (E_X11_weigh_0 24 rfl) (by decide) ?_
          refine z_iret (E_X11_weigh_0 25 rfl) trivial ?_
          exact ⟨(if_n (by omega) (if_n (by omega) (if_p (by omega) rfl))).symm, (if_neg (by omega)).symm⟩
      · refine x_if_ne (E_X11_weigh_0 17 rfl) (by decide) (fun c9 => absurd c9 (by decide)) (fun _ => ?_)
        refine x_sipush (z := (-1002)) (E_X11_weigh_0 18 rfl) (by decide) ?_
        refine z_iret (E_X11_weigh_0 19 rfl) trivial ?_
        exact ⟨(if_n (by omega) (if_p (by omega) rfl)).symm, (if_neg (by omega)).symm⟩
    · refine x_if_eq (E_X11_weigh_0 11 rfl) (by decide) (fun _ => ?_) (fun c9 => absurd (by decide) c9)
      refine x_sipush (z := (-1002)) (E_X11_weigh_0 18 rfl) (by decide) ?_
      refine z_iret (E_X11_weigh_0 19 rfl) trivial ?_
      exact ⟨(if_n (by omega) (if_p (by omega) rfl)).symm, (if_neg (by omega)).symm⟩

theorem shp_up {h : Int} (h0 : 0 ≤ h ∧ h ≤ 7) : shp (80 + h.toNat) = (12, 12) ∧ ρ0 79 h = some (80 + h.toNat) := by
  obtain ⟨n, rfl⟩ : ∃ n : Nat, h = n := ⟨h.toNat, by omega⟩
  have : n < 8 := by omega
  match n, this with
  | 0, _ | 1, _ | 2, _ | 3, _ | 4, _ | 5, _ | 6, _ | 7, _ => exact ⟨rfl, rfl⟩
  | n + 8, h => omega

theorem c_X10_unpaid {h i v : Int} (hh : rgi h) (hi : rgi i) (hv : rgi v) (h0 : 0 ≤ σ 1 5 ∧ σ 1 5 ≤ 12) : CI l G M_X10_unpaid 2 [vr 0, vi h, vi i, vi v] σ (fun z τ => z = (if ¬ ((0 ≤ h ∧ h ≤ 7) ∧ 0 ≤ i ∧ i < σ 1 5) then -1001 else if ¬ (0 ≤ v ∧ v ≤ 9999) then -1002 else σ (80 + h.toNat) i) ∧ τ = if ((0 ≤ h ∧ h ≤ 7) ∧ 0 ≤ i ∧ i < σ 1 5) ∧ 0 ≤ v ∧ v ≤ 9999 then upq σ (80 + h.toNat) i v else σ) := by
  refine Ct.of rfl (Nat.le_of_ble_eq_true rfl) ?_
  refine x_iload_n (E_X10_unpaid_0 0 rfl) rfl ?_
  refine z_callSi (E_X10_unpaid_0 1 rfl) ml_X10_104 ms_X10_isHouse (c_X10_isHouse (by omega)) (by decide) rfl rfl (by decide) (fun z9 τ9 h9 => ?_)
  obtain ⟨rfl, ⟨rfl, c1⟩ | ⟨rfl, c1⟩⟩ := h9
  · refine x_if_eq (E_X10_unpaid_0 2 rfl) (by decide) (fun c9 => absurd c9 (by decide)) (fun _ => ?_)
    refine x_aload_n (E_X10_unpaid_0 3 rfl) rfl ?_
    refine x_getR (E_X10_unpaid_0 4 rfl) fl_X10_16 rfl (by decide) rfl ?_
    refine x_iload_n (E_X10_unpaid_0 5 rfl) rfl ?_
    refine z_callVi (E_X10_unpaid_0 6 rfl) ml_X10_121 mv_X3_has rfl (by decide) (by decide) (c_X3_has (by omega) (by omega)) (by decide) rfl rfl (by decide) (fun z9 τ9 h9 => ?_)
    obtain ⟨rfl, ⟨rfl, c2⟩ | ⟨rfl, c2⟩⟩ := h9
    · refine x_if_ne (E_X10_unpaid_0 7 rfl) (by decide) (fun _ => ?_) (fun c9 => absurd c9 (by decide))
      refine x_iload_n (E_X10_unpaid_0 10 rfl) rfl ?_
      refine x_iconst (E_X10_unpaid_0 11 rfl) ?_
      refine x_sipush (z := 9999) (E_X10_unpaid_0 12 rfl) (by decide) ?_
      refine z_callSi (E_X10_unpaid_0 13 rfl) ml_X10_100 ms_X10_within (c_X10_within (by omega) (by omega) (by omega)) (by decide) rfl rfl (by decide) (fun z9 τ9 h9 => ?_)
      obtain ⟨rfl, ⟨rfl, c3⟩ | ⟨rfl, c3⟩⟩ := h9
      · refine x_if_ne (E_X10_unpaid_0 14 rfl) (by decide) (fun _ => ?_) (fun c9 => absurd c9 (by decide))
        refine x_aload_n (E_X10_unpaid_0 17 rfl) rfl ?_
        refine x_getR (E_X10_unpaid_0 18 rfl) fl_X10_69 rfl (by decide) rfl ?_
        refine x_iload_n (E_X10_unpaid_0 19 rfl) rfl ?_
        refine x_aald (E_X10_unpaid_0 20 rfl) rfl (by decide) (by omega) (shp_up (by omega)).2 ?_
        refine x_iload_n (E_X10_unpaid_0 21 rfl) rfl ?_
        refine x_iald (E_X10_unpaid_0 22 rfl) (shp_up (by omega)).1 (by omega) (by omega) ?_
        refine x_istore (E_X10_unpaid_0 23 rfl) rfl ?_
        refine x_aload_n (E_X10_unpaid_0 24 rfl) rfl ?_
        refine x_getR (E_X10_unpaid_0 25 rfl) fl_X10_69 rfl (by decide) rfl ?_
        refine x_iload_n (E_X10_unpaid_0 26 rfl) rfl ?_
        refine x_aald (E_X10_unpaid_0 27 rfl) rfl (by decide) (by omega) (shp_up (by omega)).2 ?_
        refine x_iload_n (E_X10_unpaid_0 28 rfl) rfl ?_
        refine x_iload_n (E_X10_unpaid_0 29 rfl) rfl ?_
        refine x_iast (E_X10_unpaid_0 30 rfl) (shp_up (by omega)).1 (by omega) (by omega) ?_
        refine x_iload (E_X10_unpaid_0 31 rfl) rfl ?_
        refine z_iret (E_X10_unpaid_0 32 rfl) trivial ?_
        exact ⟨(if_n (by omega) (if_n (by omega) rfl)).symm, (if_pos (by omega)).symm⟩
      · refine x_if_ne (E_X10_unpaid_0 14 rfl) (by decide) (fun c9 => absurd c9 (by decide)) (fun _ => ?_)
        refine x_sipush (z := (-1002)) (E_X10_unpaid_0 15 rfl) (by decide) ?_
        refine z_iret (E_X10_unpaid_0 16 rfl) trivial ?_
        exact ⟨(if_n (by omega) (if_p (by omega) rfl)).symm, (if_neg (by omega)).symm⟩
    · refine x_if_ne (E_X10_unpaid_0 7 rfl) (by decide) (fun c9 => absurd c9 (by decide)) (fun _ => ?_)
      refine x_sipush (z := (-1001)) (E_X10_unpaid_0 8 rfl) (by decide) ?_
      refine z_iret (E_X10_unpaid_0 9 rfl) trivial ?_
      exact ⟨(if_p (by omega) rfl).symm, (if_neg (by omega)).symm⟩
  · refine x_if_eq (E_X10_unpaid_0 2 rfl) (by decide) (fun _ => ?_) (fun c9 => absurd (by decide) c9)
    refine x_sipush (z := (-1001)) (E_X10_unpaid_0 8 rfl) (by decide) ?_
    refine z_iret (E_X10_unpaid_0 9 rfl) trivial ?_
    exact ⟨(if_p (by omega) rfl).symm, (if_neg (by omega)).symm⟩

theorem c_X11_unpaid {h i v : Int} (hh : rgi h) (hi : rgi i) (hv : rgi v) (h0 : 0 ≤ σ 114 1 ∧ σ 114 1 ≤ 12) : CI l G M_X11_unpaid 2 [vr 114, vi h, vi i, vi v] σ (fun z τ => z = (if ¬ ((0 ≤ h ∧ h ≤ 7) ∧ 0 ≤ i ∧ i < σ 114 1) then -1001 else if ¬ (0 ≤ v ∧ v ≤ 9999) then -1002 else σ 159 (8 * i + h)) ∧ τ = if ((0 ≤ h ∧ h ≤ 7) ∧ 0 ≤ i ∧ i < σ 114 1) ∧ 0 ≤ v ∧ v ≤ 9999 then upq σ 159 (8 * i + h) v else σ) := by
  refine Ct.of rfl (Nat.le_of_ble_eq_true rfl) ?_
  refine x_iload_n (E_X11_unpaid_0 0 rfl) rfl ?_
  refine z_callSi (E_X11_unpaid_0 1 rfl) ml_X11_213 ms_X11_isHouse (c_X11_isHouse (by omega)) (by decide) rfl rfl (by decide) (fun z9 τ9 h9 => ?_)
  obtain ⟨rfl, ⟨rfl, c1⟩ | ⟨rfl, c1⟩⟩ := h9
  · refine x_if_eq (E_X11_unpaid_0 2 rfl) (by decide) (fun c9 => absurd c9 (by decide)) (fun _ => ?_)
    refine x_aload_n (E_X11_unpaid_0 3 rfl) rfl ?_
    refine x_iload_n (E_X11_unpaid_0 4 rfl) rfl ?_
    refine z_callVi (E_X11_unpaid_0 5 rfl) ml_X11_224 mv_X11_noLot rfl (by decide) (by decide) (c_X11_noLot (by omega) (by omega)) (by decide) rfl rfl (by decide) (fun z9 τ9 h9 => ?_)
    obtain ⟨rfl, ⟨rfl, c2⟩ | ⟨rfl, c2⟩⟩ := h9
    · refine x_if_eq (E_X11_unpaid_0 6 rfl) (by decide) (fun c9 => absurd c9 (by decide)) (fun _ => ?_)
      refine x_sipush (z := (-1001)) (E_X11_unpaid_0 7 rfl) (by decide) ?_
      refine z_iret (E_X11_unpaid_0 8 rfl) trivial ?_
      exact ⟨(if_p (by omega) rfl).symm, (if_neg (by omega)).symm⟩
    · refine x_if_eq (E_X11_unpaid_0 6 rfl) (by decide) (fun _ => ?_) (fun c9 => absurd (by decide) c9)
      refine x_iload_n (E_X11_unpaid_0 9 rfl) rfl ?_
      refine x_i2l (E_X11_unpaid_0 10 rfl) (by omega) ?_
      refine x_lconst (z := 0) (E_X11_unpaid_0 11 rfl) rfl ?_
      refine x_ldc2 (z := 9999) (E_X11_unpaid_0 12 rfl) kc_X11_425 (by decide) ?_
      refine z_callSi (E_X11_unpaid_0 13 rfl) ml_X11_197 ms_X11_in (c_X11_in (by omega) (by omega) (by omega)) (by decide) rfl rfl (by decide) (fun z9 τ9 h9 => ?_)
      obtain ⟨rfl, ⟨rfl, c3⟩ | ⟨rfl, c3⟩⟩ := h9
      · refine x_if_ne (E_X11_unpaid_0 14 rfl) (by decide) (fun _ => ?_) (fun c9 => absurd c9 (by decide))
        refine x_aload_n (E_X11_unpaid_0 17 rfl) rfl ?_
        refine x_getR (E_X11_unpaid_0 18 rfl) fl_X11_147 rfl (by decide) rfl ?_
        refine x_bipush (z := 8) (E_X11_unpaid_0 19 rfl) (by decide) ?_
        refine x_iload_n (E_X11_unpaid_0 20 rfl) rfl ?_
        refine x_imul (E_X11_unpaid_0 21 rfl) ?_
        refine x_iload_n (E_X11_unpaid_0 22 rfl) rfl ?_
        refine x_iadd (E_X11_unpaid_0 23 rfl) ?_
        refine x_ialde (f := σ 159) (E_X11_unpaid_0 24 rfl) rfl (by decide) (by omega) rfl ?_
        refine x_istore (E_X11_unpaid_0 25 rfl) rfl ?_
        refine x_aload_n (E_X11_unpaid_0 26 rfl) rfl ?_
        refine x_getR (E_X11_unpaid_0 27 rfl) fl_X11_147 rfl (by decide) rfl ?_
        refine x_bipush (z := 8) (E_X11_unpaid_0 28 rfl) (by decide) ?_
        refine x_iload_n (E_X11_unpaid_0 29 rfl) rfl ?_
        refine x_imul (E_X11_unpaid_0 30 rfl) ?_
        refine x_iload_n (E_X11_unpaid_0 31 rfl) rfl ?_
        refine x_iadd (E_X11_unpaid_0 32 rfl) ?_
        refine x_iload_n (E_X11_unpaid_0 33 rfl) rfl ?_
        refine x_iast (E_X11_unpaid_0 34 rfl) rfl (by decide) (by omega) ?_
        refine x_iload (E_X11_unpaid_0 35 rfl) rfl ?_
        refine z_iret (E_X11_unpaid_0 36 rfl) trivial ?_
        exact ⟨(if_n (by omega) (if_n (by omega) rfl)).symm, (if_pos (by omega)).symm⟩
      · refine x_if_ne (E_X11_unpaid_0 14 rfl) (by decide) (fun c9 => absurd c9 (by decide)) (fun _ => ?_)
        refine x_sipush (z := (-1002)) (E_X11_unpaid_0 15 rfl) (by decide) ?_
        refine z_iret (E_X11_unpaid_0 16 rfl) trivial ?_
        exact ⟨(if_n (by omega) (if_p (by omega) rfl)).symm, (if_neg (by omega)).symm⟩
  · refine x_if_eq (E_X11_unpaid_0 2 rfl) (by decide) (fun _ => ?_) (fun c9 => absurd (by decide) c9)
    refine x_sipush (z := (-1001)) (E_X11_unpaid_0 7 rfl) (by decide) ?_
    refine z_iret (E_X11_unpaid_0 8 rfl) trivial ?_
    exact ⟨(if_p (by omega) rfl).symm, (if_neg (by omega)).symm⟩

theorem c_X10_sale {a b so n : Int} (ha : rgi a) (hb : rgi b) (hso : rgi so) (hn : rgi n) (h1 : 0 ≤ σ 88 7 ∧ σ 88 7 ≤ 24) : CI l G M_X10_sale 2 [vr 0, vi a, vi b, vi so, vi n] σ (fun z τ => z = (if ¬ ((0 ≤ a ∧ a ≤ 7) ∧ 0 ≤ b ∧ b ≤ 7) then -1001 else if ¬ (a ≠ b ∧ (0 ≤ so ∧ so ≤ 3) ∧ 1 ≤ n ∧ n ≤ 99) then -1002 else if 24 ≤ σ 88 7 then -1004 else σ 88 7 + 1) ∧ τ = if ((0 ≤ a ∧ a ≤ 7) ∧ 0 ≤ b ∧ b ≤ 7) ∧ (a ≠ b ∧ (0 ≤ so ∧ so ≤ 3) ∧ 1 ≤ n ∧ n ≤ 99) ∧ σ 88 7 < 24 then upq (upq (upq (upq (upq σ 89 (σ 88 7) a) 90 (σ 88 7) b) 91 (σ 88 7) so) 92 (σ 88 7) n) 88 7 (σ 88 7 + 1) else σ) := by
  refine Ct.of rfl (Nat.le_of_ble_eq_true rfl) ?_
  refine x_iload_n (E_X10_sale_0 0 rfl) rfl ?_
  refine z_callSi (E_X10_sale_0 1 rfl) ml_X10_104 ms_X10_isHouse (c_X10_isHouse (by omega)) (by decide) rfl rfl (by decide) (fun z9 τ9 h9 => ?_)
  obtain ⟨rfl, ⟨rfl, c1⟩ | ⟨rfl, c1⟩⟩ := h9
  · refine x_if_eq (E_X10_sale_0 2 rfl) (by decide) (fun c9 => absurd c9 (by decide)) (fun _ => ?_)
    refine x_iload_n (E_X10_sale_0 3 rfl) rfl ?_
    refine z_callSi (E_X10_sale_0 4 rfl) ml_X10_104 ms_X10_isHouse (c_X10_isHouse (by omega)) (by decide) rfl rfl (by decide) (fun z9 τ9 h9 => ?_)
    obtain ⟨rfl, ⟨rfl, c2⟩ | ⟨rfl, c2⟩⟩ := h9
    · refine x_if_ne (E_X10_sale_0 5 rfl) (by decide) (fun _ => ?_) (fun c9 => absurd c9 (by decide))
      refine x_iload_n (E_X10_sale_0 8 rfl) rfl ?_
      refine x_iload_n (E_X10_sale_0 9 rfl) rfl ?_
      refine x_icmp_eq (E_X10_sale_0 10 rfl) (by omega) (by omega) (fun c3 => ?_) (fun c3 => ?_)
      · refine x_sipush (z := (-1002)) (E_X10_sale_0 19 rfl) (by decide) ?_
        refine z_iret (E_X10_sale_0 20 rfl) trivial ?_
        exact ⟨(if_n (by omega) (if_p (by omega) rfl)).symm, (if_neg (by omega)).symm⟩
      · refine x_iload_n (E_X10_sale_0 11 rfl) rfl ?_
        refine z_callSi (E_X10_sale_0 12 rfl) ml_X10_111 ms_X10_isSort (c_X10_isSort (by omega)) (by decide) rfl rfl (by decide) (fun z9 τ9 h9 => ?_)
        obtain ⟨rfl, ⟨rfl, c4⟩ | ⟨rfl, c4⟩⟩ := h9
        · refine x_if_eq (E_X10_sale_0 13 rfl) (by decide) (fun c9 => absurd c9 (by decide)) (fun _ => ?_)
          refine x_iload (E_X10_sale_0 14 rfl) rfl ?_
          refine x_iconst (E_X10_sale_0 15 rfl) ?_
          refine x_bipush (z := 99) (E_X10_sale_0 16 rfl) (by decide) ?_
          refine z_callSi (E_X10_sale_0 17 rfl) ml_X10_100 ms_X10_within (c_X10_within (by omega) (by omega) (by omega)) (by decide) rfl rfl (by decide) (fun z9 τ9 h9 => ?_)
          obtain ⟨rfl, ⟨rfl, c5⟩ | ⟨rfl, c5⟩⟩ := h9
          · refine x_if_ne (E_X10_sale_0 18 rfl) (by decide) (fun _ => ?_) (fun c9 => absurd c9 (by decide))
            refine x_aload_n (E_X10_sale_0 21 rfl) rfl ?_
            refine x_getR (E_X10_sale_0 22 rfl) fl_X10_75 rfl (by decide) rfl ?_
            refine x_getIe (v := σ 88 7) (E_X10_sale_0 23 rfl) fl_X10_199 rfl (by decide) rfl ?_
            refine x_bipush (z := 24) (E_X10_sale_0 24 rfl) (by decide) ?_
            refine x_icmp_lt (E_X10_sale_0 25 rfl) (by omega) (by decide) (fun c6 => ?_) (fun c6 => ?_)
            · refine x_aload_n (E_X10_sale_0 28 rfl) rfl ?_
              refine x_getR (E_X10_sale_0 29 rfl) fl_X10_75 rfl (by decide) rfl ?_
              refine x_iload_n (E_X10_sale_0 30 rfl) rfl ?_
              refine x_iload_n (E_X10_sale_0 31 rfl) rfl ?_
              refine x_iload_n (E_X10_sale_0 32 rfl) rfl ?_
              refine x_iload (E_X10_sale_0 33 rfl) rfl ?_
              refine z_callVi (E_X10_sale_0 34 rfl) ml_X10_327 mv_X6_add rfl (by decide) (by decide) (c_X6_add (by omega)) (by decide) rfl rfl (by decide) (fun z9 τ9 h9 => ?_)
              obtain ⟨rfl, rfl⟩ := h9
              refine z_iret (E_X10_sale_0 35 rfl) trivial ?_
              exact ⟨(if_n (by omega) (if_n (by omega) (if_n (by omega) rfl))).symm, (if_pos (by omega)).symm⟩
            · refine x_sipush (z := (-1004)) (E_X10_sale_0 26 rfl) (by decide) ?_
              refine x_goto (E_X10_sale_0 27 rfl) ?_
              refine z_iret (E_X10_sale_0 35 rfl) trivial ?_
              exact ⟨(if_n (by omega) (if_n (by omega) (if_p (by omega) rfl))).symm, (if_neg (by omega)).symm⟩
          · refine x_if_ne (E_X10_sale_0 18 rfl) (by decide) (fun c9 => absurd c9 (by decide)) (fun _ => ?_)
            refine x_sipush (z := (-1002)) (E_X10_sale_0 19 rfl) (by decide) ?_
            refine z_iret (E_X10_sale_0 20 rfl) trivial ?_
            exact ⟨(if_n (by omega) (if_p (by omega) rfl)).symm, (if_neg (by omega)).symm⟩
        · refine x_if_eq (E_X10_sale_0 13 rfl) (by decide) (fun _ => ?_) (fun c9 => absurd (by decide) c9)
          refine x_sipush (z := (-1002)) (E_X10_sale_0 19 rfl) (by decide) ?_
          refine z_iret (E_X10_sale_0 20 rfl) trivial ?_
          exact ⟨(if_n (by omega) (if_p (by omega) rfl)).symm, (if_neg (by omega)).symm⟩
    · refine x_if_ne (E_X10_sale_0 5 rfl) (by decide) (fun c9 => absurd c9 (by decide)) (fun _ => ?_)
      refine x_sipush (z := (-1001)) (E_X10_sale_0 6 rfl) (by decide) ?_
      refine z_iret (E_X10_sale_0 7 rfl) trivial ?_
      exact ⟨(if_p (by omega) rfl).symm, (if_neg (by omega)).symm⟩
  · refine x_if_eq (E_X10_sale_0 2 rfl) (by decide) (fun _ => ?_) (fun c9 => absurd (by decide) c9)
    refine x_sipush (z := (-1001)) (E_X10_sale_0 6 rfl) (by decide) ?_
    refine z_iret (E_X10_sale_0 7 rfl) trivial ?_
    exact ⟨(if_p (by omega) rfl).symm, (if_neg (by omega)).symm⟩

theorem c_X11_sale {a b so n : Int} (ha : rgi a) (hb : rgi b) (hso : rgi so) (hn : rgi n) (h1 : 0 ≤ σ 114 60 ∧ σ 114 60 ≤ 24) : CI l G M_X11_sale 2 [vr 114, vi a, vi b, vi so, vi n] σ (fun z τ => z = (if ¬ ((0 ≤ a ∧ a ≤ 7) ∧ 0 ≤ b ∧ b ≤ 7) then -1001 else if ¬ (a ≠ b ∧ (0 ≤ so ∧ so ≤ 3) ∧ 1 ≤ n ∧ n ≤ 99) then -1002 else if 24 ≤ σ 114 60 then -1004 else σ 114 60 + 1) ∧ τ = if ((0 ≤ a ∧ a ≤ 7) ∧ 0 ≤ b ∧ b ≤ 7) ∧ (a ≠ b ∧ (0 ≤ so ∧ so ≤ 3) ∧ 1 ≤ n ∧ n ≤ 99) ∧ σ 114 60 < 24 then upq (upq (upq σ 160 (8 * so + a) (σ 160 (8 * so + a) - n)) 160 (8 * so + b) (upq σ 160 (8 * so + a) (σ 160 (8 * so + a) - n) 160 (8 * so + b) + n)) 114 60 (σ 114 60 + 1) else σ) := by
  refine Ct.of rfl (Nat.le_of_ble_eq_true rfl) ?_
  refine x_iload_n (E_X11_sale_0 0 rfl) rfl ?_
  refine z_callSi (E_X11_sale_0 1 rfl) ml_X11_213 ms_X11_isHouse (c_X11_isHouse (by omega)) (by decide) rfl rfl (by decide) (fun z9 τ9 h9 => ?_)
  obtain ⟨rfl, ⟨rfl, c1⟩ | ⟨rfl, c1⟩⟩ := h9
  · refine x_if_eq (E_X11_sale_0 2 rfl) (by decide) (fun c9 => absurd c9 (by decide)) (fun _ => ?_)
    refine x_iload_n (E_X11_sale_0 3 rfl) rfl ?_
    refine z_callSi (E_X11_sale_0 4 rfl) ml_X11_213 ms_X11_isHouse (c_X11_isHouse (by omega)) (by decide) rfl rfl (by decide) (fun z9 τ9 h9 => ?_)
    obtain ⟨rfl, ⟨rfl, c2⟩ | ⟨rfl, c2⟩⟩ := h9
    · refine x_if_ne (E_X11_sale_0 5 rfl) (by decide) (fun _ => ?_) (fun c9 => absurd c9 (by decide))
      refine x_iload_n (E_X11_sale_0 8 rfl) rfl ?_
      refine x_iload_n (E_X11_sale_0 9 rfl) rfl ?_
      refine x_icmp_eq (E_X11_sale_0 10 rfl) (by omega) (by omega) (fun c3 => ?_) (fun c3 => ?_)
      · refine x_sipush (z := (-1002)) (E_X11_sale_0 23 rfl) (by decide) ?_
        refine z_iret (E_X11_sale_0 24 rfl) trivial ?_
        exact ⟨(if_n (by omega) (if_p (by omega) rfl)).symm, (if_neg (by omega)).symm⟩
      · refine x_iload_n (E_X11_sale_0 11 rfl) rfl ?_
        refine x_i2l (E_X11_sale_0 12 rfl) (by omega) ?_
        refine x_lconst (z := 0) (E_X11_sale_0 13 rfl) rfl ?_
        refine x_ldc2 (z := 3) (E_X11_sale_0 14 rfl) kc_X11_220 (by decide) ?_
        refine z_callSi (E_X11_sale_0 15 rfl) ml_X11_197 ms_X11_in (c_X11_in (by omega) (by omega) (by omega)) (by decide) rfl rfl (by decide) (fun z9 τ9 h9 => ?_)
        obtain ⟨rfl, ⟨rfl, c4⟩ | ⟨rfl, c4⟩⟩ := h9
        · refine x_if_eq (E_X11_sale_0 16 rfl) (by decide) (fun c9 => absurd c9 (by decide)) (fun _ => ?_)
          refine x_iload (E_X11_sale_0 17 rfl) rfl ?_
          refine x_i2l (E_X11_sale_0 18 rfl) (by omega) ?_
          refine x_lconst (z := 1) (E_X11_sale_0 19 rfl) rfl ?_
          refine x_ldc2 (z := 99) (E_X11_sale_0 20 rfl) kc_X11_436 (by decide) ?_
          refine z_callSi (E_X11_sale_0 21 rfl) ml_X11_197 ms_X11_in (c_X11_in (by omega) (by omega) (by omega)) (by decide) rfl rfl (by decide) (fun z9 τ9 h9 => ?_)
          obtain ⟨rfl, ⟨rfl, c5⟩ | ⟨rfl, c5⟩⟩ := h9
          · refine x_if_ne (E_X11_sale_0 22 rfl) (by decide) (fun _ => ?_) (fun c9 => absurd c9 (by decide))
            refine x_aload_n (E_X11_sale_0 25 rfl) rfl ?_
            refine x_getIe (v := σ 114 60) (E_X11_sale_0 26 rfl) fl_X11_387 rfl (by decide) rfl ?_
            refine x_bipush (z := 24) (E_X11_sale_0 27 rfl) (by decide) ?_
            refine x_icmp_ne (E_X11_sale_0 28 rfl) (by omega) (by decide) (fun c6 => ?_) (fun c6 => ?_)
            · refine x_aload_n (E_X11_sale_0 31 rfl) rfl ?_
              refine x_getR (E_X11_sale_0 32 rfl) fl_X11_150 rfl (by decide) rfl ?_
              refine x_bipush (z := 8) (E_X11_sale_0 33 rfl) (by decide) ?_
              refine x_iload_n (E_X11_sale_0 34 rfl) rfl ?_
              refine x_imul (E_X11_sale_0 35 rfl) ?_
              refine x_iload_n (E_X11_sale_0 36 rfl) rfl ?_
              refine x_iadd (E_X11_sale_0 37 rfl) ?_
              refine x_dup2 (E_X11_sale_0 38 rfl) ?_
              refine x_ialde (f := σ 160) (E_X11_sale_0 39 rfl) rfl (by decide) (by omega) rfl ?_
              refine x_iload (E_X11_sale_0 40 rfl) rfl ?_
              refine x_isub (E_X11_sale_0 41 rfl) ?_
              refine x_iast (E_X11_sale_0 42 rfl) rfl (by decide) (by omega) ?_
              refine x_aload_n (E_X11_sale_0 43 rfl) rfl ?_
              refine x_getR (E_X11_sale_0 44 rfl) fl_X11_150 rfl (by decide) rfl ?_
              refine x_bipush (z := 8) (E_X11_sale_0 45 rfl) (by decide) ?_
              refine x_iload_n (E_X11_sale_0 46 rfl) rfl ?_
              refine x_imul (E_X11_sale_0 47 rfl) ?_
              refine x_iload_n (E_X11_sale_0 48 rfl) rfl ?_
              refine x_iadd (E_X11_sale_0 49 rfl) ?_
              refine x_dup2 (E_X11_sale_0 50 rfl) ?_
              refine x_iald (E_X11_sale_0 51 rfl) rfl (by decide) (by omega) ?_
              refine x_iload (E_X11_sale_0 52 rfl) rfl ?_
              refine x_iadd (E_X11_sale_0 53 rfl) ?_
              refine x_iast (E_X11_sale_0 54 rfl) rfl (by decide) (by omega) ?_
              refine x_aload_n (E_X11_sale_0 55 rfl) rfl ?_
              refine x_dupr (E_X11_sale_0 56 rfl) ?_
              refine x_getIe (v := σ 114 60) (E_X11_sale_0 57 rfl) fl_X11_387 rfl (by decide) rfl ?_
              refine x_iconst (E_X11_sale_0 58 rfl) ?_
              refine x_iadd (E_X11_sale_0 59 rfl) ?_
              refine x_putI (E_X11_sale_1 0 rfl) fl_X11_387 rfl (by decide) ?_
              refine x_aload_n (E_X11_sale_1 1 rfl) rfl ?_
              refine x_getI (E_X11_sale_1 2 rfl) fl_X11_387 rfl (by decide) ?_
              refine z_iret (E_X11_sale_1 3 rfl) trivial ?_
              refine ⟨?_, (if_pos (by omega)).symm⟩
              show σ 114 60 + 1 = _
              exact (if_n (by omega) (if_n (by omega) (if_n (by omega) rfl))).symm
            · refine x_sipush (z := (-1004)) (E_X11_sale_0 29 rfl) (by decide) ?_
              refine z_iret (E_X11_sale_0 30 rfl) trivial ?_
              exact ⟨(if_n (by omega) (if_n (by omega) (if_p (by omega) rfl))).symm, (if_neg (by omega)).symm⟩
          · refine x_if_ne (E_X11_sale_0 22 rfl) (by decide) (fun c9 => absurd c9 (by decide)) (fun _ => ?_)
            refine x_sipush (z := (-1002)) (E_X11_sale_0 23 rfl) (by decide) ?_
            refine z_iret (E_X11_sale_0 24 rfl) trivial ?_
            exact ⟨(if_n (by omega) (if_p (by omega) rfl)).symm, (if_neg (by omega)).symm⟩
        · refine x_if_eq (E_X11_sale_0 16 rfl) (by decide) (fun _ => ?_) (fun c9 => absurd (by decide) c9)
          refine x_sipush (z := (-1002)) (E_X11_sale_0 23 rfl) (by decide) ?_
          refine z_iret (E_X11_sale_0 24 rfl) trivial ?_
          exact ⟨(if_n (by omega) (if_p (by omega) rfl)).symm, (if_neg (by omega)).symm⟩
    · refine x_if_ne (E_X11_sale_0 5 rfl) (by decide) (fun c9 => absurd c9 (by decide)) (fun _ => ?_)
      refine x_sipush (z := (-1001)) (E_X11_sale_0 6 rfl) (by decide) ?_
      refine z_iret (E_X11_sale_0 7 rfl) trivial ?_
      exact ⟨(if_p (by omega) rfl).symm, (if_neg (by omega)).symm⟩
  · refine x_if_eq (E_X11_sale_0 2 rfl) (by decide) (fun _ => ?_) (fun c9 => absurd (by decide) c9)
    refine x_sipush (z := (-1001)) (E_X11_sale_0 6 rfl) (by decide) ?_
    refine z_iret (E_X11_sale_0 7 rfl) trivial ?_
    exact ⟨(if_p (by omega) rfl).symm, (if_neg (by omega)).symm⟩

theorem c_X10_due {a b v : Int} (ha : rgi a) (hb : rgi b) (hv : rgi v) (h1 : 0 ≤ σ 96 4 ∧ σ 96 4 ≤ 24) : CI l G M_X10_due 2 [vr 0, vi a, vi b, vi v] σ (fun z τ => z = (if ¬ ((0 ≤ a ∧ a ≤ 7) ∧ 0 ≤ b ∧ b ≤ 7) then -1001 else if ¬ (a ≠ b ∧ 1 ≤ v ∧ v ≤ 9999) then -1002 else if 24 ≤ σ 96 4 then -1004 else σ 96 4 + 1) ∧ τ = if ((0 ≤ a ∧ a ≤ 7) ∧ 0 ≤ b ∧ b ≤ 7) ∧ (a ≠ b ∧ 1 ≤ v ∧ v ≤ 9999) ∧ σ 96 4 < 24 then upq (upq (upq (upq σ 97 (σ 96 4) a) 98 (σ 96 4) b) 99 (σ 96 4) v) 96 4 (σ 96 4 + 1) else σ) := by
  refine Ct.of rfl (Nat.le_of_ble_eq_true rfl) ?_
  refine x_iload_n (E_X10_due_0 0 rfl) rfl ?_
  refine z_callSi (E_X10_due_0 1 rfl) ml_X10_104 ms_X10_isHouse (c_X10_isHouse (by omega)) (by decide) rfl rfl (by decide) (fun z9 τ9 h9 => ?_)
  obtain ⟨rfl, ⟨rfl, c1⟩ | ⟨rfl, c1⟩⟩ := h9
  · refine x_if_eq (E_X10_due_0 2 rfl) (by decide) (fun c9 => absurd c9 (by decide)) (fun _ => ?_)
    refine x_iload_n (E_X10_due_0 3 rfl) rfl ?_
    refine z_callSi (E_X10_due_0 4 rfl) ml_X10_104 ms_X10_isHouse (c_X10_isHouse (by omega)) (by decide) rfl rfl (by decide) (fun z9 τ9 h9 => ?_)
    obtain ⟨rfl, ⟨rfl, c2⟩ | ⟨rfl, c2⟩⟩ := h9
    · refine x_if_ne (E_X10_due_0 5 rfl) (by decide) (fun _ => ?_) (fun c9 => absurd c9 (by decide))
      refine x_iload_n (E_X10_due_0 8 rfl) rfl ?_
      refine x_iload_n (E_X10_due_0 9 rfl) rfl ?_
      refine x_icmp_eq (E_X10_due_0 10 rfl) (by omega) (by omega) (fun c3 => ?_) (fun c3 => ?_)
      · refine x_sipush (z := (-1002)) (E_X10_due_0 16 rfl) (by decide) ?_
        refine z_iret (E_X10_due_0 17 rfl) trivial ?_
        exact ⟨(if_n (by omega) (if_p (by omega) rfl)).symm, (if_neg (by omega)).symm⟩
      · refine x_iload_n (E_X10_due_0 11 rfl) rfl ?_
        refine x_iconst (E_X10_due_0 12 rfl) ?_
        refine x_sipush (z := 9999) (E_X10_due_0 13 rfl) (by decide) ?_
        refine z_callSi (E_X10_due_0 14 rfl) ml_X10_100 ms_X10_within (c_X10_within (by omega) (by omega) (by omega)) (by decide) rfl rfl (by decide) (fun z9 τ9 h9 => ?_)
        obtain ⟨rfl, ⟨rfl, c4⟩ | ⟨rfl, c4⟩⟩ := h9
        · refine x_if_ne (E_X10_due_0 15 rfl) (by decide) (fun _ => ?_) (fun c9 => absurd c9 (by decide))
          refine x_aload_n (E_X10_due_0 18 rfl) rfl ?_
          refine x_getR (E_X10_due_0 19 rfl) fl_X10_82 rfl (by decide) rfl ?_
          refine x_getIe (v := σ 96 4) (E_X10_due_0 20 rfl) fl_X10_200 rfl (by decide) rfl ?_
          refine x_bipush (z := 24) (E_X10_due_0 21 rfl) (by decide) ?_
          refine x_icmp_lt (E_X10_due_0 22 rfl) (by omega) (by decide) (fun c5 => ?_) (fun c5 => ?_)
          · refine x_aload_n (E_X10_due_0 25 rfl) rfl ?_
            refine x_getR (E_X10_due_0 26 rfl) fl_X10_82 rfl (by decide) rfl ?_
            refine x_iload_n (E_X10_due_0 27 rfl) rfl ?_
            refine x_iload_n (E_X10_due_0 28 rfl) rfl ?_
            refine x_iload_n (E_X10_due_0 29 rfl) rfl ?_
            refine z_callVi (E_X10_due_0 30 rfl) ml_X10_334 mv_X1_add rfl (by decide) (by decide) (c_X1_add (by omega)) (by decide) rfl rfl (by decide) (fun z9 τ9 h9 => ?_)
            obtain ⟨rfl, rfl⟩ := h9
            refine z_iret (E_X10_due_0 31 rfl) trivial ?_
            exact ⟨(if_n (by omega) (if_n (by omega) (if_n (by omega) rfl))).symm, (if_pos (by omega)).symm⟩
          · refine x_sipush (z := (-1004)) (E_X10_due_0 23 rfl) (by decide) ?_
            refine x_goto (E_X10_due_0 24 rfl) ?_
            refine z_iret (E_X10_due_0 31 rfl) trivial ?_
            exact ⟨(if_n (by omega) (if_n (by omega) (if_p (by omega) rfl))).symm, (if_neg (by omega)).symm⟩
        · refine x_if_ne (E_X10_due_0 15 rfl) (by decide) (fun c9 => absurd c9 (by decide)) (fun _ => ?_)
          refine x_sipush (z := (-1002)) (E_X10_due_0 16 rfl) (by decide) ?_
          refine z_iret (E_X10_due_0 17 rfl) trivial ?_
          exact ⟨(if_n (by omega) (if_p (by omega) rfl)).symm, (if_neg (by omega)).symm⟩
    · refine x_if_ne (E_X10_due_0 5 rfl) (by decide) (fun c9 => absurd c9 (by decide)) (fun _ => ?_)
      refine x_sipush (z := (-1001)) (E_X10_due_0 6 rfl) (by decide) ?_
      refine z_iret (E_X10_due_0 7 rfl) trivial ?_
      exact ⟨(if_p (by omega) rfl).symm, (if_neg (by omega)).symm⟩
  · refine x_if_eq (E_X10_due_0 2 rfl) (by decide) (fun _ => ?_) (fun c9 => absurd (by decide) c9)
    refine x_sipush (z := (-1001)) (E_X10_due_0 6 rfl) (by decide) ?_
    refine z_iret (E_X10_due_0 7 rfl) trivial ?_
    exact ⟨(if_p (by omega) rfl).symm, (if_neg (by omega)).symm⟩

theorem c_X11_due {a b v : Int} (ha : rgi a) (hb : rgi b) (hv : rgi v) (h1 : 0 ≤ σ 114 63 ∧ σ 114 63 ≤ 24) : CI l G M_X11_due 2 [vr 114, vi a, vi b, vi v] σ (fun z τ => z = (if ¬ ((0 ≤ a ∧ a ≤ 7) ∧ 0 ≤ b ∧ b ≤ 7) then -1001 else if ¬ (a ≠ b ∧ 1 ≤ v ∧ v ≤ 9999) then -1002 else if 24 ≤ σ 114 63 then -1004 else σ 114 63 + 1) ∧ τ = if ((0 ≤ a ∧ a ≤ 7) ∧ 0 ≤ b ∧ b ≤ 7) ∧ (a ≠ b ∧ 1 ≤ v ∧ v ≤ 9999) ∧ σ 114 63 < 24 then upq (upq (upq (upq σ 162 (σ 114 63) a) 163 (σ 114 63) b) 164 (σ 114 63) v) 114 63 (σ 114 63 + 1) else σ) := by
  refine Ct.of rfl (Nat.le_of_ble_eq_true rfl) ?_
  refine x_iload_n (E_X11_due_0 0 rfl) rfl ?_
  refine z_callSi (E_X11_due_0 1 rfl) ml_X11_213 ms_X11_isHouse (c_X11_isHouse (by omega)) (by decide) rfl rfl (by decide) (fun z9 τ9 h9 => ?_)
  obtain ⟨rfl, ⟨rfl, c1⟩ | ⟨rfl, c1⟩⟩ := h9
  · refine x_if_eq (E_X11_due_0 2 rfl) (by decide) (fun c9 => absurd c9 (by decide)) (fun _ => ?_)
    refine x_iload_n (E_X11_due_0 3 rfl) rfl ?_
    refine z_callSi (E_X11_due_0 4 rfl) ml_X11_213 ms_X11_isHouse (c_X11_isHouse (by omega)) (by decide) rfl rfl (by decide) (fun z9 τ9 h9 => ?_)
    obtain ⟨rfl, ⟨rfl, c2⟩ | ⟨rfl, c2⟩⟩ := h9
    · refine x_if_ne (E_X11_due_0 5 rfl) (by decide) (fun _ => ?_) (fun c9 => absurd c9 (by decide))
      refine x_iload_n (E_X11_due_0 8 rfl) rfl ?_
      refine x_iload_n (E_X11_due_0 9 rfl) rfl ?_
      refine x_icmp_eq (E_X11_due_0 10 rfl) (by omega) (by omega) (fun c3 => ?_) (fun c3 => ?_)
      · refine x_sipush (z := (-1002)) (E_X11_due_0 17 rfl) (by decide) ?_
        refine z_iret (E_X11_due_0 18 rfl) trivial ?_
        exact ⟨(if_n (by omega) (if_p (by omega) rfl)).symm, (if_neg (by omega)).symm⟩
      · refine x_iload_n (E_X11_due_0 11 rfl) rfl ?_
        refine x_i2l (E_X11_due_0 12 rfl) (by omega) ?_
        refine x_lconst (z := 1) (E_X11_due_0 13 rfl) rfl ?_
        refine x_ldc2 (z := 9999) (E_X11_due_0 14 rfl) kc_X11_425 (by decide) ?_
        refine z_callSi (E_X11_due_0 15 rfl) ml_X11_197 ms_X11_in (c_X11_in (by omega) (by omega) (by omega)) (by decide) rfl rfl (by decide) (fun z9 τ9 h9 => ?_)
        obtain ⟨rfl, ⟨rfl, c4⟩ | ⟨rfl, c4⟩⟩ := h9
        · refine x_if_ne (E_X11_due_0 16 rfl) (by decide) (fun _ => ?_) (fun c9 => absurd c9 (by decide))
          refine x_aload_n (E_X11_due_0 19 rfl) rfl ?_
          refine x_getIe (v := σ 114 63) (E_X11_due_0 20 rfl) fl_X11_390 rfl (by decide) rfl ?_
          refine x_bipush (z := 24) (E_X11_due_0 21 rfl) (by decide) ?_
          refine x_icmp_ne (E_X11_due_0 22 rfl) (by omega) (by decide) (fun c5 => ?_) (fun c5 => ?_)
          · refine x_aload_n (E_X11_due_0 25 rfl) rfl ?_
            refine x_getR (E_X11_due_0 26 rfl) fl_X11_156 rfl (by decide) rfl ?_
            refine x_aload_n (E_X11_due_0 27 rfl) rfl ?_
            refine x_getIe (v := σ 114 63) (E_X11_due_0 28 rfl) fl_X11_390 rfl (by decide) rfl ?_
            refine x_iload_n (E_X11_due_0 29 rfl) rfl ?_
            refine x_iast (E_X11_due_0 30 rfl) rfl (by decide) (by omega) ?_
            refine x_aload_n (E_X11_due_0 31 rfl) rfl ?_
            refine x_getR (E_X11_due_0 32 rfl) fl_X11_159 rfl (by decide) rfl ?_
            refine x_aload_n (E_X11_due_0 33 rfl) rfl ?_
            refine x_getIe (v := σ 114 63) (E_X11_due_0 34 rfl) fl_X11_390 rfl (by decide) rfl ?_
            refine x_iload_n (E_X11_due_0 35 rfl) rfl ?_
            refine x_iast (E_X11_due_0 36 rfl) rfl (by decide) (by omega) ?_
            refine x_aload_n (E_X11_due_0 37 rfl) rfl ?_
            refine x_getR (E_X11_due_0 38 rfl) fl_X11_162 rfl (by decide) rfl ?_
            refine x_aload_n (E_X11_due_0 39 rfl) rfl ?_
            refine x_getIe (v := σ 114 63) (E_X11_due_0 40 rfl) fl_X11_390 rfl (by decide) rfl ?_
            refine x_iload_n (E_X11_due_0 41 rfl) rfl ?_
            refine x_iast (E_X11_due_0 42 rfl) rfl (by decide) (by omega) ?_
            refine x_aload_n (E_X11_due_0 43 rfl) rfl ?_
            refine x_dupr (E_X11_due_0 44 rfl) ?_
            refine x_getIe (v := σ 114 63) (E_X11_due_0 45 rfl) fl_X11_390 rfl (by decide) rfl ?_
            refine x_iconst (E_X11_due_0 46 rfl) ?_
            refine x_iadd (E_X11_due_0 47 rfl) ?_
            refine x_putI (E_X11_due_0 48 rfl) fl_X11_390 rfl (by decide) ?_
            refine x_aload_n (E_X11_due_0 49 rfl) rfl ?_
            refine x_getI (E_X11_due_0 50 rfl) fl_X11_390 rfl (by decide) ?_
            refine z_iret (E_X11_due_0 51 rfl) trivial ?_
            refine ⟨?_, (if_pos (by omega)).symm⟩
            show σ 114 63 + 1 = _
            exact (if_n (by omega) (if_n (by omega) (if_n (by omega) rfl))).symm
          · refine x_sipush (z := (-1004)) (E_X11_due_0 23 rfl) (by decide) ?_
            refine z_iret (E_X11_due_0 24 rfl) trivial ?_
            exact ⟨(if_n (by omega) (if_n (by omega) (if_p (by omega) rfl))).symm, (if_neg (by omega)).symm⟩
        · refine x_if_ne (E_X11_due_0 16 rfl) (by decide) (fun c9 => absurd c9 (by decide)) (fun _ => ?_)
          refine x_sipush (z := (-1002)) (E_X11_due_0 17 rfl) (by decide) ?_
          refine z_iret (E_X11_due_0 18 rfl) trivial ?_
          exact ⟨(if_n (by omega) (if_p (by omega) rfl)).symm, (if_neg (by omega)).symm⟩
    · refine x_if_ne (E_X11_due_0 5 rfl) (by decide) (fun c9 => absurd c9 (by decide)) (fun _ => ?_)
      refine x_sipush (z := (-1001)) (E_X11_due_0 6 rfl) (by decide) ?_
      refine z_iret (E_X11_due_0 7 rfl) trivial ?_
      exact ⟨(if_p (by omega) rfl).symm, (if_neg (by omega)).symm⟩
  · refine x_if_eq (E_X11_due_0 2 rfl) (by decide) (fun _ => ?_) (fun c9 => absurd (by decide) c9)
    refine x_sipush (z := (-1001)) (E_X11_due_0 6 rfl) (by decide) ?_
    refine z_iret (E_X11_due_0 7 rfl) trivial ?_
    exact ⟨(if_p (by omega) rfl).symm, (if_neg (by omega)).symm⟩

theorem c_X10_coin {h v : Int} (hh : rgi h) (hv : rgi v)  : CI l G M_X10_coin 2 [vr 0, vi h, vi v] σ (fun z τ => z = (if ¬ (0 ≤ h ∧ h ≤ 7) then -1001 else if ¬ (0 ≤ v ∧ v ≤ 9999) then -1002 else σ 101 h) ∧ τ = if (0 ≤ h ∧ h ≤ 7) ∧ 0 ≤ v ∧ v ≤ 9999 then upq σ 101 h v else σ) := by
  refine Ct.of rfl (Nat.le_of_ble_eq_true rfl) ?_
  refine x_iload_n (E_X10_coin_0 0 rfl) rfl ?_
  refine z_callSi (E_X10_coin_0 1 rfl) ml_X10_104 ms_X10_isHouse (c_X10_isHouse (by omega)) (by decide) rfl rfl (by decide) (fun z9 τ9 h9 => ?_)
  obtain ⟨rfl, ⟨rfl, c1⟩ | ⟨rfl, c1⟩⟩ := h9
  · refine x_if_ne (E_X10_coin_0 2 rfl) (by decide) (fun _ => ?_) (fun c9 => absurd c9 (by decide))
    refine x_iload_n (E_X10_coin_0 5 rfl) rfl ?_
    refine x_iconst (E_X10_coin_0 6 rfl) ?_
    refine x_sipush (z := 9999) (E_X10_coin_0 7 rfl) (by decide) ?_
    refine z_callSi (E_X10_coin_0 8 rfl) ml_X10_100 ms_X10_within (c_X10_within (by omega) (by omega) (by omega)) (by decide) rfl rfl (by decide) (fun z9 τ9 h9 => ?_)
    obtain ⟨rfl, ⟨rfl, c2⟩ | ⟨rfl, c2⟩⟩ := h9
    · refine x_if_ne (E_X10_coin_0 9 rfl) (by decide) (fun _ => ?_) (fun c9 => absurd c9 (by decide))
      refine x_aload_n (E_X10_coin_0 12 rfl) rfl ?_
      refine x_getR (E_X10_coin_0 13 rfl) fl_X10_82 rfl (by decide) rfl ?_
      refine x_getR (E_X10_coin_0 14 rfl) fl_X10_337 rfl (by decide) rfl ?_
      refine x_iload_n (E_X10_coin_0 15 rfl) rfl ?_
      refine x_ialde (f := σ 101) (E_X10_coin_0 16 rfl) rfl (by decide) (by omega) rfl ?_
      refine x_istore_n (E_X10_coin_0 17 rfl) rfl ?_
      refine x_aload_n (E_X10_coin_0 18 rfl) rfl ?_
      refine x_getR (E_X10_coin_0 19 rfl) fl_X10_82 rfl (by decide) rfl ?_
      refine x_getR (E_X10_coin_0 20 rfl) fl_X10_337 rfl (by decide) rfl ?_
      refine x_iload_n (E_X10_coin_0 21 rfl) rfl ?_
      refine x_iload_n (E_X10_coin_0 22 rfl) rfl ?_
      refine x_iast (E_X10_coin_0 23 rfl) rfl (by decide) (by omega) ?_
      refine x_iload_n (E_X10_coin_0 24 rfl) rfl ?_
      refine z_iret (E_X10_coin_0 25 rfl) trivial ?_
      exact ⟨(if_n (by omega) (if_n (by omega) rfl)).symm, (if_pos (by omega)).symm⟩
    · refine x_if_ne (E_X10_coin_0 9 rfl) (by decide) (fun c9 => absurd c9 (by decide)) (fun _ => ?_)
      refine x_sipush (z := (-1002)) (E_X10_coin_0 10 rfl) (by decide) ?_
      refine z_iret (E_X10_coin_0 11 rfl) trivial ?_
      exact ⟨(if_n (by omega) (if_p (by omega) rfl)).symm, (if_neg (by omega)).symm⟩
  · refine x_if_ne (E_X10_coin_0 2 rfl) (by decide) (fun c9 => absurd c9 (by decide)) (fun _ => ?_)
    refine x_sipush (z := (-1001)) (E_X10_coin_0 3 rfl) (by decide) ?_
    refine z_iret (E_X10_coin_0 4 rfl) trivial ?_
    exact ⟨(if_p (by omega) rfl).symm, (if_neg (by omega)).symm⟩

theorem c_X11_coin {h v : Int} (hh : rgi h) (hv : rgi v)  : CI l G M_X11_coin 2 [vr 114, vi h, vi v] σ (fun z τ => z = (if ¬ (0 ≤ h ∧ h ≤ 7) then -1001 else if ¬ (0 ≤ v ∧ v ≤ 9999) then -1002 else σ 167 h) ∧ τ = if (0 ≤ h ∧ h ≤ 7) ∧ 0 ≤ v ∧ v ≤ 9999 then upq σ 167 h v else σ) := by
  refine Ct.of rfl (Nat.le_of_ble_eq_true rfl) ?_
  refine x_iload_n (E_X11_coin_0 0 rfl) rfl ?_
  refine z_callSi (E_X11_coin_0 1 rfl) ml_X11_213 ms_X11_isHouse (c_X11_isHouse (by omega)) (by decide) rfl rfl (by decide) (fun z9 τ9 h9 => ?_)
  obtain ⟨rfl, ⟨rfl, c1⟩ | ⟨rfl, c1⟩⟩ := h9
  · refine x_if_ne (E_X11_coin_0 2 rfl) (by decide) (fun _ => ?_) (fun c9 => absurd c9 (by decide))
    refine x_iload_n (E_X11_coin_0 5 rfl) rfl ?_
    refine x_i2l (E_X11_coin_0 6 rfl) (by omega) ?_
    refine x_lconst (z := 0) (E_X11_coin_0 7 rfl) rfl ?_
    refine x_ldc2 (z := 9999) (E_X11_coin_0 8 rfl) kc_X11_425 (by decide) ?_
    refine z_callSi (E_X11_coin_0 9 rfl) ml_X11_197 ms_X11_in (c_X11_in (by omega) (by omega) (by omega)) (by decide) rfl rfl (by decide) (fun z9 τ9 h9 => ?_)
    obtain ⟨rfl, ⟨rfl, c2⟩ | ⟨rfl, c2⟩⟩ := h9
    · refine x_if_ne (E_X11_coin_0 10 rfl) (by decide) (fun _ => ?_) (fun c9 => absurd c9 (by decide))
      refine x_aload_n (E_X11_coin_0 13 rfl) rfl ?_
      refine x_getR (E_X11_coin_0 14 rfl) fl_X11_171 rfl (by decide) rfl ?_
      refine x_iload_n (E_X11_coin_0 15 rfl) rfl ?_
      refine x_ialde (f := σ 167) (E_X11_coin_0 16 rfl) rfl (by decide) (by omega) rfl ?_
      refine x_istore_n (E_X11_coin_0 17 rfl) rfl ?_
      refine x_aload_n (E_X11_coin_0 18 rfl) rfl ?_
      refine x_getR (E_X11_coin_0 19 rfl) fl_X11_171 rfl (by decide) rfl ?_
      refine x_iload_n (E_X11_coin_0 20 rfl) rfl ?_
      refine x_iload_n (E_X11_coin_0 21 rfl) rfl ?_
      refine x_iast (E_X11_coin_0 22 rfl) rfl (by decide) (by omega) ?_
      refine x_iload_n (E_X11_coin_0 23 rfl) rfl ?_
      refine z_iret (E_X11_coin_0 24 rfl) trivial ?_
      exact ⟨(if_n (by omega) (if_n (by omega) rfl)).symm, (if_pos (by omega)).symm⟩
    · refine x_if_ne (E_X11_coin_0 10 rfl) (by decide) (fun c9 => absurd c9 (by decide)) (fun _ => ?_)
      refine x_sipush (z := (-1002)) (E_X11_coin_0 11 rfl) (by decide) ?_
      refine z_iret (E_X11_coin_0 12 rfl) trivial ?_
      exact ⟨(if_n (by omega) (if_p (by omega) rfl)).symm, (if_neg (by omega)).symm⟩
  · refine x_if_ne (E_X11_coin_0 2 rfl) (by decide) (fun c9 => absurd c9 (by decide)) (fun _ => ?_)
    refine x_sipush (z := (-1001)) (E_X11_coin_0 3 rfl) (by decide) ?_
    refine z_iret (E_X11_coin_0 4 rfl) trivial ?_
    exact ⟨(if_p (by omega) rfl).symm, (if_neg (by omega)).symm⟩

theorem c_X11_net {h so : Int} (hh : rgi h) (hso : rgi so) : CI l G M_X11_net 2 [vr 114, vi h, vi so] σ (fun z τ => z = (if ¬ (0 ≤ h ∧ h ≤ 7) then -1001 else if ¬ (0 ≤ so ∧ so ≤ 3) then -1002 else σ 160 (8 * so + h)) ∧ σ = τ) := by
  refine Ct.of rfl (Nat.le_of_ble_eq_true rfl) ?_
  refine x_iload_n (E_X11_net_0 0 rfl) rfl ?_
  refine z_callSi (E_X11_net_0 1 rfl) ml_X11_213 ms_X11_isHouse (c_X11_isHouse (by omega)) (by decide) rfl rfl (by decide) (fun z9 τ9 h9 => ?_)
  obtain ⟨rfl, ⟨rfl, c1⟩ | ⟨rfl, c1⟩⟩ := h9
  · refine x_if_ne (E_X11_net_0 2 rfl) (by decide) (fun _ => ?_) (fun c9 => absurd c9 (by decide))
    refine x_iload_n (E_X11_net_0 5 rfl) rfl ?_
    refine x_i2l (E_X11_net_0 6 rfl) (by omega) ?_
    refine x_lconst (z := 0) (E_X11_net_0 7 rfl) rfl ?_
    refine x_ldc2 (z := 3) (E_X11_net_0 8 rfl) kc_X11_220 (by decide) ?_
    refine z_callSi (E_X11_net_0 9 rfl) ml_X11_197 ms_X11_in (c_X11_in (by omega) (by omega) (by omega)) (by decide) rfl rfl (by decide) (fun z9 τ9 h9 => ?_)
    obtain ⟨rfl, ⟨rfl, c2⟩ | ⟨rfl, c2⟩⟩ := h9
    · refine x_if_eq (E_X11_net_0 10 rfl) (by decide) (fun c9 => absurd c9 (by decide)) (fun _ => ?_)
      refine x_aload_n (E_X11_net_0 11 rfl) rfl ?_
      refine x_getR (E_X11_net_0 12 rfl) fl_X11_150 rfl (by decide) rfl ?_
      refine x_bipush (z := 8) (E_X11_net_0 13 rfl) (by decide) ?_
      refine x_iload_n (E_X11_net_0 14 rfl) rfl ?_
      refine x_imul (E_X11_net_0 15 rfl) ?_
      refine x_iload_n (E_X11_net_0 16 rfl) rfl ?_
      refine x_iadd (E_X11_net_0 17 rfl) ?_
      refine x_ialde (f := σ 160) (E_X11_net_0 18 rfl) rfl (by decide) (by omega) rfl ?_
      refine x_goto (E_X11_net_0 19 rfl) ?_
      refine z_iret (E_X11_net_0 21 rfl) trivial ?_
      exact ⟨(if_n (by omega) (if_n (by omega) rfl)).symm, rfl⟩
    · refine x_if_eq (E_X11_net_0 10 rfl) (by decide) (fun _ => ?_) (fun c9 => absurd (by decide) c9)
      refine x_sipush (z := (-1002)) (E_X11_net_0 20 rfl) (by decide) ?_
      refine z_iret (E_X11_net_0 21 rfl) trivial ?_
      exact ⟨(if_n (by omega) (if_p (by omega) rfl)).symm, rfl⟩
  · refine x_if_ne (E_X11_net_0 2 rfl) (by decide) (fun c9 => absurd c9 (by decide)) (fun _ => ?_)
    refine x_sipush (z := (-1001)) (E_X11_net_0 3 rfl) (by decide) ?_
    refine z_iret (E_X11_net_0 4 rfl) trivial ?_
    exact ⟨(if_p (by omega) rfl).symm, rfl⟩
end
section
/-! pairs: go, lot, room, move, fault, weigh, unpaid, due, coin -/
variable {l : Launch} {G : GC} {σ : Nat → Int → Int}
theorem RLots.later {now now' nl ml : Int} {c2 c3 c4 c5 c6 m2 m3 m4 m5 m6 : Int → Int} (h : RLots now nl ml c2 c3 c4 c5 c6 m2 m3 m4 m5 m6) (hn : now ≤ now') : RLots now' nl ml c2 c3 c4 c5 c6 m2 m3 m4 m5 m6 := by
  obtain ⟨a, b, c, d⟩ := h
  refine ⟨a, b, c, fun i h1 h2 => ?_⟩
  obtain ⟨q1, q2, q3, q4, q5⟩ := d i h1 h2
  exact ⟨q1, q2, q3, q4, by omega⟩
theorem LineOk.later {now now' nl nl' : Int} {kd dy td tg pp qq nn : Int → Int} {i : Int} (h : LineOk now nl kd dy td tg pp qq nn i) (hn : now ≤ now') (hl : nl ≤ nl') : LineOk now' nl' kd dy td tg pp qq nn i := by
  obtain ⟨a, b, c, d⟩ := h
  exact ⟨a, by omega, fun q => by have := c q; omega, d⟩
theorem RLines.later {now now' nl nl' n mn : Int} {kd dy td tg pp qq nn mkd mdy mtd mtg mpp mqq mnn ord : Int → Int} (h : RLines now nl n mn kd dy td tg pp qq nn mkd mdy mtd mtg mpp mqq mnn ord) (hn : now ≤ now') (hl : nl ≤ nl') : RLines now' nl' n mn kd dy td tg pp qq nn mkd mdy mtd mtg mpp mqq mnn ord := by
  obtain ⟨a, b, c, d, e⟩ := h
  exact ⟨a, b, c, fun i h1 h2 => (d i h1 h2).later hn hl, e⟩
theorem RWeigh.later {nl nl' nw mw : Int} {a b c d ma mb mc md : Int → Int} (h : RWeigh nl nw mw a b c d ma mb mc md) (hl : nl ≤ nl') : RWeigh nl' nw mw a b c d ma mb mc md := by
  obtain ⟨q1, q2, q3, q4⟩ := h
  refine ⟨q1, q2, q3, fun i h1 h2 => ?_⟩
  obtain ⟨w1, w2, w3, w4⟩ := q4 i h1 h2
  exact ⟨by omega, w2, w3, w4⟩
theorem pair_go {n : Int} (hR : RR σ) (hn : rgi n) : Pair l G M_X10_go 1 M_X11_go 1 [vi n] σ := by
  have hR0 := hR
  obtain ⟨⟨e0, h0⟩, r2, r3, r4, r5⟩ := hR
  refine ⟨_, c_X10_go hn h0, fun z τ h => ?_⟩
  obtain ⟨rfl, rfl⟩ := h
  refine ⟨by omega, ?_⟩
  by_cases a : (0 ≤ n ∧ n ≤ 999) ∧ σ 0 0 + n ≤ 2000
  · rw [if_pos a]
    refine CI_mono (c_X11_go hn (show 0 ≤ σ 114 0 ∧ σ 114 0 ≤ 2000 by omega)) (fun z τ h => ?_)
    have h : z = (if ¬ (0 ≤ n ∧ n ≤ 999) then -1002 else if 2000 < σ 114 0 + n then -1003 else σ 114 0 + n) ∧ τ = if (0 ≤ n ∧ n ≤ 999) ∧ σ 114 0 + n ≤ 2000 then upq (upq σ 0 0 (σ 0 0 + n)) 114 0 (σ 114 0 + n) else upq σ 0 0 (σ 0 0 + n) := h
    rw [e0, if_pos a] at h
    obtain ⟨rfl, rfl⟩ := h
    refine ⟨rfl, ⟨rfl, show 0 ≤ σ 0 0 + n ∧ σ 0 0 + n ≤ 2000 by omega⟩, ?_, r3, ?_, r5⟩
    · exact r2.later (now' := σ 0 0 + n) (by omega)
    · exact r4.later (now' := σ 0 0 + n) (by omega) (Int.le_refl _)
  · rw [if_neg a]
    refine CI_mono (c_X11_go hn (by omega)) (fun z τ h => ?_)
    rw [e0, if_neg a] at h
    obtain ⟨rfl, rfl⟩ := h
    exact ⟨rfl, hR0⟩
theorem pair_room {f v : Int} (hR : RR σ) (hf : rgi f) (hv : rgi v) : Pair l G M_X10_room 2 M_X11_room 2 [vi f, vi v] σ := by
  have hR0 := hR
  obtain ⟨r1, r2, ⟨e0, h0⟩, r4⟩ := hR
  refine ⟨_, c_X10_room hf hv, fun z τ h => ?_⟩
  obtain ⟨rfl, rfl⟩ := h
  refine ⟨by
    by_cases a : 0 ≤ f ∧ f ≤ 5
    · have := h0 f (by omega) (by omega); omega
    · omega, ?_⟩
  by_cases a : (0 ≤ f ∧ f ≤ 5) ∧ 0 ≤ v ∧ v ≤ 999
  · rw [if_pos a]
    refine CI_mono (c_X11_room hf hv) (fun z τ h => ?_)
    rw [if_pos a] at h
    have h : z = (if ¬ (0 ≤ f ∧ f ≤ 5) then -1001 else if ¬ (0 ≤ v ∧ v ≤ 999) then -1002 else σ 121 f) ∧ τ = upq (upq σ 105 f v) 121 f v := h
    rw [e0] at h
    obtain ⟨rfl, rfl⟩ := h
    refine ⟨rfl, r1, r2, ⟨?_, fun g h1 h2 => ?_⟩, r4⟩
    · show (fun b => if b = f then v else σ 121 b) = fun b => if b = f then v else σ 105 b
      rw [e0]
    · show 0 ≤ (if g = f then v else σ 105 g) ∧ (if g = f then v else σ 105 g) ≤ 999
      have := h0 g h1 h2
      split <;> omega
  · rw [if_neg a]
    refine CI_mono (c_X11_room hf hv) (fun z τ h => ?_)
    rw [e0, if_neg a] at h
    obtain ⟨rfl, rfl⟩ := h
    exact ⟨rfl, hR0⟩
theorem pair_coin {h v : Int} (hR : RR σ) (hh : rgi h) (hv : rgi v) : Pair l G M_X10_coin 2 M_X11_coin 2 [vi h, vi v] σ := by
  have hR0 := hR
  obtain ⟨r1, r2, r3, r4, r5, r6, r7, r8, r9, ⟨d1, d2, ⟨d3, d4, d5, e0⟩, d6, h0⟩, r11⟩ := hR
  refine ⟨_, c_X10_coin hh hv, fun z τ q => ?_⟩
  obtain ⟨rfl, rfl⟩ := q
  refine ⟨by
    by_cases a : 0 ≤ h ∧ h ≤ 7
    · have := h0 h (by omega) (by omega); omega
    · omega, ?_⟩
  by_cases a : (0 ≤ h ∧ h ≤ 7) ∧ 0 ≤ v ∧ v ≤ 9999
  · rw [if_pos a]
    refine CI_mono (c_X11_coin hh hv) (fun z τ q => ?_)
    rw [if_pos a] at q
    have q : z = (if ¬ (0 ≤ h ∧ h ≤ 7) then -1001 else if ¬ (0 ≤ v ∧ v ≤ 9999) then -1002 else σ 167 h) ∧ τ = upq (upq σ 101 h v) 167 h v := q
    rw [e0] at q
    obtain ⟨rfl, rfl⟩ := q
    refine ⟨rfl, r1, r2, r3, r4, r5, r6, r7, r8, r9, ⟨d1, d2, ⟨d3, d4, d5, ?_⟩, d6, fun g h1 h2 => ?_⟩, r11⟩
    · show (fun b => if b = h then v else σ 167 b) = fun b => if b = h then v else σ 101 b
      rw [e0]
    · show 0 ≤ (if g = h then v else σ 101 g) ∧ (if g = h then v else σ 101 g) ≤ 9999
      have := h0 g h1 h2
      split <;> omega
  · rw [if_neg a]
    refine CI_mono (c_X11_coin hh hv) (fun z τ q => ?_)
    rw [e0, if_neg a] at q
    obtain ⟨rfl, rfl⟩ := q
    exact ⟨rfl, hR0⟩
theorem pair_fault (hR : RR σ) : Pair l G M_X10_fault 0 M_X11_fault 0 [] σ := by
  have hR0 := hR
  obtain ⟨r1, r2, r3, r4, r5, ⟨t1, t2, t3, t4, e0, h0⟩, r7⟩ := hR
  refine ⟨_, c_X10_fault, fun z τ q => ?_⟩
  rw [if_pos trivial] at q
  obtain ⟨rfl, rfl⟩ := q
  refine ⟨by omega, CI_mono c_X11_fault (fun z τ q => ?_)⟩
  rw [if_pos trivial, e0] at q
  obtain ⟨rfl, rfl⟩ := q
  exact ⟨rfl, hR0⟩
theorem pair_move {i f : Int} (hR : RR σ) (hi : rgi i) (hf : rgi f) : Pair l G M_X10_move 2 M_X11_move 2 [vi i, vi f] σ := by
  have hR0 := hR
  obtain ⟨r1, ⟨e1, h1, ⟨m2, m3, m4, e5, m6⟩, ok⟩, r3⟩ := hR
  have hfl : ∀ i, 0 ≤ i → i < σ 1 5 → 0 ≤ σ 5 i ∧ σ 5 i ≤ 5 := fun i a b => (ok i a b).2.2.2.1
  refine ⟨_, c_X10_move hi hf h1 hfl, fun z τ q => ?_⟩
  obtain ⟨rfl, rfl⟩ := q
  refine ⟨by
    by_cases a : 0 ≤ i ∧ i < σ 1 5
    · have := hfl i (by omega) (by omega); omega
    · omega, ?_⟩
  by_cases a : ((0 ≤ i ∧ i < σ 1 5) ∧ 0 ≤ f ∧ f ≤ 5) ∧ σ 5 i ≠ f
  · rw [if_pos a]
    refine CI_mono (c_X11_move hi hf (show 0 ≤ σ 114 1 ∧ σ 114 1 ≤ 12 by omega) (show ∀ i, 0 ≤ i → i < σ 114 1 → 0 ≤ σ 119 i ∧ σ 119 i ≤ 5 by rw [e1, e5]; exact hfl)) (fun z τ q => ?_)
    have q : z = (if ¬ ((0 ≤ i ∧ i < σ 114 1) ∧ 0 ≤ f ∧ f ≤ 5) then -1001 else if σ 119 i = f then -1003 else σ 119 i) ∧ τ = if ((0 ≤ i ∧ i < σ 114 1) ∧ 0 ≤ f ∧ f ≤ 5) ∧ σ 119 i ≠ f then upq (upq σ 5 i f) 119 i f else upq σ 5 i f := q
    rw [e1, e5, if_pos a] at q
    obtain ⟨rfl, rfl⟩ := q
    refine ⟨rfl, r1, ⟨e1, h1, ⟨m2, m3, m4, ?_, m6⟩, fun g h2 h3 => ?_⟩, r3⟩
    · show (fun b => if b = i then f else σ 119 b) = fun b => if b = i then f else σ 5 b
      rw [e5]
    · obtain ⟨w1, w2, w3, w4, w5⟩ := ok g h2 h3
      refine ⟨w1, w2, w3, ?_, w5⟩
      show 0 ≤ (if g = i then f else σ 5 g) ∧ (if g = i then f else σ 5 g) ≤ 5
      split <;> omega
  · rw [if_neg a]
    refine CI_mono (c_X11_move hi hf (by omega) (by rw [e1, e5]; exact hfl)) (fun z τ q => ?_)
    rw [e1, e5, if_neg a] at q
    obtain ⟨rfl, rfl⟩ := q
    exact ⟨rfl, hR0⟩
theorem fn_up {a b : Int → Int} {i j v : Int} (h : a = b) (hi : i = j) : (fun k => if k = i then v else a k) = fun k => if k = j then v else b k := by rw [h, hi]
theorem pair_lot {so n w h f : Int} (hR : RR σ) (hso : rgi so) (hn : rgi n) (hw : rgi w) (hh : rgi h) (hf : rgi f) : Pair l G M_X10_lot 2 M_X11_lot 2 [vi so, vi n, vi w, vi h, vi f] σ := by
  have hR0 := hR
  obtain ⟨⟨e0, h0⟩, ⟨e1, h1, ⟨m2, m3, m4, m5, m6⟩, ok⟩, r3, r4, r5, r6, r7, r8⟩ := hR
  refine ⟨_, c_X10_lot hso hn hw hh hf h1, fun z τ q => ?_⟩
  obtain ⟨rfl, rfl⟩ := q
  refine ⟨by omega, ?_⟩
  by_cases a : ((0 ≤ h ∧ h ≤ 7) ∧ 0 ≤ f ∧ f ≤ 5) ∧ ((0 ≤ so ∧ so ≤ 3) ∧ (1 ≤ n ∧ n ≤ 200) ∧ 1 ≤ w ∧ w ≤ 999) ∧ σ 1 5 < 12
  · rw [if_pos a]
    refine CI_mono (c_X11_lot hso hn hw hh hf (show 0 ≤ σ 114 1 ∧ σ 114 1 ≤ 12 by omega)) (fun z τ q => ?_)
    have q1 : z = (if ¬ ((0 ≤ h ∧ h ≤ 7) ∧ 0 ≤ f ∧ f ≤ 5) then -1001 else if ¬ ((0 ≤ so ∧ so ≤ 3) ∧ (1 ≤ n ∧ n ≤ 200) ∧ 1 ≤ w ∧ w ≤ 999) then -1002 else if 12 ≤ σ 114 1 then -1004 else σ 114 1) := q.1
    have q2 := q.2.trans (if_pos (show ((0 ≤ h ∧ h ≤ 7) ∧ 0 ≤ f ∧ f ≤ 5) ∧ ((0 ≤ so ∧ so ≤ 3) ∧ (1 ≤ n ∧ n ≤ 200) ∧ 1 ≤ w ∧ w ≤ 999) ∧ σ 114 1 < 12 by rw [e1]; exact a))
    rw [e1] at q1
    subst q1 q2
    refine ⟨rfl, ⟨e0, h0⟩, ⟨?_, show 0 ≤ σ 1 5 + 1 ∧ σ 1 5 + 1 ≤ 12 by omega, ⟨fn_up m2 e1, fn_up m3 e1, fn_up m4 e1, fn_up m5 e1, ?_⟩, fun i h2 h3 => ?_⟩, r3, r4.later (Int.le_refl _) (show σ 1 5 ≤ σ 1 5 + 1 by omega), r5, r6, r7.later (show σ 1 5 ≤ σ 1 5 + 1 by omega), r8⟩
    · show σ 114 1 + 1 = σ 1 5 + 1
      rw [e1]
    · show (fun b => if b = σ 114 1 then σ 114 0 else σ 120 b) = fun b => if b = σ 1 5 then σ 0 0 else σ 6 b
      rw [e1, e0, m6]
    · have h3 : i < σ 1 5 + 1 := h3
      show ((0 ≤ (if i = σ 1 5 then so else σ 2 i) ∧ (if i = σ 1 5 then so else σ 2 i) ≤ 3) ∧ (1 ≤ (if i = σ 1 5 then n else σ 3 i) ∧ (if i = σ 1 5 then n else σ 3 i) ≤ 200) ∧ (1 ≤ (if i = σ 1 5 then w else σ 4 i) ∧ (if i = σ 1 5 then w else σ 4 i) ≤ 999) ∧ (0 ≤ (if i = σ 1 5 then f else σ 5 i) ∧ (if i = σ 1 5 then f else σ 5 i) ≤ 5) ∧ (0 ≤ (if i = σ 1 5 then σ 0 0 else σ 6 i) ∧ (if i = σ 1 5 then σ 0 0 else σ 6 i) ≤ σ 0 0))
      by_cases e : i = σ 1 5
      · simp only [if_pos e]; omega
      · simp only [if_neg e]
        exact ok i h2 (by omega)
  · rw [if_neg a]
    refine CI_mono (c_X11_lot hso hn hw hh hf (by omega)) (fun z τ q => ?_)
    rw [e1, if_neg a] at q
    obtain ⟨rfl, rfl⟩ := q
    exact ⟨rfl, hR0⟩
theorem pair_weigh {i n w : Int} (hR : RR σ) (hi : rgi i) (hn : rgi n) (hw : rgi w) : Pair l G M_X10_weigh 1 M_X11_weigh 2 [vi i, vi n, vi w] σ := by
  have hR0 := hR
  obtain ⟨⟨e0, h0⟩, r2, r3, r4, r5, r6, ⟨e7, h7, ⟨m1, m2, m3, m4⟩, ok⟩, r8⟩ := hR
  have r2' := r2
  obtain ⟨e1, h1, -⟩ := r2
  refine ⟨_, c_X10_weigh hi hn hw h1 h7, fun z τ q => ?_⟩
  obtain ⟨rfl, rfl⟩ := q
  refine ⟨by omega, ?_⟩
  by_cases a : (0 ≤ i ∧ i < σ 1 5) ∧ ((1 ≤ n ∧ n ≤ 200) ∧ 0 ≤ w ∧ w ≤ 199999) ∧ σ 74 4 < 40
  · rw [if_pos a]
    refine CI_mono (c_X11_weigh hi hn hw (show 0 ≤ σ 114 1 ∧ σ 114 1 ≤ 12 by omega) (show 0 ≤ σ 114 54 ∧ σ 114 54 ≤ 40 by omega)) (fun z τ q => ?_)
    have q1 : z = (if ¬ (0 ≤ i ∧ i < σ 114 1) then -1001 else if ¬ ((1 ≤ n ∧ n ≤ 200) ∧ 0 ≤ w ∧ w ≤ 199999) then -1002 else if 40 ≤ σ 114 54 then -1004 else σ 114 54 + 1) := q.1
    have q2 := q.2.trans (if_pos (show (0 ≤ i ∧ i < σ 114 1) ∧ ((1 ≤ n ∧ n ≤ 200) ∧ 0 ≤ w ∧ w ≤ 199999) ∧ σ 114 54 < 40 by rw [e1, e7]; exact a))
    rw [e1, e7] at q1
    subst q1 q2
    refine ⟨rfl, ⟨e0, h0⟩, r2', r3, r4, r5, r6, ⟨?_, show 0 ≤ σ 74 4 + 1 ∧ σ 74 4 + 1 ≤ 40 by omega, ⟨fn_up m1 e7, fn_up m2 e7, fn_up m3 e7, ?_⟩, fun j h2 h3 => ?_⟩, r8⟩
    · show σ 114 54 + 1 = σ 74 4 + 1
      rw [e7]
    · show (fun b => if b = σ 114 54 then σ 114 0 else σ 158 b) = fun b => if b = σ 74 4 then σ 0 0 else σ 78 b
      rw [e7, e0, m4]
    · have h3 : j < σ 74 4 + 1 := h3
      show (0 ≤ (if j = σ 74 4 then i else σ 75 j) ∧ (if j = σ 74 4 then i else σ 75 j) < σ 1 5) ∧ (1 ≤ (if j = σ 74 4 then n else σ 76 j) ∧ (if j = σ 74 4 then n else σ 76 j) ≤ 200) ∧ (0 ≤ (if j = σ 74 4 then w else σ 77 j) ∧ (if j = σ 74 4 then w else σ 77 j) ≤ 199999) ∧ (0 ≤ (if j = σ 74 4 then σ 0 0 else σ 78 j) ∧ (if j = σ 74 4 then σ 0 0 else σ 78 j) ≤ 2000)
      by_cases e : j = σ 74 4
      · simp only [if_pos e]; omega
      · simp only [if_neg e]
        exact ok j h2 (by omega)
  · rw [if_neg a]
    refine CI_mono (c_X11_weigh hi hn hw (by omega) (by omega)) (fun z τ q => ?_)
    rw [e1, e7, if_neg a] at q
    obtain ⟨rfl, rfl⟩ := q
    exact ⟨rfl, hR0⟩
theorem pair_due {a b v : Int} (hR : RR σ) (ha : rgi a) (hb : rgi b) (hv : rgi v) : Pair l G M_X10_due 2 M_X11_due 2 [vi a, vi b, vi v] σ := by
  have hR0 := hR
  obtain ⟨r1, r2, r3, r4, r5, r6, r7, r8, r9, ⟨e1, h1, ⟨m1, m2, m3, m4⟩, ok, hc⟩, r11⟩ := hR
  refine ⟨_, c_X10_due ha hb hv h1, fun z τ q => ?_⟩
  obtain ⟨rfl, rfl⟩ := q
  refine ⟨by omega, ?_⟩
  by_cases c : ((0 ≤ a ∧ a ≤ 7) ∧ 0 ≤ b ∧ b ≤ 7) ∧ (a ≠ b ∧ 1 ≤ v ∧ v ≤ 9999) ∧ σ 96 4 < 24
  · rw [if_pos c]
    refine CI_mono (c_X11_due ha hb hv (show 0 ≤ σ 114 63 ∧ σ 114 63 ≤ 24 by omega)) (fun z τ q => ?_)
    have q1 : z = (if ¬ ((0 ≤ a ∧ a ≤ 7) ∧ 0 ≤ b ∧ b ≤ 7) then -1001 else if ¬ (a ≠ b ∧ 1 ≤ v ∧ v ≤ 9999) then -1002 else if 24 ≤ σ 114 63 then -1004 else σ 114 63 + 1) := q.1
    have q2 := q.2.trans (if_pos (show ((0 ≤ a ∧ a ≤ 7) ∧ 0 ≤ b ∧ b ≤ 7) ∧ (a ≠ b ∧ 1 ≤ v ∧ v ≤ 9999) ∧ σ 114 63 < 24 by rw [e1]; exact c))
    rw [e1] at q1
    subst q1 q2
    refine ⟨rfl, r1, r2, r3, r4, r5, r6, r7, r8, r9, ⟨?_, show 0 ≤ σ 96 4 + 1 ∧ σ 96 4 + 1 ≤ 24 by omega, ⟨fn_up m1 e1, fn_up m2 e1, fn_up m3 e1, m4⟩, fun j h2 h3 => ?_, hc⟩, r11⟩
    · show σ 114 63 + 1 = σ 96 4 + 1
      rw [e1]
    · have h3 : j < σ 96 4 + 1 := h3
      show (0 ≤ (if j = σ 96 4 then a else σ 97 j) ∧ (if j = σ 96 4 then a else σ 97 j) ≤ 7) ∧ (0 ≤ (if j = σ 96 4 then b else σ 98 j) ∧ (if j = σ 96 4 then b else σ 98 j) ≤ 7) ∧ (1 ≤ (if j = σ 96 4 then v else σ 99 j) ∧ (if j = σ 96 4 then v else σ 99 j) ≤ 9999)
      by_cases e : j = σ 96 4
      · simp only [if_pos e]; omega
      · simp only [if_neg e]
        exact ok j h2 (by omega)
  · rw [if_neg c]
    refine CI_mono (c_X11_due ha hb hv (by omega)) (fun z τ q => ?_)
    rw [e1, if_neg c] at q
    obtain ⟨rfl, rfl⟩ := q
    exact ⟨rfl, hR0⟩
theorem upaq_up {h i v h' i' : Int} (h0 : 0 ≤ h ∧ h < 8) (h1 : 0 ≤ h' ∧ h' < 8) : upaq (upq σ (80 + h.toNat) i v) h' i' = if h' = h ∧ i' = i then v else upaq σ h' i' := by
  rw [← upaq_at (σ := upq σ (80 + h.toNat) i v) h1, ← upaq_at (σ := σ) h1]
  by_cases eh : h' = h
  · subst eh
    rw [upq_eq]
    by_cases ei : i' = i
    · rw [if_pos ei, if_pos ⟨rfl, ei⟩]
    · rw [if_neg ei, if_neg (fun q => ei q.2)]
  · rw [upq_ne (by omega), if_neg (fun q => eh q.1)]
theorem pair_unpaid {h i v : Int} (hR : RR σ) (hh : rgi h) (hi : rgi i) (hv : rgi v) : Pair l G M_X10_unpaid 2 M_X11_unpaid 2 [vi h, vi i, vi v] σ := by
  have hR0 := hR
  obtain ⟨r1, r2, r3, r4, r5, r6, r7, r8, r9⟩ := hR
  have r2' := r2
  obtain ⟨e1, h1, -⟩ := r2
  have hu : (0 ≤ h ∧ h ≤ 7) ∧ 0 ≤ i ∧ i < σ 1 5 → σ 159 (8 * i + h) = σ (80 + h.toNat) i ∧ 0 ≤ σ (80 + h.toNat) i ∧ σ (80 + h.toNat) i ≤ 9999 := fun a => by
    rw [upaq_at (σ := σ) (t := h) (by omega)]
    exact r8 h i (by omega) (by omega) (by omega) (by omega)
  refine ⟨_, c_X10_unpaid hh hi hv h1, fun z τ q => ?_⟩
  obtain ⟨rfl, rfl⟩ := q
  refine ⟨by
    by_cases a : (0 ≤ h ∧ h ≤ 7) ∧ 0 ≤ i ∧ i < σ 1 5
    · have := hu a
      omega
    · omega, ?_⟩
  by_cases a : ((0 ≤ h ∧ h ≤ 7) ∧ 0 ≤ i ∧ i < σ 1 5) ∧ 0 ≤ v ∧ v ≤ 9999
  · rw [if_pos a]
    have hua := hu a.1
    have hnew : ∀ h' i' : Int, 0 ≤ h' → h' < 8 → 0 ≤ i' → i' < 12 → (if 8 * i' + h' = 8 * i + h then v else σ 159 (8 * i' + h')) = (if h' = h ∧ i' = i then v else upaq σ h' i') ∧ 0 ≤ (if h' = h ∧ i' = i then v else upaq σ h' i') ∧ (if h' = h ∧ i' = i then v else upaq σ h' i') ≤ 9999 := by
      intro h' i' a1 a2 a3 a4
      have o := r8 h' i' a1 a2 a3 a4
      by_cases eh : h' = h ∧ i' = i
      · rw [if_pos eh, if_pos (by omega)]; omega
      · rw [if_neg eh, if_neg (by omega)]; exact o
    have h8 := eight (t := h) (by omega)
    rcases h8 with rfl | rfl | rfl | rfl | rfl | rfl | rfl | rfl
    · refine CI_mono (c_X11_unpaid hh hi hv (show 0 ≤ σ 114 1 ∧ σ 114 1 ≤ 12 by omega)) (fun z τ q => ?_)
      have q1 : z = (if ¬ ((0 ≤ (0 : Int) ∧ (0 : Int) ≤ 7) ∧ 0 ≤ i ∧ i < σ 114 1) then -1001 else if ¬ (0 ≤ v ∧ v ≤ 9999) then -1002 else σ 159 (8 * i + 0)) := q.1
      have q2 := q.2.trans (if_pos (show ((0 ≤ (0 : Int) ∧ (0 : Int) ≤ 7) ∧ 0 ≤ i ∧ i < σ 114 1) ∧ 0 ≤ v ∧ v ≤ 9999 by rw [e1]; exact a))
      rw [e1, hua.1] at q1
      subst q1 q2
      refine ⟨rfl, r1, r2', r3, r4, r5, r6, r7, fun h' i' a1 a2 a3 a4 => ?_, r9⟩
      have o := hnew h' i' a1 a2 a3 a4
      have e3 : upaq (upq (upq σ (80 + (0 : Int).toNat) i v) 159 (8 * i + 0) v) h' i' = if h' = 0 ∧ i' = i then v else upaq σ h' i' := upaq_up (h := 0) (by decide) ⟨a1, a2⟩
      rw [e3]
      exact o
    · refine CI_mono (c_X11_unpaid hh hi hv (show 0 ≤ σ 114 1 ∧ σ 114 1 ≤ 12 by omega)) (fun z τ q => ?_)
      have q1 : z = (if ¬ ((0 ≤ (1 : Int) ∧ (1 : Int) ≤ 7) ∧ 0 ≤ i ∧ i < σ 114 1) then -1001 else if ¬ (0 ≤ v ∧ v ≤ 9999) then -1002 else σ 159 (8 * i + 1)) := q.1
      have q2 := q.2.trans (if_pos (show ((0 ≤ (1 : Int) ∧ (1 : Int) ≤ 7) ∧ 0 ≤ i ∧ i < σ 114 1) ∧ 0 ≤ v ∧ v ≤ 9999 by rw [e1]; exact a))
      rw [e1, hua.1] at q1
      subst q1 q2
      refine ⟨rfl, r1, r2', r3, r4, r5, r6, r7, fun h' i' a1 a2 a3 a4 => ?_, r9⟩
      have o := hnew h' i' a1 a2 a3 a4
      have e3 : upaq (upq (upq σ (80 + (1 : Int).toNat) i v) 159 (8 * i + 1) v) h' i' = if h' = 1 ∧ i' = i then v else upaq σ h' i' := upaq_up (h := 1) (by decide) ⟨a1, a2⟩
      rw [e3]
      exact o
    · refine CI_mono (c_X11_unpaid hh hi hv (show 0 ≤ σ 114 1 ∧ σ 114 1 ≤ 12 by omega)) (fun z τ q => ?_)
      have q1 : z = (if ¬ ((0 ≤ (2 : Int) ∧ (2 : Int) ≤ 7) ∧ 0 ≤ i ∧ i < σ 114 1) then -1001 else if ¬ (0 ≤ v ∧ v ≤ 9999) then -1002 else σ 159 (8 * i + 2)) := q.1
      have q2 := q.2.trans (if_pos (show ((0 ≤ (2 : Int) ∧ (2 : Int) ≤ 7) ∧ 0 ≤ i ∧ i < σ 114 1) ∧ 0 ≤ v ∧ v ≤ 9999 by rw [e1]; exact a))
      rw [e1, hua.1] at q1
      subst q1 q2
      refine ⟨rfl, r1, r2', r3, r4, r5, r6, r7, fun h' i' a1 a2 a3 a4 => ?_, r9⟩
      have o := hnew h' i' a1 a2 a3 a4
      have e3 : upaq (upq (upq σ (80 + (2 : Int).toNat) i v) 159 (8 * i + 2) v) h' i' = if h' = 2 ∧ i' = i then v else upaq σ h' i' := upaq_up (h := 2) (by decide) ⟨a1, a2⟩
      rw [e3]
      exact o
    · refine CI_mono (c_X11_unpaid hh hi hv (show 0 ≤ σ 114 1 ∧ σ 114 1 ≤ 12 by omega)) (fun z τ q => ?_)
      have q1 : z = (if ¬ ((0 ≤ (3 : Int) ∧ (3 : Int) ≤ 7) ∧ 0 ≤ i ∧ i < σ 114 1) then -1001 else if ¬ (0 ≤ v ∧ v ≤ 9999) then -1002 else σ 159 (8 * i + 3)) := q.1
      have q2 := q.2.trans (if_pos (show ((0 ≤ (3 : Int) ∧ (3 : Int) ≤ 7) ∧ 0 ≤ i ∧ i < σ 114 1) ∧ 0 ≤ v ∧ v ≤ 9999 by rw [e1]; exact a))
      rw [e1, hua.1] at q1
      subst q1 q2
      refine ⟨rfl, r1, r2', r3, r4, r5, r6, r7, fun h' i' a1 a2 a3 a4 => ?_, r9⟩
      have o := hnew h' i' a1 a2 a3 a4
      have e3 : upaq (upq (upq σ (80 + (3 : Int).toNat) i v) 159 (8 * i + 3) v) h' i' = if h' = 3 ∧ i' = i then v else upaq σ h' i' := upaq_up (h := 3) (by decide) ⟨a1, a2⟩
      rw [e3]
      exact o
    · refine CI_mono (c_X11_unpaid hh hi hv (show 0 ≤ σ 114 1 ∧ σ 114 1 ≤ 12 by omega)) (fun z τ q => ?_)
      have q1 : z = (if ¬ ((0 ≤ (4 : Int) ∧ (4 : Int) ≤ 7) ∧ 0 ≤ i ∧ i < σ 114 1) then -1001 else if ¬ (0 ≤ v ∧ v ≤ 9999) then -1002 else σ 159 (8 * i + 4)) := q.1
      have q2 := q.2.trans (if_pos (show ((0 ≤ (4 : Int) ∧ (4 : Int) ≤ 7) ∧ 0 ≤ i ∧ i < σ 114 1) ∧ 0 ≤ v ∧ v ≤ 9999 by rw [e1]; exact a))
      rw [e1, hua.1] at q1
      subst q1 q2
      refine ⟨rfl, r1, r2', r3, r4, r5, r6, r7, fun h' i' a1 a2 a3 a4 => ?_, r9⟩
      have o := hnew h' i' a1 a2 a3 a4
      have e3 : upaq (upq (upq σ (80 + (4 : Int).toNat) i v) 159 (8 * i + 4) v) h' i' = if h' = 4 ∧ i' = i then v else upaq σ h' i' := upaq_up (h := 4) (by decide) ⟨a1, a2⟩
      rw [e3]
      exact o
    · refine CI_mono (c_X11_unpaid hh hi hv (show 0 ≤ σ 114 1 ∧ σ 114 1 ≤ 12 by omega)) (fun z τ q => ?_)
      have q1 : z = (if ¬ ((0 ≤ (5 : Int) ∧ (5 : Int) ≤ 7) ∧ 0 ≤ i ∧ i < σ 114 1) then -1001 else if ¬ (0 ≤ v ∧ v ≤ 9999) then -1002 else σ 159 (8 * i + 5)) := q.1
      have q2 := q.2.trans (if_pos (show ((0 ≤ (5 : Int) ∧ (5 : Int) ≤ 7) ∧ 0 ≤ i ∧ i < σ 114 1) ∧ 0 ≤ v ∧ v ≤ 9999 by rw [e1]; exact a))
      rw [e1, hua.1] at q1
      subst q1 q2
      refine ⟨rfl, r1, r2', r3, r4, r5, r6, r7, fun h' i' a1 a2 a3 a4 => ?_, r9⟩
      have o := hnew h' i' a1 a2 a3 a4
      have e3 : upaq (upq (upq σ (80 + (5 : Int).toNat) i v) 159 (8 * i + 5) v) h' i' = if h' = 5 ∧ i' = i then v else upaq σ h' i' := upaq_up (h := 5) (by decide) ⟨a1, a2⟩
      rw [e3]
      exact o
    · refine CI_mono (c_X11_unpaid hh hi hv (show 0 ≤ σ 114 1 ∧ σ 114 1 ≤ 12 by omega)) (fun z τ q => ?_)
      have q1 : z = (if ¬ ((0 ≤ (6 : Int) ∧ (6 : Int) ≤ 7) ∧ 0 ≤ i ∧ i < σ 114 1) then -1001 else if ¬ (0 ≤ v ∧ v ≤ 9999) then -1002 else σ 159 (8 * i + 6)) := q.1
      have q2 := q.2.trans (if_pos (show ((0 ≤ (6 : Int) ∧ (6 : Int) ≤ 7) ∧ 0 ≤ i ∧ i < σ 114 1) ∧ 0 ≤ v ∧ v ≤ 9999 by rw [e1]; exact a))
      rw [e1, hua.1] at q1
      subst q1 q2
      refine ⟨rfl, r1, r2', r3, r4, r5, r6, r7, fun h' i' a1 a2 a3 a4 => ?_, r9⟩
      have o := hnew h' i' a1 a2 a3 a4
      have e3 : upaq (upq (upq σ (80 + (6 : Int).toNat) i v) 159 (8 * i + 6) v) h' i' = if h' = 6 ∧ i' = i then v else upaq σ h' i' := upaq_up (h := 6) (by decide) ⟨a1, a2⟩
      rw [e3]
      exact o
    · refine CI_mono (c_X11_unpaid hh hi hv (show 0 ≤ σ 114 1 ∧ σ 114 1 ≤ 12 by omega)) (fun z τ q => ?_)
      have q1 : z = (if ¬ ((0 ≤ (7 : Int) ∧ (7 : Int) ≤ 7) ∧ 0 ≤ i ∧ i < σ 114 1) then -1001 else if ¬ (0 ≤ v ∧ v ≤ 9999) then -1002 else σ 159 (8 * i + 7)) := q.1
      have q2 := q.2.trans (if_pos (show ((0 ≤ (7 : Int) ∧ (7 : Int) ≤ 7) ∧ 0 ≤ i ∧ i < σ 114 1) ∧ 0 ≤ v ∧ v ≤ 9999 by rw [e1]; exact a))
      rw [e1, hua.1] at q1
      subst q1 q2
      refine ⟨rfl, r1, r2', r3, r4, r5, r6, r7, fun h' i' a1 a2 a3 a4 => ?_, r9⟩
      have o := hnew h' i' a1 a2 a3 a4
      have e3 : upaq (upq (upq σ (80 + (7 : Int).toNat) i v) 159 (8 * i + 7) v) h' i' = if h' = 7 ∧ i' = i then v else upaq σ h' i' := upaq_up (h := 7) (by decide) ⟨a1, a2⟩
      rw [e3]
      exact o
  · rw [if_neg a]
    refine CI_mono (c_X11_unpaid hh hi hv (by omega)) (fun z τ q => ?_)
    rw [e1, if_neg a] at q
    obtain ⟨rfl, q2⟩ := q
    refine ⟨?_, q2 ▸ hR0⟩
    by_cases b : (0 ≤ h ∧ h ≤ 7) ∧ 0 ≤ i ∧ i < σ 1 5
    · rw [(hu b).1]
    · rw [if_pos b, if_pos b]
end
section
/-! sale, net -/
variable {l : Launch} {G : GC} {σ : Nat → Int → Int}

theorem c_X6_netOf {h so : Int} (hh : rgi h) (hso : rgi so) (hn : 0 ≤ σ 88 7 ∧ σ 88 7 ≤ 24) (ok : ∀ i, 0 ≤ i → i < σ 88 7 → (0 ≤ σ 89 i ∧ σ 89 i ≤ 7) ∧ (0 ≤ σ 90 i ∧ σ 90 i ≤ 7) ∧ (0 ≤ σ 91 i ∧ σ 91 i ≤ 3) ∧ (1 ≤ σ 92 i ∧ σ 92 i ≤ 99)) : CI l G M_X6_netOf 0 [vr 88, vi h, vi so] σ (IP (netS (σ 89) (σ 90) (σ 91) (σ 92) h so (σ 88 7).toNat) σ) := by
  refine Ct.of rfl (Nat.le_of_ble_eq_true rfl) ?_
  have loop : ∀ (k n : Nat) (s : Int), k + n = (σ 88 7).toNat → s = netS (σ 89) (σ 90) (σ 91) (σ 92) h so n → XI l G M_X6_netOf 0 5 [some (vr 88), some (vi h), some (vi so), some (vi s), some (vi n)] [] σ (IP (netS (σ 89) (σ 90) (σ 91) (σ 92) h so (σ 88 7).toNat) σ) := by
    intro k
    induction k using Nat.strongRecOn with
    | _ k ih =>
    intro n s hk hs
    refine x_iload (E_X6_netOf_0 4 rfl) rfl ?_
    refine x_aload_n (E_X6_netOf_0 5 rfl) rfl ?_
    refine x_getIe (v := σ 88 7) (E_X6_netOf_0 6 rfl) fl_X6_33 rfl (by decide) rfl ?_
    refine x_icmp_ge (E_X6_netOf_0 7 rfl) (by omega) (by omega) (fun c1 => ?_) (fun c1 => ?_)
    · refine x_iload_n (E_X6_netOf_0 46 rfl) rfl ?_
      refine z_iret (E_X6_netOf_0 47 rfl) trivial ?_
      exact ⟨by rw [hs, show n = (σ 88 7).toNat by omega], rfl⟩
    · have o9 := ok n (by omega) (by omega)
      refine x_aload_n (E_X6_netOf_0 8 rfl) rfl ?_
      refine x_getR (E_X6_netOf_0 9 rfl) fl_X6_18 rfl (by decide) rfl ?_
      refine x_iload (E_X6_netOf_0 10 rfl) rfl ?_
      refine x_ialde (f := σ 91) (E_X6_netOf_0 11 rfl) rfl (by decide) (by omega) rfl ?_
      refine x_iload_n (E_X6_netOf_0 12 rfl) rfl ?_
      refine x_icmp_ne (E_X6_netOf_0 13 rfl) (by omega) (by omega) (fun c2 => ?_) (fun c2 => ?_)
      · refine x_iinc (E_X6_netOf_0 44 rfl) rfl rfl ?_
        refine x_goto (E_X6_netOf_0 45 rfl) ?_
        refine ih (k - 1) (by omega) (n + 1) _ (by omega) ?_
        rw [hs, netS]
        simp only [*, if_true, if_false, ne_eq, not_true, not_false_eq_true] <;> omega
      · refine x_iload_n (E_X6_netOf_0 14 rfl) rfl ?_
        refine x_aload_n (E_X6_netOf_0 15 rfl) rfl ?_
        refine x_getR (E_X6_netOf_0 16 rfl) fl_X6_15 rfl (by decide) rfl ?_
        refine x_iload (E_X6_netOf_0 17 rfl) rfl ?_
        refine x_ialde (f := σ 90) (E_X6_netOf_0 18 rfl) rfl (by decide) (by omega) rfl ?_
        refine x_iload_n (E_X6_netOf_0 19 rfl) rfl ?_
        refine x_icmp_ne (E_X6_netOf_0 20 rfl) (by omega) (by omega) (fun c3 => ?_) (fun c3 => ?_)
        · refine x_iconst (E_X6_netOf_0 26 rfl) ?_
          refine x_iadd (E_X6_netOf_0 27 rfl) ?_
          refine x_istore_n (E_X6_netOf_0 28 rfl) rfl ?_
          refine x_iload_n (E_X6_netOf_0 29 rfl) rfl ?_
          refine x_aload_n (E_X6_netOf_0 30 rfl) rfl ?_
          refine x_getR (E_X6_netOf_0 31 rfl) fl_X6_11 rfl (by decide) rfl ?_
          refine x_iload (E_X6_netOf_0 32 rfl) rfl ?_
          refine x_ialde (f := σ 89) (E_X6_netOf_0 33 rfl) rfl (by decide) (by omega) rfl ?_
          refine x_iload_n (E_X6_netOf_0 34 rfl) rfl ?_
          refine x_icmp_ne (E_X6_netOf_0 35 rfl) (by omega) (by omega) (fun c4 => ?_) (fun c4 => ?_)
          · refine x_iconst (E_X6_netOf_0 41 rfl) ?_
            refine x_isub (E_X6_netOf_0 42 rfl) ?_
            refine x_istore_n (E_X6_netOf_0 43 rfl) rfl ?_
            refine x_iinc (E_X6_netOf_0 44 rfl) rfl rfl ?_
            refine x_goto (E_X6_netOf_0 45 rfl) ?_
            refine ih (k - 1) (by omega) (n + 1) _ (by omega) ?_
            rw [hs, netS]
            simp only [*, if_true, if_false, ne_eq, not_true, not_false_eq_true] <;> omega
          · refine x_aload_n (E_X6_netOf_0 36 rfl) rfl ?_
            refine x_getR (E_X6_netOf_0 37 rfl) fl_X6_21 rfl (by decide) rfl ?_
            refine x_iload (E_X6_netOf_0 38 rfl) rfl ?_
            refine x_ialde (f := σ 92) (E_X6_netOf_0 39 rfl) rfl (by decide) (by omega) rfl ?_
            refine x_goto (E_X6_netOf_0 40 rfl) ?_
            refine x_isub (E_X6_netOf_0 42 rfl) ?_
            refine x_istore_n (E_X6_netOf_0 43 rfl) rfl ?_
            refine x_iinc (E_X6_netOf_0 44 rfl) rfl rfl ?_
            refine x_goto (E_X6_netOf_0 45 rfl) ?_
            refine ih (k - 1) (by omega) (n + 1) _ (by omega) ?_
            rw [hs, netS]
            simp only [*, if_true, if_false, ne_eq, not_true, not_false_eq_true] <;> omega
        · refine x_aload_n (E_X6_netOf_0 21 rfl) rfl ?_
          refine x_getR (E_X6_netOf_0 22 rfl) fl_X6_21 rfl (by decide) rfl ?_
          refine x_iload (E_X6_netOf_0 23 rfl) rfl ?_
          refine x_ialde (f := σ 92) (E_X6_netOf_0 24 rfl) rfl (by decide) (by omega) rfl ?_
          refine x_goto (E_X6_netOf_0 25 rfl) ?_
          refine x_iadd (E_X6_netOf_0 27 rfl) ?_
          refine x_istore_n (E_X6_netOf_0 28 rfl) rfl ?_
          refine x_iload_n (E_X6_netOf_0 29 rfl) rfl ?_
          refine x_aload_n (E_X6_netOf_0 30 rfl) rfl ?_
          refine x_getR (E_X6_netOf_0 31 rfl) fl_X6_11 rfl (by decide) rfl ?_
          refine x_iload (E_X6_netOf_0 32 rfl) rfl ?_
          refine x_ialde (f := σ 89) (E_X6_netOf_0 33 rfl) rfl (by decide) (by omega) rfl ?_
          refine x_iload_n (E_X6_netOf_0 34 rfl) rfl ?_
          refine x_icmp_ne (E_X6_netOf_0 35 rfl) (by omega) (by omega) (fun c5 => ?_) (fun c5 => ?_)
          · refine x_iconst (E_X6_netOf_0 41 rfl) ?_
            refine x_isub (E_X6_netOf_0 42 rfl) ?_
            refine x_istore_n (E_X6_netOf_0 43 rfl) rfl ?_
            refine x_iinc (E_X6_netOf_0 44 rfl) rfl rfl ?_
            refine x_goto (E_X6_netOf_0 45 rfl) ?_
            refine ih (k - 1) (by omega) (n + 1) _ (by omega) ?_
            rw [hs, netS]
            simp only [*, if_true, if_false, ne_eq, not_true, not_false_eq_true] <;> omega
          · refine x_aload_n (E_X6_netOf_0 36 rfl) rfl ?_
            refine x_getR (E_X6_netOf_0 37 rfl) fl_X6_21 rfl (by decide) rfl ?_
            refine x_iload (E_X6_netOf_0 38 rfl) rfl ?_
            refine x_ialde (f := σ 92) (E_X6_netOf_0 39 rfl) rfl (by decide) (by omega) rfl ?_
            refine x_goto (E_X6_netOf_0 40 rfl) ?_
            refine x_isub (E_X6_netOf_0 42 rfl) ?_
            refine x_istore_n (E_X6_netOf_0 43 rfl) rfl ?_
            refine x_iinc (E_X6_netOf_0 44 rfl) rfl rfl ?_
            refine x_goto (E_X6_netOf_0 45 rfl) ?_
            refine ih (k - 1) (by omega) (n + 1) _ (by omega) ?_
            rw [hs, netS]
            simp only [*, if_true, if_false, ne_eq, not_true, not_false_eq_true] <;> omega
  refine x_iconst (E_X6_netOf_0 0 rfl) ?_
  refine x_istore_n (E_X6_netOf_0 1 rfl) rfl ?_
  refine x_iconst (E_X6_netOf_0 2 rfl) ?_
  refine x_istore (E_X6_netOf_0 3 rfl) rfl ?_
  exact loop (σ 88 7).toNat 0 0 (by omega) rfl

theorem c_X10_net {h so : Int} (hh : rgi h) (hso : rgi so) (h1 : 0 ≤ σ 88 7 ∧ σ 88 7 ≤ 24) (ok : ∀ i, 0 ≤ i → i < σ 88 7 → (0 ≤ σ 89 i ∧ σ 89 i ≤ 7) ∧ (0 ≤ σ 90 i ∧ σ 90 i ≤ 7) ∧ (0 ≤ σ 91 i ∧ σ 91 i ≤ 3) ∧ (1 ≤ σ 92 i ∧ σ 92 i ≤ 99)) : CI l G M_X10_net 2 [vr 0, vi h, vi so] σ (fun z τ => z = (if ¬ (0 ≤ h ∧ h ≤ 7) then -1001 else if ¬ (0 ≤ so ∧ so ≤ 3) then -1002 else netS (σ 89) (σ 90) (σ 91) (σ 92) h so (σ 88 7).toNat) ∧ σ = τ) := by
  refine Ct.of rfl (Nat.le_of_ble_eq_true rfl) ?_
  refine x_iload_n (E_X10_net_0 0 rfl) rfl ?_
  refine z_callSi (E_X10_net_0 1 rfl) ml_X10_104 ms_X10_isHouse (c_X10_isHouse (by omega)) (by decide) rfl rfl (by decide) (fun z9 τ9 h9 => ?_)
  obtain ⟨rfl, ⟨rfl, c1⟩ | ⟨rfl, c1⟩⟩ := h9
  · refine x_if_ne (E_X10_net_0 2 rfl) (by decide) (fun _ => ?_) (fun c9 => absurd c9 (by decide))
    refine x_iload_n (E_X10_net_0 5 rfl) rfl ?_
    refine z_callSi (E_X10_net_0 6 rfl) ml_X10_111 ms_X10_isSort (c_X10_isSort (by omega)) (by decide) rfl rfl (by decide) (fun z9 τ9 h9 => ?_)
    obtain ⟨rfl, ⟨rfl, c2⟩ | ⟨rfl, c2⟩⟩ := h9
    · refine x_if_eq (E_X10_net_0 7 rfl) (by decide) (fun c9 => absurd c9 (by decide)) (fun _ => ?_)
      refine x_aload_n (E_X10_net_0 8 rfl) rfl ?_
      refine x_getR (E_X10_net_0 9 rfl) fl_X10_75 rfl (by decide) rfl ?_
      refine x_iload_n (E_X10_net_0 10 rfl) rfl ?_
      refine x_iload_n (E_X10_net_0 11 rfl) rfl ?_
      refine z_callVi (E_X10_net_0 12 rfl) ml_X10_328 mv_X6_netOf rfl (by decide) (by decide) (c_X6_netOf (by omega) (by omega) h1 ok) (by decide) rfl rfl (by decide) (fun z9 τ9 h9 => ?_)
      obtain ⟨rfl, rfl⟩ := h9
      refine x_goto (E_X10_net_0 13 rfl) ?_
      refine z_iret (E_X10_net_0 15 rfl) trivial ?_
      exact ⟨(if_n (by omega) (if_n (by omega) rfl)).symm, rfl⟩
    · refine x_if_eq (E_X10_net_0 7 rfl) (by decide) (fun _ => ?_) (fun c9 => absurd (by decide) c9)
      refine x_sipush (z := (-1002)) (E_X10_net_0 14 rfl) (by decide) ?_
      refine z_iret (E_X10_net_0 15 rfl) trivial ?_
      exact ⟨(if_n (by omega) (if_p (by omega) rfl)).symm, rfl⟩
  · refine x_if_ne (E_X10_net_0 2 rfl) (by decide) (fun c9 => absurd c9 (by decide)) (fun _ => ?_)
    refine x_sipush (z := (-1001)) (E_X10_net_0 3 rfl) (by decide) ?_
    refine z_iret (E_X10_net_0 4 rfl) trivial ?_
    exact ⟨(if_p (by omega) rfl).symm, rfl⟩
end
section
/-! pairs: net, sale -/
variable {l : Launch} {G : GC} {σ : Nat → Int → Int}
theorem netS_cong {sl by9 so9 ck sl' by9' so9' ck' : Int → Int} {h so : Int} : ∀ {n : Nat}, (∀ i : Int, 0 ≤ i → i < n → sl' i = sl i ∧ by9' i = by9 i ∧ so9' i = so9 i ∧ ck' i = ck i) → netS sl' by9' so9' ck' h so n = netS sl by9 so9 ck h so n
  | 0, _ => rfl
  | n + 1, q => by
    obtain ⟨a, b, c, d⟩ := q n (by omega) (by omega)
    rw [netS, netS, netS_cong (n := n) (fun i h1 h2 => q i h1 (by omega)), a, b, c, d]
theorem netS_rg {sl by9 so9 ck : Int → Int} {h so : Int} : ∀ {n : Nat}, (∀ i : Int, 0 ≤ i → i < n → 1 ≤ ck i ∧ ck i ≤ 99) → -(99 * (n : Int)) ≤ netS sl by9 so9 ck h so n ∧ netS sl by9 so9 ck h so n ≤ 99 * (n : Int)
  | 0, _ => by simp [netS]
  | n + 1, q => by
    have a := netS_rg (sl := sl) (by9 := by9) (so9 := so9) (h := h) (so := so) (n := n) (fun i h1 h2 => q i h1 (by omega))
    have b := q n (by omega) (by omega)
    rw [netS]
    repeat' split <;> omega
theorem pair_net {h so : Int} (hR : RR σ) (hh : rgi h) (hso : rgi so) : Pair l G M_X10_net 2 M_X11_net 2 [vi h, vi so] σ := by
  have hR0 := hR
  obtain ⟨r1, r2, r3, r4, r5, r6, r7, r8, ⟨e1, h1, ok, hm⟩, r10⟩ := hR
  refine ⟨_, c_X10_net hh hso h1 ok, fun z τ q => ?_⟩
  obtain ⟨rfl, q2⟩ := q
  subst q2
  have hrg := netS_rg (sl := σ 89) (by9 := σ 90) (so9 := σ 91) (ck := σ 92) (h := h) (so := so) (n := (σ 88 7).toNat) (fun i a b => (ok i a (by omega)).2.2.2)
  refine ⟨by omega, CI_mono (c_X11_net hh hso) (fun z τ q => ?_)⟩
  obtain ⟨rfl, q2⟩ := q
  subst q2
  refine ⟨?_, hR0⟩
  by_cases a : (0 ≤ h ∧ h ≤ 7) ∧ 0 ≤ so ∧ so ≤ 3
  · rw [hm h so (by omega) (by omega) (by omega) (by omega)]
  · generalize netS (σ 89) (σ 90) (σ 91) (σ 92) h so (σ 88 7).toNat = A at hrg ⊢
    generalize σ 160 (8 * so + h) = B
    omega
theorem pair_sale {a b so n : Int} (hR : RR σ) (ha : rgi a) (hb : rgi b) (hso : rgi so) (hn : rgi n) : Pair l G M_X10_sale 2 M_X11_sale 2 [vi a, vi b, vi so, vi n] σ := by
  have hR0 := hR
  obtain ⟨r1, r2, r3, r4, r5, r6, r7, r8, ⟨e1, h1, ok, hm⟩, r10⟩ := hR
  refine ⟨_, c_X10_sale ha hb hso hn h1, fun z τ q => ?_⟩
  obtain ⟨rfl, rfl⟩ := q
  refine ⟨by omega, ?_⟩
  by_cases c : ((0 ≤ a ∧ a ≤ 7) ∧ 0 ≤ b ∧ b ≤ 7) ∧ (a ≠ b ∧ (0 ≤ so ∧ so ≤ 3) ∧ 1 ≤ n ∧ n ≤ 99) ∧ σ 88 7 < 24
  · rw [if_pos c]
    refine CI_mono (c_X11_sale ha hb hso hn (show 0 ≤ σ 114 60 ∧ σ 114 60 ≤ 24 by omega)) (fun z τ q => ?_)
    have q1 : z = (if ¬ ((0 ≤ a ∧ a ≤ 7) ∧ 0 ≤ b ∧ b ≤ 7) then -1001 else if ¬ (a ≠ b ∧ (0 ≤ so ∧ so ≤ 3) ∧ 1 ≤ n ∧ n ≤ 99) then -1002 else if 24 ≤ σ 114 60 then -1004 else σ 114 60 + 1) := q.1
    have q2 := q.2.trans (if_pos (show ((0 ≤ a ∧ a ≤ 7) ∧ 0 ≤ b ∧ b ≤ 7) ∧ (a ≠ b ∧ (0 ≤ so ∧ so ≤ 3) ∧ 1 ≤ n ∧ n ≤ 99) ∧ σ 114 60 < 24 by rw [e1]; exact c))
    rw [e1] at q1
    subst q1 q2
    refine ⟨rfl, r1, r2, r3, r4, r5, r6, r7, r8, ⟨?_, show 0 ≤ σ 88 7 + 1 ∧ σ 88 7 + 1 ≤ 24 by omega, fun j h2 h3 => ?_, fun h s9 a1 a2 a3 a4 => ?_⟩, r10⟩
    · show σ 114 60 + 1 = σ 88 7 + 1
      rw [e1]
    · have h3 : j < σ 88 7 + 1 := h3
      show (0 ≤ (if j = σ 88 7 then a else σ 89 j) ∧ (if j = σ 88 7 then a else σ 89 j) ≤ 7) ∧ (0 ≤ (if j = σ 88 7 then b else σ 90 j) ∧ (if j = σ 88 7 then b else σ 90 j) ≤ 7) ∧ (0 ≤ (if j = σ 88 7 then so else σ 91 j) ∧ (if j = σ 88 7 then so else σ 91 j) ≤ 3) ∧ (1 ≤ (if j = σ 88 7 then n else σ 92 j) ∧ (if j = σ 88 7 then n else σ 92 j) ≤ 99)
      by_cases e : j = σ 88 7
      · simp only [if_pos e]; omega
      · simp only [if_neg e]
        exact ok j h2 (by omega)
    · have o := hm h s9 a1 a2 a3 a4
      have key : netS (fun k => if k = σ 88 7 then a else σ 89 k) (fun k => if k = σ 88 7 then b else σ 90 k) (fun k => if k = σ 88 7 then so else σ 91 k) (fun k => if k = σ 88 7 then n else σ 92 k) h s9 (σ 88 7 + 1).toNat = netS (σ 89) (σ 90) (σ 91) (σ 92) h s9 (σ 88 7).toNat + (if so = s9 then (if b = h then n else 0) - (if a = h then n else 0) else 0) := by
        rw [show (σ 88 7 + 1).toNat = (σ 88 7).toNat + 1 by omega, netS, netS_cong (sl := σ 89) (by9 := σ 90) (so9 := σ 91) (ck := σ 92) (fun i h2 h3 => ?_)]
        · have e2 : ((σ 88 7).toNat : Int) = σ 88 7 := by omega
          simp only [e2, if_true]
        · have : ¬ i = σ 88 7 := by omega
          simp only [if_neg this]
          exact ⟨trivial, trivial, trivial, trivial⟩
      show (if 8 * s9 + h = 8 * so + b then (if 8 * so + b = 8 * so + a then σ 160 (8 * so + a) - n else σ 160 (8 * so + b)) + n else if 8 * s9 + h = 8 * so + a then σ 160 (8 * so + a) - n else σ 160 (8 * s9 + h)) = _
      refine Eq.trans ?_ key.symm
      rw [← o]
      by_cases es : so = s9
      · subst es
        by_cases eb : b = h
        · subst eb
          have n1 : ¬ 8 * so + b = 8 * so + a := by omega
          have n2 : ¬ a = b := by omega
          simp only [if_true, if_neg n1, if_neg n2]; omega
        · by_cases ea : a = h
          · subst ea
            have n1 : ¬ 8 * so + a = 8 * so + b := by omega
            simp only [if_true, if_neg n1, if_neg eb]; omega
          · have n1 : ¬ 8 * so + h = 8 * so + b := by omega
            have n2 : ¬ 8 * so + h = 8 * so + a := by omega
            simp only [if_true, if_neg n1, if_neg n2, if_neg ea, if_neg eb]; omega
      · have n1 : ¬ 8 * s9 + h = 8 * so + b := by omega
        have n2 : ¬ 8 * s9 + h = 8 * so + a := by omega
        simp only [if_neg n1, if_neg n2, if_neg es]; omega
  · rw [if_neg c]
    refine CI_mono (c_X11_sale ha hb hso hn (by omega)) (fun z τ q => ?_)
    rw [e1, if_neg c] at q
    obtain ⟨rfl, rfl⟩ := q
    exact ⟨rfl, hR0⟩
end
section
/-! bits of small numbers -/
theorem b_ofn (n : Nat) : Int32.ofInt (n : Int) = nI n := by unfold nI; exact Int32.ofInt_eq_ofNat
theorem bb_and (a b : Nat) : nI a &&& nI b = nI (a &&& b) := by
  apply Int32.toBitVec_inj.1
  show BitVec.ofNat 32 a &&& BitVec.ofNat 32 b = BitVec.ofNat 32 (a &&& b)
  apply BitVec.eq_of_getLsbD_eq
  intro i hi
  simp [hi]
theorem bb_or (a b : Nat) : nI a ||| nI b = nI (a ||| b) := by
  apply Int32.toBitVec_inj.1
  show BitVec.ofNat 32 a ||| BitVec.ofNat 32 b = BitVec.ofNat 32 (a ||| b)
  apply BitVec.eq_of_getLsbD_eq
  intro i hi
  simp [hi]
theorem bb_xor (a b : Nat) : nI a ^^^ nI b = nI (a ^^^ b) := by
  apply Int32.toBitVec_inj.1
  show BitVec.ofNat 32 a ^^^ BitVec.ofNat 32 b = BitVec.ofNat 32 (a ^^^ b)
  apply BitVec.eq_of_getLsbD_eq
  intro i hi
  simp [hi]
theorem bAnd_n {a b : Nat} (h : a &&& b < 2 ^ 31) : bAnd a b = ((a &&& b : Nat) : Int) := by
  unfold bAnd
  rw [b_ofn, b_ofn, bb_and, nI_toInt h]
theorem bOr_n {a b : Nat} (h : a ||| b < 2 ^ 31) : bOr a b = ((a ||| b : Nat) : Int) := by
  unfold bOr
  rw [b_ofn, b_ofn, bb_or, nI_toInt h]
theorem bXor_n {a b : Nat} (h : a ^^^ b < 2 ^ 31) : bXor a b = ((a ^^^ b : Nat) : Int) := by
  unfold bXor
  rw [b_ofn, b_ofn, bb_xor, nI_toInt h]
theorem bs_l : ∀ n, n < 32 → ((nI n &&& 31).toBitVec.smod 32).toNat = n := by decide +kernel
theorem bs_u : ∀ n, n < 32 → (((nI n).toUInt32 &&& Int32.toUInt32 31).toBitVec % 32).toNat = n := by decide +kernel
theorem bShl_n {a k : Nat} (hk : k < 32) (h : a * 2 ^ k < 2 ^ 31) : bShl a k = ((a * 2 ^ k : Nat) : Int) := by
  unfold bShl
  rw [b_ofn, b_ofn, pk_shlN _ k (bs_l k hk) (by omega), nI_toInt h]
theorem bShr_n {a k : Nat} (ha : a < 2 ^ 31) (hk : k < 32) : bShr a k = ((a / 2 ^ k : Nat) : Int) := by
  unfold bShr
  rw [b_ofn, b_ofn, pk_shrN ha _ k (bs_l k hk), nI_toInt (Nat.lt_of_le_of_lt (Nat.div_le_self _ _) ha)]
theorem bUsh_n {a k : Nat} (ha : a < 2 ^ 31) (hk : k < 32) : bUsh a k = ((a / 2 ^ k : Nat) : Int) := by
  unfold bUsh
  rw [b_ofn, b_ofn, pk_ushrN (by omega) _ k (bs_u k hk), nI_toInt (Nat.lt_of_le_of_lt (Nat.div_le_self _ _) ha)]
/-- the same over Int -/
theorem bShr_i {x k : Int} (hx : 0 ≤ x ∧ x < 2147483648) (hk : 0 ≤ k ∧ k < 32) : bShr x k = x / 2 ^ k.toNat := by
  obtain ⟨a, rfl⟩ : ∃ a : Nat, x = a := ⟨x.toNat, by omega⟩
  obtain ⟨b, rfl⟩ : ∃ b : Nat, k = b := ⟨k.toNat, by omega⟩
  rw [bShr_n (by omega) (by omega)]
  simp
theorem bAnd_1 {x : Int} (hx : 0 ≤ x ∧ x < 2147483648) : bAnd x 1 = x % 2 := by
  obtain ⟨a, rfl⟩ : ∃ a : Nat, x = a := ⟨x.toNat, by omega⟩
  have h : a &&& 1 = a % 2 := Nat.and_two_pow_sub_one_eq_mod a 1
  have := bAnd_n (a := a) (b := 1) (by omega)
  rw [h] at this
  rw [show (1 : Int) = ((1 : Nat) : Int) from rfl, this]
  omega
theorem bAnd_7 {x : Int} (hx : 0 ≤ x ∧ x < 2147483648) : bAnd x 7 = x % 8 := by
  obtain ⟨a, rfl⟩ : ∃ a : Nat, x = a := ⟨x.toNat, by omega⟩
  have h : a &&& 7 = a % 8 := Nat.and_two_pow_sub_one_eq_mod a 3
  have := bAnd_n (a := a) (b := 7) (by omega)
  rw [h] at this
  rw [show (7 : Int) = ((7 : Nat) : Int) from rfl, this]
  omega
theorem bAnd_3 {x : Int} (hx : 0 ≤ x ∧ x < 2147483648) : bAnd x 3 = x % 4 := by
  obtain ⟨a, rfl⟩ : ∃ a : Nat, x = a := ⟨x.toNat, by omega⟩
  have h : a &&& 3 = a % 4 := Nat.and_two_pow_sub_one_eq_mod a 2
  have := bAnd_n (a := a) (b := 3) (by omega)
  rw [h] at this
  rw [show (3 : Int) = ((3 : Nat) : Int) from rfl, this]
  omega
theorem b_bvn (x : Int) : (Int32.ofInt x).toBitVec.toNat = (x % 4294967296).toNat := by
  show (BitVec.ofInt 32 x).toNat = _
  rw [BitVec.toNat_ofInt]
  rfl
/-- a mask of k ones over any number -/
theorem bAnd_m (x : Int) {m : Int} (k : Nat) (hk : k ≤ 30) (hm : (Int32.ofInt m).toBitVec.toNat = 2 ^ k - 1) : bAnd x m = x % 2 ^ k := by
  unfold bAnd
  rw [pk_and _ k hm, nI_toInt (Nat.lt_of_lt_of_le (Nat.mod_lt _ (Nat.two_pow_pos k)) (Nat.pow_le_pow_right (by decide) (by omega))), b_bvn]
  have h0 : 0 ≤ x % 4294967296 := Int.emod_nonneg _ (by decide)
  have e : ((((x % 4294967296).toNat % 2 ^ k : Nat)) : Int) = (x % 4294967296) % 2 ^ k := by
    rw [Int.natCast_emod, Int.toNat_of_nonneg h0]
    simp
  rw [e, Int.emod_emod_of_dvd]
  exact ⟨2 ^ (32 - k), by rw [← Int.pow_add]; have : k + (32 - k) = 32 := by omega
                          rw [this]; rfl⟩
theorem bAnd_255 (x : Int) : bAnd x 255 = x % 256 := bAnd_m x 8 (by decide) (by decide)
theorem bAnd_31 (x : Int) : bAnd x 31 = x % 32 := bAnd_m x 5 (by decide) (by decide)
/-! longs -/
theorem bl_bvn (x : Int) : (Int64.ofInt x).toBitVec.toNat = (x % 18446744073709551616).toNat := by
  show (BitVec.ofInt 64 x).toNat = _
  rw [BitVec.toNat_ofInt]
  rfl
theorem bl_cu : ∀ k, k < 64 → ((nI k).toInt64.toUInt64 &&& Int64.toUInt64 63) = UInt64.ofNat k := by decide +kernel
theorem bl_c : ∀ k, k < 64 → ((nI k).toInt64 &&& 63).toBitVec = BitVec.ofNat 64 k := by decide +kernel
theorem bl_sm : ∀ k, k < 64 → (BitVec.ofNat 64 k).smod 64 = BitVec.ofNat 64 k := by decide +kernel
/-- the low 32 bits as an int, then the low byte -/
theorem l2i_255 (x : Int) : bAnd (l2iq x) 255 = x % 256 := by
  rw [bAnd_255]
  unfold l2iq
  rw [Int64.toInt32_ofInt, Int32.toInt_ofInt]
  have q : (Int32.size : Int) = 4294967296 := rfl
  unfold Int.bmod
  rw [q]
  dsimp only
  split <;> omega
theorem l2i_s {x : Int} (h : 0 ≤ x ∧ x < 2147483648) : l2iq x = x := by
  unfold l2iq
  rw [Int64.toInt32_ofInt, o32 (by omega)]
/-- byte k of a long: unsigned shift, in the class -/
theorem byte_u {x : Int} {k : Nat} (hx : rgl x) (hk : k < 8) : bAnd (l2iq (lUsh x (8 * (k : Int)))) 255 = x / 2 ^ (8 * k) % 256 := by
  rw [l2i_255]
  unfold lUsh
  rw [show (8 * (k : Int)) = ((8 * k : Nat) : Int) by omega, b_ofn, bl_cu _ (by omega)]
  have h1 : ((Int64.ofInt x).toUInt64 >>> UInt64.ofNat (8 * k)).toInt64.toBitVec.toNat = (x % 18446744073709551616).toNat / 2 ^ (8 * k) := by
    show ((Int64.ofInt x).toUInt64 >>> UInt64.ofNat (8 * k)).toNat = _
    rw [UInt64.toNat_shiftRight]
    have h2 : (UInt64.ofNat (8 * k)).toNat = 8 * k := by
      show (BitVec.ofNat 64 (8 * k)).toNat = _
      rw [BitVec.toNat_ofNat, Nat.mod_eq_of_lt (by omega)]
    have h3 : (Int64.ofInt x).toUInt64.toNat = (x % 18446744073709551616).toNat := bl_bvn x
    rw [h2, h3, Nat.mod_eq_of_lt (by omega), Nat.shiftRight_eq_div_pow]
  generalize ((Int64.ofInt x).toUInt64 >>> UInt64.ofNat (8 * k)).toInt64 = y at h1 ⊢
  have h4 : y.toInt % 256 = (y.toBitVec.toNat : Int) % 256 := by
    show y.toBitVec.toInt % 256 = _
    rw [BitVec.toInt_eq_toNat_cond]
    split <;> omega
  rw [h4, h1]
  have h5 : 0 ≤ x % 18446744073709551616 := Int.emod_nonneg _ (by decide)
  rw [Int.natCast_ediv, Int.toNat_of_nonneg h5]
  have h8 : k = 0 ∨ k = 1 ∨ k = 2 ∨ k = 3 ∨ k = 4 ∨ k = 5 ∨ k = 6 ∨ k = 7 := by omega
  clear h1 h4
  rcases h8 with rfl | rfl | rfl | rfl | rfl | rfl | rfl | rfl
  · rw [show ((2 ^ (8 * 0) : Nat) : Int) = 1 by decide, show (2 : Int) ^ (8 * 0) = 1 by decide]
    omega
  · rw [show ((2 ^ (8 * 1) : Nat) : Int) = 256 by decide, show (2 : Int) ^ (8 * 1) = 256 by decide]
    omega
  · rw [show ((2 ^ (8 * 2) : Nat) : Int) = 65536 by decide, show (2 : Int) ^ (8 * 2) = 65536 by decide]
    omega
  · rw [show ((2 ^ (8 * 3) : Nat) : Int) = 16777216 by decide, show (2 : Int) ^ (8 * 3) = 16777216 by decide]
    omega
  · rw [show ((2 ^ (8 * 4) : Nat) : Int) = 4294967296 by decide, show (2 : Int) ^ (8 * 4) = 4294967296 by decide]
    omega
  · rw [show ((2 ^ (8 * 5) : Nat) : Int) = 1099511627776 by decide, show (2 : Int) ^ (8 * 5) = 1099511627776 by decide]
    omega
  · rw [show ((2 ^ (8 * 6) : Nat) : Int) = 281474976710656 by decide, show (2 : Int) ^ (8 * 6) = 281474976710656 by decide]
    omega
  · rw [show ((2 ^ (8 * 7) : Nat) : Int) = 72057594037927936 by decide, show (2 : Int) ^ (8 * 7) = 72057594037927936 by decide]
    omega
theorem lAnd_255 (x : Int) : lAnd x 255 = x % 256 := by
  unfold lAnd
  have h1 : (Int64.ofInt x &&& Int64.ofInt 255).toBitVec.toNat = (x % 18446744073709551616).toNat % 256 := by
    show ((Int64.ofInt x).toBitVec &&& (Int64.ofInt 255).toBitVec).toNat = _
    rw [BitVec.toNat_and, bl_bvn]
    exact Nat.and_two_pow_sub_one_eq_mod _ 8
  generalize (Int64.ofInt x &&& Int64.ofInt 255) = y at h1 ⊢
  show y.toBitVec.toInt = _
  rw [BitVec.toInt_eq_toNat_cond, h1]
  have h5 : 0 ≤ x % 18446744073709551616 := Int.emod_nonneg _ (by decide)
  split <;> omega
theorem lShr_n {x : Int} {k : Nat} (hx : rgl x) (hk : k < 64) : lShr x k = x / 2 ^ k := by
  unfold lShr
  rw [b_ofn]
  show ((Int64.ofInt x >>> ((nI k).toInt64 &&& 63)).toBitVec).toInt = _
  rw [Int64.toBitVec_shiftRight, bl_c k hk, bl_sm k hk]
  show ((Int64.ofInt x).toBitVec.sshiftRight (BitVec.ofNat 64 k).toNat).toInt = _
  rw [BitVec.toInt_sshiftRight, BitVec.toNat_ofNat, Nat.mod_eq_of_lt (by omega), Int.shiftRight_eq_div_pow]
  rw [show (Int64.ofInt x).toBitVec.toInt = x from o64 hx]
  simp
theorem byte_s {x : Int} {k : Nat} (hx : rgl x) (hk : k < 8) : l2iq (lAnd (lShr x (8 * (k : Int))) 255) = x / 2 ^ (8 * k) % 256 := by
  rw [show (8 * (k : Int)) = ((8 * k : Nat) : Int) by omega, lShr_n hx (by omega), lAnd_255]
  exact l2i_s (by omega)
end
