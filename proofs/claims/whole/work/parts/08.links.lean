theorem nthq_mem {α : Type} : ∀ {l : List α} {i : Nat} {a : α}, nthq l i = some a → a ∈ l
  | [], i, a, h => by cases h
  | b :: l, 0, a, h => by cases h; exact List.mem_cons_self
  | b :: l, i + 1, a, h => List.mem_cons_of_mem _ (nthq_mem (l := l) (i := i) h)
theorem tbT {w : Cond} (h : w ∈ tables_1) (hg : goodWord w = true) : w ∈ tbG := List.mem_filter.mpr ⟨List.mem_append_right _ h, hg⟩
theorem tb1 (i : Nat) {w : Cond} (hi : nthq tables_1_1 i = some w) (hg : goodWord w = true) : w ∈ tbG := by
  have h := nthq_mem hi
  exact tbT (List.mem_append_left _ (h)) hg
theorem tb2 (i : Nat) {w : Cond} (hi : nthq tables_1_2 i = some w) (hg : goodWord w = true) : w ∈ tbG := by
  have h := nthq_mem hi
  exact tbT (List.mem_append_right _ (List.mem_append_left _ (h))) hg
theorem tb3 (i : Nat) {w : Cond} (hi : nthq tables_1_3 i = some w) (hg : goodWord w = true) : w ∈ tbG := by
  have h := nthq_mem hi
  exact tbT (List.mem_append_right _ (List.mem_append_right _ (List.mem_append_left _ (h)))) hg
theorem tb4 (i : Nat) {w : Cond} (hi : nthq tables_1_4 i = some w) (hg : goodWord w = true) : w ∈ tbG := by
  have h := nthq_mem hi
  exact tbT (List.mem_append_right _ (List.mem_append_right _ (List.mem_append_right _ (List.mem_append_left _ (h))))) hg
theorem tb5 (i : Nat) {w : Cond} (hi : nthq tables_1_5 i = some w) (hg : goodWord w = true) : w ∈ tbG := by
  have h := nthq_mem hi
  exact tbT (List.mem_append_right _ (List.mem_append_right _ (List.mem_append_right _ (List.mem_append_right _ (List.mem_append_left _ (h)))))) hg
theorem tb6 (i : Nat) {w : Cond} (hi : nthq tables_1_6 i = some w) (hg : goodWord w = true) : w ∈ tbG := by
  have h := nthq_mem hi
  exact tbT (List.mem_append_right _ (List.mem_append_right _ (List.mem_append_right _ (List.mem_append_right _ (List.mem_append_right _ (List.mem_append_left _ (h))))))) hg
theorem tb7 (i : Nat) {w : Cond} (hi : nthq tables_1_7 i = some w) (hg : goodWord w = true) : w ∈ tbG := by
  have h := nthq_mem hi
  exact tbT (List.mem_append_right _ (List.mem_append_right _ (List.mem_append_right _ (List.mem_append_right _ (List.mem_append_right _ (List.mem_append_right _ (h))))))) hg
theorem tbP {q : MethodName × Nat} (h : q ∈ lw_privs) : Cond.selects q.1.cls q.1 q.1 ∈ tbG := List.mem_filter.mpr ⟨List.mem_append_left _ (List.mem_map.mpr ⟨q, h, rfl⟩), rfl⟩
abbrev M_X0_init : MI := (⟨RX0, "<init>", "()V"⟩, prog_2_method_1_code, 1, none)
abbrev M_X0_find : MI := (⟨RX0, "find", "(LWharfPapers$Story;II)V"⟩, prog_2_method_2_code, 7, none)
abbrev M_X0_isOf : MI := (⟨RX0, "isOf", "(LWharfPapers$Story;II)Z"⟩, prog_2_method_3_code, 4, some .boolean)
abbrev M_X0_fewest : MI := (⟨RX0, "fewest", "(I)I"⟩, prog_2_method_4_code, 6, some .int)
abbrev M_X0_at : MI := (⟨RX0, "at", "(I)I"⟩, prog_2_method_5_code, 2, some .int)
abbrev M_X1_init : MI := (⟨RX1, "<init>", "()V"⟩, prog_3_method_1_code, 1, none)
abbrev M_X1_add : MI := (⟨RX1, "add", "(III)I"⟩, prog_3_method_2_code, 4, some .int)
abbrev M_X1_settle : MI := (⟨RX1, "settle", "()V"⟩, prog_3_method_3_code, 3, none)
abbrev M_X1_begin : MI := (⟨RX1, "begin", "()V"⟩, prog_3_method_4_code, 2, none)
abbrev M_X1_isRoundChanging : MI := (⟨RX1, "isRoundChanging", "()Z"⟩, prog_3_method_5_code, 4, some .boolean)
abbrev M_X1_partOf : MI := (⟨RX1, "partOf", "(II)I"⟩, prog_3_method_6_code, 3, some .int)
abbrev M_X1_isShort : MI := (⟨RX1, "isShort", "(I)Z"⟩, prog_3_method_7_code, 2, some .boolean)
abbrev M_X1_receive : MI := (⟨RX1, "receive", "()V"⟩, prog_3_method_8_code, 2, none)
abbrev M_X1_givenBy : MI := (⟨RX1, "givenBy", "(I)I"⟩, prog_3_method_9_code, 4, some .int)
abbrev M_X1_shortCount : MI := (⟨RX1, "shortCount", "()I"⟩, prog_3_method_10_code, 3, some .int)
abbrev M_X2_init : MI := (⟨RX2, "<init>", "()V"⟩, prog_4_method_1_code, 1, none)
abbrev M_X2_has : MI := (⟨RX2, "has", "(I)Z"⟩, prog_4_method_2_code, 2, some .boolean)
abbrev M_X2_isPaper : MI := (⟨RX2, "isPaper", "(I)Z"⟩, prog_4_method_3_code, 2, some .boolean)
abbrev M_X2_add : MI := (⟨RX2, "add", "(IIIIIII)I"⟩, prog_4_method_4_code, 10, some .int)
abbrev M_X2_know : MI := (⟨RX2, "know", "(I)V"⟩, prog_4_method_5_code, 3, none)
abbrev M_X2_isInBook : MI := (⟨RX2, "isInBook", "(I)Z"⟩, prog_4_method_6_code, 2, some .boolean)
abbrev M_X2_inBookAt : MI := (⟨RX2, "inBookAt", "(I)I"⟩, prog_4_method_7_code, 4, some .int)
abbrev M_X2_voidCount : MI := (⟨RX2, "voidCount", "()I"⟩, prog_4_method_8_code, 3, some .int)
abbrev M_X3_init : MI := (⟨RX3, "<init>", "()V"⟩, prog_5_method_1_code, 1, none)
abbrev M_X3_has : MI := (⟨RX3, "has", "(I)Z"⟩, prog_5_method_2_code, 2, some .boolean)
abbrev M_X3_add : MI := (⟨RX3, "add", "(IIIII)I"⟩, prog_5_method_3_code, 7, some .int)
abbrev M_X4_init : MI := (⟨RX4, "<init>", "()V"⟩, prog_6_method_1_code, 1, none)
abbrev M_X4_lay : MI := (⟨RX4, "lay", "(ILWharfPapers$Lots;LWharfPapers$Story;[I[I)V"⟩, prog_6_method_2_code, 11, none)
abbrev M_X4_choose : MI := (⟨RX4, "choose", "(II)V"⟩, prog_6_method_3_code, 4, none)
abbrev M_X4_gather : MI := (⟨RX4, "gather", "(LWharfPapers$Lots;LWharfPapers$Story;)V"⟩, prog_6_method_4_code, 6, none)
abbrev M_X4_priceOn : MI := (⟨RX4, "priceOn", "(ILWharfPapers$Lots;LWharfPapers$Story;)V"⟩, prog_6_method_5_code, 9, none)
abbrev M_X4_shut : MI := (⟨RX4, "shut", "(II[I)V"⟩, prog_6_method_6_code, 5, none)
abbrev M_X4_isParted : MI := (⟨RX4, "isParted", "(II[I)Z"⟩, prog_6_method_7_code, 5, some .boolean)
abbrev M_X4_openFloor : MI := (⟨RX4, "openFloor", "()V"⟩, prog_6_method_8_code, 4, none)
abbrev M_X4_isFound : MI := (⟨RX4, "isFound", "()Z"⟩, prog_6_method_9_code, 1, some .boolean)
abbrev M_X4_moved : MI := (⟨RX4, "moved", "()I"⟩, prog_6_method_10_code, 1, some .int)
abbrev M_X4_floorOf : MI := (⟨RX4, "floorOf", "(I)I"⟩, prog_6_method_11_code, 2, some .int)
abbrev M_X5_init : MI := (⟨RX5, "<init>", "()V"⟩, prog_7_method_1_code, 1, none)
abbrev M_X5_add : MI := (⟨RX5, "add", "(I)V"⟩, prog_7_method_2_code, 2, none)
abbrev M_X5_read : MI := (⟨RX5, "read", "(I)V"⟩, prog_7_method_3_code, 3, none)
abbrev M_X5_readClause : MI := (⟨RX5, "readClause", "(I)V"⟩, prog_7_method_4_code, 3, none)
abbrev M_X5_readLet : MI := (⟨RX5, "readLet", "()V"⟩, prog_7_method_5_code, 2, none)
abbrev M_X5_readDry : MI := (⟨RX5, "readDry", "()V"⟩, prog_7_method_6_code, 2, none)
abbrev M_X5_takeTerm : MI := (⟨RX5, "takeTerm", "(I)I"⟩, prog_7_method_7_code, 3, some .int)
abbrev M_X5_takeKeys : MI := (⟨RX5, "takeKeys", "()I"⟩, prog_7_method_8_code, 6, some .int)
abbrev M_X5_keep : MI := (⟨RX5, "keep", "(II)V"⟩, prog_7_method_9_code, 3, none)
abbrev M_X5_takeIf : MI := (⟨RX5, "takeIf", "(C)Z"⟩, prog_7_method_10_code, 2, some .boolean)
abbrev M_X5_takeWord : MI := (⟨RX5, "takeWord", "(II)I"⟩, prog_7_method_11_code, 5, some .int)
abbrev M_X5_isSpelled : MI := (⟨RX5, "isSpelled", "(Ljava/lang/String;I)Z"⟩, prog_7_method_12_code, 4, some .boolean)
abbrev M_X5_takeNumber : MI := (⟨RX5, "takeNumber", "(I)I"⟩, prog_7_method_13_code, 4, some .int)
abbrev M_X5_skipBlanks : MI := (⟨RX5, "skipBlanks", "()V"⟩, prog_7_method_14_code, 1, none)
abbrev M_X5_fail : MI := (⟨RX5, "fail", "(II)V"⟩, prog_7_method_15_code, 3, none)
abbrev M_X5_spelling : MI := (⟨RX5, "spelling", "(I)Ljava/lang/String;"⟩, prog_7_method_16_code, 1, some (.object "java/lang/String"))
abbrev M_X6_init : MI := (⟨RX6, "<init>", "()V"⟩, prog_8_method_1_code, 1, none)
abbrev M_X6_add : MI := (⟨RX6, "add", "(IIII)I"⟩, prog_8_method_2_code, 5, some .int)
abbrev M_X6_netOf : MI := (⟨RX6, "netOf", "(II)I"⟩, prog_8_method_3_code, 5, some .int)
abbrev M_X6_fewestHandings : MI := (⟨RX6, "fewestHandings", "(I)I"⟩, prog_8_method_4_code, 5, some .int)
abbrev M_X6_mostGroups : MI := (⟨RX6, "mostGroups", "(I)I"⟩, prog_8_method_5_code, 7, some .int)
abbrev M_X7_init : MI := (⟨RX7, "<init>", "(LWharfPapers$Lots;LWharfPapers$Lines;LWharfPapers$Terms;)V"⟩, prog_9_method_1_code, 4, none)
abbrev M_X7_tell : MI := (⟨RX7, "tell", "(II)V"⟩, prog_9_method_2_code, 5, none)
abbrev M_X7_clear : MI := (⟨RX7, "clear", "()V"⟩, prog_9_method_3_code, 2, none)
abbrev M_X7_isDone : MI := (⟨RX7, "isDone", "(I)Z"⟩, prog_9_method_4_code, 5, some .boolean)
abbrev M_X7_issue : MI := (⟨RX7, "issue", "(II)Z"⟩, prog_9_method_5_code, 3, some .boolean)
abbrev M_X7_make : MI := (⟨RX7, "make", "(IIIII)V"⟩, prog_9_method_6_code, 6, none)
abbrev M_X7_burn : MI := (⟨RX7, "burn", "(II)Z"⟩, prog_9_method_7_code, 3, some .boolean)
abbrev M_X7_pass : MI := (⟨RX7, "pass", "(II)Z"⟩, prog_9_method_8_code, 6, some .boolean)
abbrev M_X7_divide : MI := (⟨RX7, "divide", "(II)Z"⟩, prog_9_method_9_code, 3, some .boolean)
abbrev M_X7_isBound : MI := (⟨RX7, "isBound", "(I)Z"⟩, prog_9_method_10_code, 2, some .boolean)
abbrev M_X7_lend : MI := (⟨RX7, "lend", "(II)Z"⟩, prog_9_method_11_code, 3, some .boolean)
abbrev M_X7_repay : MI := (⟨RX7, "repay", "(I)Z"⟩, prog_9_method_12_code, 2, some .boolean)
abbrev M_X7_stop : MI := (⟨RX7, "stop", "(II)Z"⟩, prog_9_method_13_code, 3, some .boolean)
abbrev M_X7_free : MI := (⟨RX7, "free", "(I)Z"⟩, prog_9_method_14_code, 2, some .boolean)
abbrev M_X7_handOut : MI := (⟨RX7, "handOut", "(II)Z"⟩, prog_9_method_15_code, 5, some .boolean)
abbrev M_X7_steal : MI := (⟨RX7, "steal", "(II)Z"⟩, prog_9_method_16_code, 3, some .boolean)
abbrev M_X7_thereOf : MI := (⟨RX7, "thereOf", "(I)I"⟩, prog_9_method_17_code, 2, some .int)
abbrev M_X7_overOf : MI := (⟨RX7, "overOf", "(I)I"⟩, prog_9_method_18_code, 2, some .int)
abbrev M_X7_vainCount : MI := (⟨RX7, "vainCount", "()I"⟩, prog_9_method_19_code, 3, some .int)
abbrev M_X7_papersWithCasks : MI := (⟨RX7, "papersWithCasks", "(I)I"⟩, prog_9_method_20_code, 4, some .int)
abbrev M_X7_casksOf : MI := (⟨RX7, "casksOf", "(IIZ)I"⟩, prog_9_method_21_code, 6, some .int)
abbrev M_X7_lentOn : MI := (⟨RX7, "lentOn", "(I)I"⟩, prog_9_method_22_code, 4, some .int)
abbrev M_X7_unlike : MI := (⟨RX7, "unlike", "(LWharfPapers$Story;)I"⟩, prog_9_method_23_code, 5, some .int)
abbrev M_X7_isHadOtherwise : MI := (⟨RX7, "isHadOtherwise", "(LWharfPapers$Story;I)Z"⟩, prog_9_method_24_code, 3, some .boolean)
abbrev M_X8_init : MI := (⟨RX8, "<init>", "()V"⟩, prog_10_method_1_code, 1, none)
abbrev M_X8_add : MI := (⟨RX8, "add", "(ILWharfPapers$Reader;)I"⟩, prog_10_method_2_code, 5, some .int)
abbrev M_X8_on : MI := (⟨RX8, "on", "(II)I"⟩, prog_10_method_3_code, 3, some .int)
abbrev M_X8_keyOn : MI := (⟨RX8, "keyOn", "(II)I"⟩, prog_10_method_4_code, 3, some .int)
abbrev M_X8_keysOn : MI := (⟨RX8, "keysOn", "(I)I"⟩, prog_10_method_5_code, 4, some .int)
abbrev M_X8_hold : MI := (⟨RX8, "hold", "(I)V"⟩, prog_10_method_6_code, 4, none)
abbrev M_X8_strike : MI := (⟨RX8, "strike", "(I)V"⟩, prog_10_method_7_code, 5, none)
abbrev M_X8_rule : MI := (⟨RX8, "rule", "(I)V"⟩, prog_10_method_8_code, 3, none)
abbrev M_X9_init : MI := (⟨RX9, "<init>", "()V"⟩, prog_11_method_1_code, 1, none)
abbrev M_X9_add : MI := (⟨RX9, "add", "(IIII)I"⟩, prog_11_method_2_code, 5, some .int)
abbrev M_X10_init : MI := (⟨RX10, "<init>", "()V"⟩, prog_1_method_1_code, 2, none)
abbrev M_X10_go : MI := (⟨RX10, "go", "(I)I"⟩, prog_1_method_2_code, 2, some .int)
abbrev M_X10_lot : MI := (⟨RX10, "lot", "(IIIII)I"⟩, prog_1_method_3_code, 6, some .int)
abbrev M_X10_room : MI := (⟨RX10, "room", "(II)I"⟩, prog_1_method_4_code, 4, some .int)
abbrev M_X10_move : MI := (⟨RX10, "move", "(II)I"⟩, prog_1_method_5_code, 4, some .int)
abbrev M_X10_line : MI := (⟨RX10, "line", "(IIIIII)I"⟩, prog_1_method_6_code, 10, some .int)
abbrev M_X10_told : MI := (⟨RX10, "told", "(II)I"⟩, prog_1_method_7_code, 3, some .int)
abbrev M_X10_book : MI := (⟨RX10, "book", "(II)I"⟩, prog_1_method_8_code, 3, some .int)
abbrev M_X10_count : MI := (⟨RX10, "count", "(I)I"⟩, prog_1_method_9_code, 2, some .int)
abbrev M_X10_feed : MI := (⟨RX10, "feed", "(IJ)I"⟩, prog_1_method_10_code, 5, some .int)
abbrev M_X10_term : MI := (⟨RX10, "term", "(I)I"⟩, prog_1_method_11_code, 2, some .int)
abbrev M_X10_fault : MI := (⟨RX10, "fault", "()I"⟩, prog_1_method_12_code, 1, some .int)
abbrev M_X10_force : MI := (⟨RX10, "force", "(II)I"⟩, prog_1_method_13_code, 3, some .int)
abbrev M_X10_paper : MI := (⟨RX10, "paper", "(IIII)I"⟩, prog_1_method_14_code, 5, some .int)
abbrev M_X10_goods : MI := (⟨RX10, "goods", "(IIII)I"⟩, prog_1_method_15_code, 5, some .int)
abbrev M_X10_share : MI := (⟨RX10, "share", "(IIII)I"⟩, prog_1_method_16_code, 5, some .int)
abbrev M_X10_doubt : MI := (⟨RX10, "doubt", "(IIII)I"⟩, prog_1_method_17_code, 5, some .int)
abbrev M_X10_stock : MI := (⟨RX10, "stock", "(III)I"⟩, prog_1_method_18_code, 4, some .int)
abbrev M_X10_news : MI := (⟨RX10, "news", "(III)I"⟩, prog_1_method_19_code, 4, some .int)
abbrev M_X10_rent : MI := (⟨RX10, "rent", "(II)I"⟩, prog_1_method_20_code, 3, some .int)
abbrev M_X10_weight : MI := (⟨RX10, "weight", "(II)I"⟩, prog_1_method_21_code, 3, some .int)
abbrev M_X10_weigh : MI := (⟨RX10, "weigh", "(III)I"⟩, prog_1_method_22_code, 4, some .int)
abbrev M_X10_loss : MI := (⟨RX10, "loss", "(II)I"⟩, prog_1_method_23_code, 7, some .int)
abbrev M_X10_unpaid : MI := (⟨RX10, "unpaid", "(III)I"⟩, prog_1_method_24_code, 5, some .int)
abbrev M_X10_money : MI := (⟨RX10, "money", "(IIII)I"⟩, prog_1_method_25_code, 9, some .int)
abbrev M_X10_sale : MI := (⟨RX10, "sale", "(IIII)I"⟩, prog_1_method_26_code, 5, some .int)
abbrev M_X10_net : MI := (⟨RX10, "net", "(II)I"⟩, prog_1_method_27_code, 3, some .int)
abbrev M_X10_handings : MI := (⟨RX10, "handings", "(I)I"⟩, prog_1_method_28_code, 2, some .int)
abbrev M_X10_due : MI := (⟨RX10, "due", "(III)I"⟩, prog_1_method_29_code, 4, some .int)
abbrev M_X10_coin : MI := (⟨RX10, "coin", "(II)I"⟩, prog_1_method_30_code, 4, some .int)
abbrev M_X10_fails : MI := (⟨RX10, "fails", "(II)I"⟩, prog_1_method_31_code, 3, some .int)
abbrev M_X10_part : MI := (⟨RX10, "part", "(IIZ)I"⟩, prog_1_method_32_code, 5, some .int)
abbrev M_X10_plan : MI := (⟨RX10, "plan", "(II)I"⟩, prog_1_method_33_code, 3, some .int)
abbrev M_X10_within : MI := (⟨RX10, "within", "(III)Z"⟩, prog_1_method_34_code, 3, some .boolean)
abbrev M_X10_isHouse : MI := (⟨RX10, "isHouse", "(I)Z"⟩, prog_1_method_35_code, 1, some .boolean)
abbrev M_X10_isFloor : MI := (⟨RX10, "isFloor", "(I)Z"⟩, prog_1_method_36_code, 1, some .boolean)
abbrev M_X10_isSort : MI := (⟨RX10, "isSort", "(I)Z"⟩, prog_1_method_37_code, 1, some .boolean)
abbrev M_X10_isDay : MI := (⟨RX10, "isDay", "(I)Z"⟩, prog_1_method_38_code, 1, some .boolean)
abbrev M_X10_isTarget : MI := (⟨RX10, "isTarget", "(II)Z"⟩, prog_1_method_39_code, 3, some .boolean)
abbrev M_X10_isAsked : MI := (⟨RX10, "isAsked", "(II)Z"⟩, prog_1_method_40_code, 3, some .boolean)
abbrev M_X10_shareAsTold : MI := (⟨RX10, "shareAsTold", "(IZ)I"⟩, prog_1_method_41_code, 7, some .int)
abbrev M_X10_commonDivisor : MI := (⟨RX10, "commonDivisor", "(II)I"⟩, prog_1_method_42_code, 6, some .int)
abbrev M_X10_rentAsTold : MI := (⟨RX10, "rentAsTold", "(II)I"⟩, prog_1_method_43_code, 4, some .int)
abbrev M_X10_caskWeight : MI := (⟨RX10, "caskWeight", "(II)I"⟩, prog_1_method_44_code, 5, some .int)
abbrev M_X10_wanted : MI := (⟨RX10, "wanted", "(IIII)I"⟩, prog_1_method_45_code, 5, some .int)
abbrev M_X10_unpaidFor : MI := (⟨RX10, "unpaidFor", "(I)I"⟩, prog_1_method_46_code, 4, some .int)
abbrev M_X11_init : MI := (⟨RX11, "<init>", "()V"⟩, prog_13_method_1_code, 2, none)
abbrev M_X11_in : MI := (⟨RX11, "in", "(JJJ)Z"⟩, prog_13_method_3_code, 6, some .boolean)
abbrev M_X11_one : MI := (⟨RX11, "one", "(Z)I"⟩, prog_13_method_4_code, 1, some .int)
abbrev M_X11_isHouse : MI := (⟨RX11, "isHouse", "(I)Z"⟩, prog_13_method_5_code, 1, some .boolean)
abbrev M_X11_isFloor : MI := (⟨RX11, "isFloor", "(I)Z"⟩, prog_13_method_6_code, 1, some .boolean)
abbrev M_X11_isDay : MI := (⟨RX11, "isDay", "(I)Z"⟩, prog_13_method_7_code, 1, some .boolean)
abbrev M_X11_isKnown : MI := (⟨RX11, "isKnown", "(I)Z"⟩, prog_13_method_8_code, 2, some .boolean)
abbrev M_X11_gcd : MI := (⟨RX11, "gcd", "(II)I"⟩, prog_13_method_9_code, 5, some .int)
abbrev M_X11_noLot : MI := (⟨RX11, "noLot", "(I)Z"⟩, prog_13_method_10_code, 2, some .boolean)
abbrev M_X11_go : MI := (⟨RX11, "go", "(I)I"⟩, prog_13_method_11_code, 2, some .int)
abbrev M_X11_lot : MI := (⟨RX11, "lot", "(IIIII)I"⟩, prog_13_method_12_code, 6, some .int)
abbrev M_X11_room : MI := (⟨RX11, "room", "(II)I"⟩, prog_13_method_13_code, 4, some .int)
abbrev M_X11_move : MI := (⟨RX11, "move", "(II)I"⟩, prog_13_method_14_code, 4, some .int)
abbrev M_X11_hasP : MI := (⟨RX11, "hasP", "(I)Z"⟩, prog_13_method_15_code, 1, some .boolean)
abbrev M_X11_isOfLot : MI := (⟨RX11, "isOfLot", "(I)Z"⟩, prog_13_method_16_code, 1, some .boolean)
abbrev M_X11_hasMany : MI := (⟨RX11, "hasMany", "(I)Z"⟩, prog_13_method_17_code, 1, some .boolean)
abbrev M_X11_mostOf : MI := (⟨RX11, "mostOf", "(I)I"⟩, prog_13_method_18_code, 1, some .int)
abbrev M_X11_isPaper : MI := (⟨RX11, "isPaper", "(I)Z"⟩, prog_13_method_19_code, 2, some .boolean)
abbrev M_X11_noTarget : MI := (⟨RX11, "noTarget", "(II)Z"⟩, prog_13_method_20_code, 3, some .boolean)
abbrev M_X11_line : MI := (⟨RX11, "line", "(IIIIII)I"⟩, prog_13_method_21_code, 7, some .int)
abbrev M_X11_findBook : MI := (⟨RX11, "findBook", "(I)V"⟩, prog_13_method_22_code, 4, none)
abbrev M_X11_book : MI := (⟨RX11, "book", "(II)I"⟩, prog_13_method_23_code, 3, some .int)
abbrev M_X11_feed : MI := (⟨RX11, "feed", "(IJ)I"⟩, prog_13_method_24_code, 5, some .int)
abbrev M_X11_here : MI := (⟨RX11, "here", "()I"⟩, prog_13_method_25_code, 1, some .int)
abbrev M_X11_want : MI := (⟨RX11, "want", "(ZII)Z"⟩, prog_13_method_26_code, 4, some .boolean)
abbrev M_X11_takeWord : MI := (⟨RX11, "takeWord", "()V"⟩, prog_13_method_27_code, 2, none)
abbrev M_X11_isWord : MI := (⟨RX11, "isWord", "(IIIIIII)Z"⟩, prog_13_method_28_code, 10, some .boolean)
abbrev M_X11_takeNumber : MI := (⟨RX11, "takeNumber", "(I)I"⟩, prog_13_method_29_code, 5, some .int)
abbrev M_X11_nameOf : MI := (⟨RX11, "nameOf", "()I"⟩, prog_13_method_30_code, 1, some .int)
abbrev M_X11_mostOfName : MI := (⟨RX11, "mostOfName", "(I)I"⟩, prog_13_method_31_code, 1, some .int)
abbrev M_X11_keyOf : MI := (⟨RX11, "keyOf", "()I"⟩, prog_13_method_32_code, 1, some .int)
abbrev M_X11_readRank : MI := (⟨RX11, "readRank", "(I)V"⟩, prog_13_method_33_code, 7, none)
abbrev M_X11_readClause : MI := (⟨RX11, "readClause", "(II)V"⟩, prog_13_method_34_code, 4, none)
abbrev M_X11_term : MI := (⟨RX11, "term", "(I)I"⟩, prog_13_method_35_code, 4, some .int)
abbrev M_X11_fault : MI := (⟨RX11, "fault", "()I"⟩, prog_13_method_36_code, 1, some .int)
abbrev M_X11_findTerms : MI := (⟨RX11, "findTerms", "(I)V"⟩, prog_13_method_37_code, 5, none)
abbrev M_X11_force : MI := (⟨RX11, "force", "(II)I"⟩, prog_13_method_38_code, 3, some .int)
abbrev M_X11_there : MI := (⟨RX11, "there", "(I)I"⟩, prog_13_method_39_code, 2, some .int)
abbrev M_X11_onPapers : MI := (⟨RX11, "onPapers", "(I)I"⟩, prog_13_method_40_code, 4, some .int)
abbrev M_X11_lay : MI := (⟨RX11, "lay", "(IIIII)V"⟩, prog_13_method_41_code, 6, none)
abbrev M_X11_pass : MI := (⟨RX11, "pass", "(II)Z"⟩, prog_13_method_42_code, 5, some .boolean)
abbrev M_X11_partFrom : MI := (⟨RX11, "partFrom", "(II)Z"⟩, prog_13_method_43_code, 3, some .boolean)
abbrev M_X11_lend : MI := (⟨RX11, "lend", "(II)Z"⟩, prog_13_method_44_code, 3, some .boolean)
abbrev M_X11_handOut : MI := (⟨RX11, "handOut", "(II)Z"⟩, prog_13_method_45_code, 4, some .boolean)
abbrev M_X11_burn : MI := (⟨RX11, "burn", "(II)Z"⟩, prog_13_method_46_code, 3, some .boolean)
abbrev M_X11_issue : MI := (⟨RX11, "issue", "(I)Z"⟩, prog_13_method_47_code, 2, some .boolean)
abbrev M_X11_change : MI := (⟨RX11, "change", "(II)Z"⟩, prog_13_method_48_code, 3, some .boolean)
abbrev M_X11_befall : MI := (⟨RX11, "befall", "(I)Z"⟩, prog_13_method_49_code, 4, some .boolean)
abbrev M_X11_tell : MI := (⟨RX11, "tell", "(II)V"⟩, prog_13_method_50_code, 4, none)
abbrev M_X11_told : MI := (⟨RX11, "told", "(II)I"⟩, prog_13_method_51_code, 3, some .int)
abbrev M_X11_linesNow : MI := (⟨RX11, "linesNow", "(I)I"⟩, prog_13_method_52_code, 4, some .int)
abbrev M_X11_papersToday : MI := (⟨RX11, "papersToday", "()I"⟩, prog_13_method_53_code, 3, some .int)
abbrev M_X11_count : MI := (⟨RX11, "count", "(I)I"⟩, prog_13_method_54_code, 2, some .int)
abbrev M_X11_whyNot : MI := (⟨RX11, "whyNot", "(IIIII)I"⟩, prog_13_method_55_code, 6, some .int)
abbrev M_X11_paper : MI := (⟨RX11, "paper", "(IIII)I"⟩, prog_13_method_56_code, 6, some .int)
abbrev M_X11_over : MI := (⟨RX11, "over", "(I)I"⟩, prog_13_method_57_code, 3, some .int)
abbrev M_X11_goods : MI := (⟨RX11, "goods", "(IIII)I"⟩, prog_13_method_58_code, 7, some .int)
abbrev M_X11_share : MI := (⟨RX11, "share", "(IIII)I"⟩, prog_13_method_59_code, 12, some .int)
abbrev M_X11_fewestFrom : MI := (⟨RX11, "fewestFrom", "(II)I"⟩, prog_13_method_60_code, 11, some .int)
abbrev M_X11_doubt : MI := (⟨RX11, "doubt", "(IIII)I"⟩, prog_13_method_61_code, 10, some .int)
abbrev M_X11_stock : MI := (⟨RX11, "stock", "(III)I"⟩, prog_13_method_62_code, 7, some .int)
abbrev M_X11_news : MI := (⟨RX11, "news", "(III)I"⟩, prog_13_method_63_code, 8, some .int)
abbrev M_X11_rentOf : MI := (⟨RX11, "rentOf", "(II)I"⟩, prog_13_method_64_code, 3, some .int)
abbrev M_X11_rent : MI := (⟨RX11, "rent", "(II)I"⟩, prog_13_method_65_code, 3, some .int)
abbrev M_X11_weightOn : MI := (⟨RX11, "weightOn", "(II)I"⟩, prog_13_method_66_code, 5, some .int)
abbrev M_X11_weight : MI := (⟨RX11, "weight", "(II)I"⟩, prog_13_method_67_code, 3, some .int)
abbrev M_X11_weigh : MI := (⟨RX11, "weigh", "(III)I"⟩, prog_13_method_68_code, 4, some .int)
abbrev M_X11_loss : MI := (⟨RX11, "loss", "(II)I"⟩, prog_13_method_69_code, 6, some .int)
abbrev M_X11_unpaid : MI := (⟨RX11, "unpaid", "(III)I"⟩, prog_13_method_70_code, 5, some .int)
abbrev M_X11_wants : MI := (⟨RX11, "wants", "(III)I"⟩, prog_13_method_71_code, 6, some .int)
abbrev M_X11_money : MI := (⟨RX11, "money", "(IIII)I"⟩, prog_13_method_72_code, 13, some .int)
abbrev M_X11_sale : MI := (⟨RX11, "sale", "(IIII)I"⟩, prog_13_method_73_code, 5, some .int)
abbrev M_X11_net : MI := (⟨RX11, "net", "(II)I"⟩, prog_13_method_74_code, 3, some .int)
abbrev M_X11_handings : MI := (⟨RX11, "handings", "(I)I"⟩, prog_13_method_75_code, 8, some .int)
abbrev M_X11_due : MI := (⟨RX11, "due", "(III)I"⟩, prog_13_method_76_code, 4, some .int)
abbrev M_X11_coin : MI := (⟨RX11, "coin", "(II)I"⟩, prog_13_method_77_code, 4, some .int)
abbrev M_X11_owes : MI := (⟨RX11, "owes", "(I)I"⟩, prog_13_method_78_code, 4, some .int)
abbrev M_X11_has : MI := (⟨RX11, "has", "(I)I"⟩, prog_13_method_79_code, 4, some .int)
abbrev M_X11_gives : MI := (⟨RX11, "gives", "(I)I"⟩, prog_13_method_80_code, 4, some .int)
abbrev M_X11_goRounds : MI := (⟨RX11, "goRounds", "()V"⟩, prog_13_method_81_code, 6, none)
abbrev M_X11_fails : MI := (⟨RX11, "fails", "(II)I"⟩, prog_13_method_82_code, 5, some .int)
abbrev M_X11_part : MI := (⟨RX11, "part", "(IIZ)I"⟩, prog_13_method_83_code, 5, some .int)
abbrev M_X11_mayLie : MI := (⟨RX11, "mayLie", "(II)Z"⟩, prog_13_method_84_code, 5, some .boolean)
abbrev M_X11_put : MI := (⟨RX11, "put", "(III)V"⟩, prog_13_method_85_code, 4, none)
abbrev M_X11_layAll : MI := (⟨RX11, "layAll", "()I"⟩, prog_13_method_86_code, 5, some .int)
abbrev M_X11_plan : MI := (⟨RX11, "plan", "(II)I"⟩, prog_13_method_87_code, 7, some .int)
abbrev M_J6_bitCount_0f7a4 : MI := (⟨"java/lang/Integer", "bitCount", "(I)I"⟩, prog_14_method_49_code, 1, some .int)
abbrev M_J9_max_7cf53 : MI := (⟨"java/lang/Math", "max", "(II)I"⟩, prog_15_method_65_code, 2, some .int)
abbrev M_J9_min_7cf53 : MI := (⟨"java/lang/Math", "min", "(II)I"⟩, prog_15_method_69_code, 2, some .int)
abbrev M_J9_min_f86c9 : MI := (⟨"java/lang/Math", "min", "(JJ)J"⟩, prog_15_method_70_code, 4, some .long)
abbrev M_J0_length_8abf5 : MI := (⟨"java/lang/String", "length", "()I"⟩, prog_16_method_54_code, 1, some .int)
abbrev M_J0_charAt_5068e : MI := (⟨"java/lang/String", "charAt", "(I)C"⟩, prog_16_method_56_code, 2, some .char)
abbrev M_J0_coder_7d493 : MI := (⟨"java/lang/String", "coder", "()B"⟩, prog_16_method_152_code, 1, some .byte)
abbrev M_J0_isLatin1_aae02 : MI := (⟨"java/lang/String", "isLatin1", "()Z"⟩, prog_16_method_154_code, 1, some .boolean)
abbrev M_J0_checkIndex_df160 : MI := (⟨"java/lang/String", "checkIndex", "(II)V"⟩, prog_16_method_155_code, 2, none)
abbrev M_J1_charAt_3b067 : MI := (⟨"java/lang/StringLatin1", "charAt", "([BI)C"⟩, prog_17_method_2_code, 2, some .char)
abbrev M_J2_getChar_3b067 : MI := (⟨"java/lang/StringUTF16", "getChar", "([BI)C"⟩, prog_18_method_5_code, 2, some .char)
abbrev M_J2_length_9d52b : MI := (⟨"java/lang/StringUTF16", "length", "([B)I"⟩, prog_18_method_6_code, 1, some .int)
abbrev M_J2_charAt_3b067 : MI := (⟨"java/lang/StringUTF16", "charAt", "([BI)C"⟩, prog_18_method_83_code, 2, some .char)
abbrev M_J2_checkIndex_2214a : MI := (⟨"java/lang/StringUTF16", "checkIndex", "(I[B)V"⟩, prog_18_method_91_code, 2, none)
abbrev M_J3_checkIndex_8e157 : MI := (⟨"jdk/internal/util/Preconditions", "checkIndex", "(IILjava/util/function/BiFunction;)I"⟩, prog_19_method_11_code, 3, some .int)
abbrev M_L_law : MI := (⟨"WharfPapersLaw", "law", "([I)Z"⟩, code, 4, some .boolean)
theorem u_X0 : ∀ w ∈ u_ws RX0 TX0 3, w ∈ tbG := by
  intro w hw
  obtain ⟨j, hj, rfl⟩ := List.mem_map.mp hw
  have hj := List.mem_range.mp hj
  match j with
  | 0 => exact tb2 40 rfl rfl
  | 1 => exact tb2 42 rfl rfl
  | 2 => exact tb2 44 rfl rfl
  | j + 3 => exact absurd hj (by omega)
theorem clk_0 : clkq 0 RX0 TX0 3 tyX0 := ⟨rfl, u_X0, by decide +kernel, by decide +kernel, by decide⟩
theorem u_X1 : ∀ w ∈ u_ws RX1 TX1 9, w ∈ tbG := by
  intro w hw
  obtain ⟨j, hj, rfl⟩ := List.mem_map.mp hw
  have hj := List.mem_range.mp hj
  match j with
  | 0 => exact tb2 127 rfl rfl
  | 1 => exact tb2 129 rfl rfl
  | 2 => exact tb2 131 rfl rfl
  | 3 => exact tb2 133 rfl rfl
  | 4 => exact tb2 135 rfl rfl
  | 5 => exact tb2 137 rfl rfl
  | 6 => exact tb2 139 rfl rfl
  | 7 => exact tb2 141 rfl rfl
  | 8 => exact tb2 143 rfl rfl
  | j + 9 => exact absurd hj (by omega)
theorem clk_1 : clkq 1 RX1 TX1 9 tyX1 := ⟨rfl, u_X1, by decide +kernel, by decide +kernel, by decide⟩
theorem u_X2 : ∀ w ∈ u_ws RX2 TX2 11, w ∈ tbG := by
  intro w hw
  obtain ⟨j, hj, rfl⟩ := List.mem_map.mp hw
  have hj := List.mem_range.mp hj
  match j with
  | 0 => exact tb1 98 rfl rfl
  | 1 => exact tb1 100 rfl rfl
  | 2 => exact tb1 102 rfl rfl
  | 3 => exact tb1 104 rfl rfl
  | 4 => exact tb1 106 rfl rfl
  | 5 => exact tb1 108 rfl rfl
  | 6 => exact tb1 110 rfl rfl
  | 7 => exact tb1 112 rfl rfl
  | 8 => exact tb1 114 rfl rfl
  | 9 => exact tb1 116 rfl rfl
  | 10 => exact tb1 118 rfl rfl
  | j + 11 => exact absurd hj (by omega)
theorem clk_2 : clkq 2 RX2 TX2 11 tyX2 := ⟨rfl, u_X2, by decide +kernel, by decide +kernel, by decide⟩
theorem u_X3 : ∀ w ∈ u_ws RX3 TX3 6, w ∈ tbG := by
  intro w hw
  obtain ⟨j, hj, rfl⟩ := List.mem_map.mp hw
  have hj := List.mem_range.mp hj
  match j with
  | 0 => exact tb1 50 rfl rfl
  | 1 => exact tb1 52 rfl rfl
  | 2 => exact tb1 54 rfl rfl
  | 3 => exact tb1 56 rfl rfl
  | 4 => exact tb1 58 rfl rfl
  | 5 => exact tb1 60 rfl rfl
  | j + 6 => exact absurd hj (by omega)
theorem clk_3 : clkq 3 RX3 TX3 6 tyX3 := ⟨rfl, u_X3, by decide +kernel, by decide +kernel, by decide⟩
theorem u_X4 : ∀ w ∈ u_ws RX4 TX4 7, w ∈ tbG := by
  intro w hw
  obtain ⟨j, hj, rfl⟩ := List.mem_map.mp hw
  have hj := List.mem_range.mp hj
  match j with
  | 0 => exact tb2 159 rfl rfl
  | 1 => exact tb2 161 rfl rfl
  | 2 => exact tb2 163 rfl rfl
  | 3 => exact tb2 165 rfl rfl
  | 4 => exact tb2 167 rfl rfl
  | 5 => exact tb2 169 rfl rfl
  | 6 => exact tb2 171 rfl rfl
  | j + 7 => exact absurd hj (by omega)
theorem clk_4 : clkq 4 RX4 TX4 7 tyX4 := ⟨rfl, u_X4, by decide +kernel, by decide +kernel, by decide⟩
theorem u_X5 : ∀ w ∈ u_ws RX5 TX5 9, w ∈ tbG := by
  intro w hw
  obtain ⟨j, hj, rfl⟩ := List.mem_map.mp hw
  have hj := List.mem_range.mp hj
  match j with
  | 0 => exact tb1 180 rfl rfl
  | 1 => exact tb1 182 rfl rfl
  | 2 => exact tb1 184 rfl rfl
  | 3 => exact tb1 186 rfl rfl
  | 4 => exact tb1 188 rfl rfl
  | 5 => exact tb1 190 rfl rfl
  | 6 => exact tb1 192 rfl rfl
  | 7 => exact tb1 194 rfl rfl
  | 8 => exact tb1 196 rfl rfl
  | j + 9 => exact absurd hj (by omega)
theorem clk_5 : clkq 5 RX5 TX5 9 tyX5 := ⟨rfl, u_X5, by decide +kernel, by decide +kernel, by decide⟩
theorem u_X6 : ∀ w ∈ u_ws RX6 TX6 8, w ∈ tbG := by
  intro w hw
  obtain ⟨j, hj, rfl⟩ := List.mem_map.mp hw
  have hj := List.mem_range.mp hj
  match j with
  | 0 => exact tb2 90 rfl rfl
  | 1 => exact tb2 92 rfl rfl
  | 2 => exact tb2 94 rfl rfl
  | 3 => exact tb2 96 rfl rfl
  | 4 => exact tb2 98 rfl rfl
  | 5 => exact tb2 100 rfl rfl
  | 6 => exact tb2 102 rfl rfl
  | 7 => exact tb2 104 rfl rfl
  | j + 8 => exact absurd hj (by omega)
theorem clk_6 : clkq 6 RX6 TX6 8 tyX6 := ⟨rfl, u_X6, by decide +kernel, by decide +kernel, by decide⟩
theorem u_X7 : ∀ w ∈ u_ws RX7 TX7 16, w ∈ tbG := by
  intro w hw
  obtain ⟨j, hj, rfl⟩ := List.mem_map.mp hw
  have hj := List.mem_range.mp hj
  match j with
  | 0 => exact tb1 237 rfl rfl
  | 1 => exact tb1 239 rfl rfl
  | 2 => exact tb2 1 rfl rfl
  | 3 => exact tb2 3 rfl rfl
  | 4 => exact tb2 5 rfl rfl
  | 5 => exact tb2 7 rfl rfl
  | 6 => exact tb2 9 rfl rfl
  | 7 => exact tb2 11 rfl rfl
  | 8 => exact tb2 13 rfl rfl
  | 9 => exact tb2 15 rfl rfl
  | 10 => exact tb2 17 rfl rfl
  | 11 => exact tb2 19 rfl rfl
  | 12 => exact tb2 21 rfl rfl
  | 13 => exact tb2 23 rfl rfl
  | 14 => exact tb2 25 rfl rfl
  | 15 => exact tb2 27 rfl rfl
  | j + 16 => exact absurd hj (by omega)
theorem clk_7 : clkq 7 RX7 TX7 16 tyX7 := ⟨rfl, u_X7, by decide +kernel, by decide +kernel, by decide⟩
theorem u_X8 : ∀ w ∈ u_ws RX8 TX8 9, w ∈ tbG := by
  intro w hw
  obtain ⟨j, hj, rfl⟩ := List.mem_map.mp hw
  have hj := List.mem_range.mp hj
  match j with
  | 0 => exact tb1 140 rfl rfl
  | 1 => exact tb1 142 rfl rfl
  | 2 => exact tb1 144 rfl rfl
  | 3 => exact tb1 146 rfl rfl
  | 4 => exact tb1 148 rfl rfl
  | 5 => exact tb1 150 rfl rfl
  | 6 => exact tb1 152 rfl rfl
  | 7 => exact tb1 154 rfl rfl
  | 8 => exact tb1 156 rfl rfl
  | j + 9 => exact absurd hj (by omega)
theorem clk_8 : clkq 8 RX8 TX8 9 tyX8 := ⟨rfl, u_X8, by decide +kernel, by decide +kernel, by decide⟩
theorem u_X9 : ∀ w ∈ u_ws RX9 TX9 5, w ∈ tbG := by
  intro w hw
  obtain ⟨j, hj, rfl⟩ := List.mem_map.mp hw
  have hj := List.mem_range.mp hj
  match j with
  | 0 => exact tb2 63 rfl rfl
  | 1 => exact tb2 65 rfl rfl
  | 2 => exact tb2 67 rfl rfl
  | 3 => exact tb2 69 rfl rfl
  | 4 => exact tb2 71 rfl rfl
  | j + 5 => exact absurd hj (by omega)
theorem clk_9 : clkq 9 RX9 TX9 5 tyX9 := ⟨rfl, u_X9, by decide +kernel, by decide +kernel, by decide⟩
theorem u_X10 : ∀ w ∈ u_ws RX10 TX10 15, w ∈ tbG := by
  intro w hw
  obtain ⟨j, hj, rfl⟩ := List.mem_map.mp hw
  have hj := List.mem_range.mp hj
  match j with
  | 0 => exact tb2 190 rfl rfl
  | 1 => exact tb2 192 rfl rfl
  | 2 => exact tb2 194 rfl rfl
  | 3 => exact tb2 196 rfl rfl
  | 4 => exact tb2 198 rfl rfl
  | 5 => exact tb2 200 rfl rfl
  | 6 => exact tb2 202 rfl rfl
  | 7 => exact tb2 204 rfl rfl
  | 8 => exact tb2 206 rfl rfl
  | 9 => exact tb2 208 rfl rfl
  | 10 => exact tb2 210 rfl rfl
  | 11 => exact tb2 212 rfl rfl
  | 12 => exact tb2 214 rfl rfl
  | 13 => exact tb2 216 rfl rfl
  | 14 => exact tb2 218 rfl rfl
  | j + 15 => exact absurd hj (by omega)
theorem clk_10 : clkq 10 RX10 TX10 15 tyX10 := ⟨rfl, u_X10, by decide +kernel, by decide +kernel, by decide⟩
theorem u_X11 : ∀ w ∈ u_ws RX11 TX11 79, w ∈ tbG := by
  intro w hw
  obtain ⟨j, hj, rfl⟩ := List.mem_map.mp hw
  have hj := List.mem_range.mp hj
  match j with
  | 0 => exact tb5 199 rfl rfl
  | 1 => exact tb5 201 rfl rfl
  | 2 => exact tb5 203 rfl rfl
  | 3 => exact tb5 205 rfl rfl
  | 4 => exact tb5 207 rfl rfl
  | 5 => exact tb5 209 rfl rfl
  | 6 => exact tb5 211 rfl rfl
  | 7 => exact tb5 213 rfl rfl
  | 8 => exact tb5 215 rfl rfl
  | 9 => exact tb5 217 rfl rfl
  | 10 => exact tb5 219 rfl rfl
  | 11 => exact tb5 221 rfl rfl
  | 12 => exact tb5 223 rfl rfl
  | 13 => exact tb5 225 rfl rfl
  | 14 => exact tb5 227 rfl rfl
  | 15 => exact tb5 229 rfl rfl
  | 16 => exact tb5 231 rfl rfl
  | 17 => exact tb5 233 rfl rfl
  | 18 => exact tb5 235 rfl rfl
  | 19 => exact tb5 237 rfl rfl
  | 20 => exact tb5 239 rfl rfl
  | 21 => exact tb6 1 rfl rfl
  | 22 => exact tb6 3 rfl rfl
  | 23 => exact tb6 5 rfl rfl
  | 24 => exact tb6 7 rfl rfl
  | 25 => exact tb6 9 rfl rfl
  | 26 => exact tb6 11 rfl rfl
  | 27 => exact tb6 13 rfl rfl
  | 28 => exact tb6 15 rfl rfl
  | 29 => exact tb6 17 rfl rfl
  | 30 => exact tb6 19 rfl rfl
  | 31 => exact tb6 21 rfl rfl
  | 32 => exact tb6 23 rfl rfl
  | 33 => exact tb6 25 rfl rfl
  | 34 => exact tb6 27 rfl rfl
  | 35 => exact tb6 29 rfl rfl
  | 36 => exact tb6 31 rfl rfl
  | 37 => exact tb6 33 rfl rfl
  | 38 => exact tb6 35 rfl rfl
  | 39 => exact tb6 37 rfl rfl
  | 40 => exact tb6 39 rfl rfl
  | 41 => exact tb6 41 rfl rfl
  | 42 => exact tb6 43 rfl rfl
  | 43 => exact tb6 45 rfl rfl
  | 44 => exact tb6 47 rfl rfl
  | 45 => exact tb6 49 rfl rfl
  | 46 => exact tb6 51 rfl rfl
  | 47 => exact tb6 53 rfl rfl
  | 48 => exact tb6 55 rfl rfl
  | 49 => exact tb6 57 rfl rfl
  | 50 => exact tb6 59 rfl rfl
  | 51 => exact tb6 61 rfl rfl
  | 52 => exact tb6 63 rfl rfl
  | 53 => exact tb6 65 rfl rfl
  | 54 => exact tb6 67 rfl rfl
  | 55 => exact tb6 69 rfl rfl
  | 56 => exact tb6 71 rfl rfl
  | 57 => exact tb6 73 rfl rfl
  | 58 => exact tb6 75 rfl rfl
  | 59 => exact tb6 77 rfl rfl
  | 60 => exact tb6 79 rfl rfl
  | 61 => exact tb6 81 rfl rfl
  | 62 => exact tb6 83 rfl rfl
  | 63 => exact tb6 85 rfl rfl
  | 64 => exact tb6 87 rfl rfl
  | 65 => exact tb6 89 rfl rfl
  | 66 => exact tb6 91 rfl rfl
  | 67 => exact tb6 93 rfl rfl
  | 68 => exact tb6 95 rfl rfl
  | 69 => exact tb6 97 rfl rfl
  | 70 => exact tb6 99 rfl rfl
  | 71 => exact tb6 101 rfl rfl
  | 72 => exact tb6 103 rfl rfl
  | 73 => exact tb6 105 rfl rfl
  | 74 => exact tb6 107 rfl rfl
  | 75 => exact tb6 109 rfl rfl
  | 76 => exact tb6 111 rfl rfl
  | 77 => exact tb6 113 rfl rfl
  | 78 => exact tb6 115 rfl rfl
  | j + 79 => exact absurd hj (by omega)
theorem clk_11 : clkq 11 RX11 TX11 79 tyX11 := ⟨rfl, u_X11, by decide +kernel, by decide +kernel, by decide⟩
theorem fl_X3_9 : flq RX3 9 3 6 0 0 false true := ⟨RX3, TX3, tyX3, clk_3, by decide, rfl, tb1 33 rfl rfl, rfl, rfl, rfl, Or.inr ⟨_, rfl⟩⟩
theorem fl_X4_57 : flq RX4 57 3 6 0 0 false true := ⟨RX3, TX3, tyX3, clk_3, by decide, rfl, tb1 34 rfl rfl, rfl, rfl, rfl, Or.inr ⟨_, rfl⟩⟩
theorem fl_X7_165 : flq RX7 165 3 6 0 0 false true := ⟨RX3, TX3, tyX3, clk_3, by decide, rfl, tb1 35 rfl rfl, rfl, rfl, rfl, Or.inr ⟨_, rfl⟩⟩
theorem fl_X10_385 : flq RX10 385 3 6 0 0 false true := ⟨RX3, TX3, tyX3, clk_3, by decide, rfl, tb1 36 rfl rfl, rfl, rfl, rfl, Or.inr ⟨_, rfl⟩⟩
theorem fl_X3_15 : flq RX3 15 3 6 1 1 false true := ⟨RX3, TX3, tyX3, clk_3, by decide, rfl, tb1 37 rfl rfl, rfl, rfl, rfl, Or.inr ⟨_, rfl⟩⟩
theorem fl_X7_159 : flq RX7 159 3 6 1 1 false true := ⟨RX3, TX3, tyX3, clk_3, by decide, rfl, tb1 38 rfl rfl, rfl, rfl, rfl, Or.inr ⟨_, rfl⟩⟩
theorem fl_X3_18 : flq RX3 18 3 6 2 2 false true := ⟨RX3, TX3, tyX3, clk_3, by decide, rfl, tb1 39 rfl rfl, rfl, rfl, rfl, Or.inr ⟨_, rfl⟩⟩
theorem fl_X10_388 : flq RX10 388 3 6 2 2 false true := ⟨RX3, TX3, tyX3, clk_3, by decide, rfl, tb1 40 rfl rfl, rfl, rfl, rfl, Or.inr ⟨_, rfl⟩⟩
theorem fl_X3_21 : flq RX3 21 3 6 3 3 false true := ⟨RX3, TX3, tyX3, clk_3, by decide, rfl, tb1 41 rfl rfl, rfl, rfl, rfl, Or.inr ⟨_, rfl⟩⟩
theorem fl_X4_48 : flq RX4 48 3 6 3 3 false true := ⟨RX3, TX3, tyX3, clk_3, by decide, rfl, tb1 42 rfl rfl, rfl, rfl, rfl, Or.inr ⟨_, rfl⟩⟩
theorem fl_X10_124 : flq RX10 124 3 6 3 3 false true := ⟨RX3, TX3, tyX3, clk_3, by decide, rfl, tb1 43 rfl rfl, rfl, rfl, rfl, Or.inr ⟨_, rfl⟩⟩
theorem fl_X3_24 : flq RX3 24 3 6 4 4 false true := ⟨RX3, TX3, tyX3, clk_3, by decide, rfl, tb1 44 rfl rfl, rfl, rfl, rfl, Or.inr ⟨_, rfl⟩⟩
theorem fl_X10_382 : flq RX10 382 3 6 4 4 false true := ⟨RX3, TX3, tyX3, clk_3, by decide, rfl, tb1 45 rfl rfl, rfl, rfl, rfl, Or.inr ⟨_, rfl⟩⟩
theorem fl_X4_31 : flq RX4 31 3 6 5 5 true false := ⟨RX3, TX3, tyX3, clk_3, by decide, rfl, tb1 46 rfl rfl, rfl, rfl, rfl, rfl⟩
theorem fl_X3_27 : flq RX3 27 3 6 5 5 true false := ⟨RX3, TX3, tyX3, clk_3, by decide, rfl, tb1 47 rfl rfl, rfl, rfl, rfl, rfl⟩
theorem fl_X7_87 : flq RX7 87 3 6 5 5 true false := ⟨RX3, TX3, tyX3, clk_3, by decide, rfl, tb1 48 rfl rfl, rfl, rfl, rfl, rfl⟩
theorem fl_X10_114 : flq RX10 114 3 6 5 5 true false := ⟨RX3, TX3, tyX3, clk_3, by decide, rfl, tb1 49 rfl rfl, rfl, rfl, rfl, rfl⟩
theorem fl_X2_9 : flq RX2 9 2 11 0 0 false true := ⟨RX2, TX2, tyX2, clk_2, by decide, rfl, tb1 70 rfl rfl, rfl, rfl, rfl, Or.inr ⟨_, rfl⟩⟩
theorem fl_X7_93 : flq RX7 93 2 11 0 0 false true := ⟨RX2, TX2, tyX2, clk_2, by decide, rfl, tb1 71 rfl rfl, rfl, rfl, rfl, Or.inr ⟨_, rfl⟩⟩
theorem fl_X10_145 : flq RX10 145 2 11 0 0 false true := ⟨RX2, TX2, tyX2, clk_2, by decide, rfl, tb1 72 rfl rfl, rfl, rfl, rfl, Or.inr ⟨_, rfl⟩⟩
theorem fl_X2_15 : flq RX2 15 2 11 1 1 false true := ⟨RX2, TX2, tyX2, clk_2, by decide, rfl, tb1 73 rfl rfl, rfl, rfl, rfl, Or.inr ⟨_, rfl⟩⟩
theorem fl_X7_81 : flq RX7 81 2 11 1 1 false true := ⟨RX2, TX2, tyX2, clk_2, by decide, rfl, tb1 74 rfl rfl, rfl, rfl, rfl, Or.inr ⟨_, rfl⟩⟩
theorem fl_X10_148 : flq RX10 148 2 11 1 1 false true := ⟨RX2, TX2, tyX2, clk_2, by decide, rfl, tb1 75 rfl rfl, rfl, rfl, rfl, Or.inr ⟨_, rfl⟩⟩
theorem fl_X2_18 : flq RX2 18 2 11 2 2 false true := ⟨RX2, TX2, tyX2, clk_2, by decide, rfl, tb1 76 rfl rfl, rfl, rfl, rfl, Or.inr ⟨_, rfl⟩⟩
theorem fl_X10_151 : flq RX10 151 2 11 2 2 false true := ⟨RX2, TX2, tyX2, clk_2, by decide, rfl, tb1 77 rfl rfl, rfl, rfl, rfl, Or.inr ⟨_, rfl⟩⟩
theorem fl_X2_21 : flq RX2 21 2 11 3 3 false true := ⟨RX2, TX2, tyX2, clk_2, by decide, rfl, tb1 78 rfl rfl, rfl, rfl, rfl, Or.inr ⟨_, rfl⟩⟩
theorem fl_X7_96 : flq RX7 96 2 11 3 3 false true := ⟨RX2, TX2, tyX2, clk_2, by decide, rfl, tb1 79 rfl rfl, rfl, rfl, rfl, Or.inr ⟨_, rfl⟩⟩
theorem fl_X10_154 : flq RX10 154 2 11 3 3 false true := ⟨RX2, TX2, tyX2, clk_2, by decide, rfl, tb1 80 rfl rfl, rfl, rfl, rfl, Or.inr ⟨_, rfl⟩⟩
theorem fl_X2_24 : flq RX2 24 2 11 4 4 false true := ⟨RX2, TX2, tyX2, clk_2, by decide, rfl, tb1 81 rfl rfl, rfl, rfl, rfl, Or.inr ⟨_, rfl⟩⟩
theorem fl_X7_133 : flq RX7 133 2 11 4 4 false true := ⟨RX2, TX2, tyX2, clk_2, by decide, rfl, tb1 82 rfl rfl, rfl, rfl, rfl, Or.inr ⟨_, rfl⟩⟩
theorem fl_X10_157 : flq RX10 157 2 11 4 4 false true := ⟨RX2, TX2, tyX2, clk_2, by decide, rfl, tb1 83 rfl rfl, rfl, rfl, rfl, Or.inr ⟨_, rfl⟩⟩
theorem fl_X2_27 : flq RX2 27 2 11 5 5 false true := ⟨RX2, TX2, tyX2, clk_2, by decide, rfl, tb1 84 rfl rfl, rfl, rfl, rfl, Or.inr ⟨_, rfl⟩⟩
theorem fl_X10_160 : flq RX10 160 2 11 5 5 false true := ⟨RX2, TX2, tyX2, clk_2, by decide, rfl, tb1 85 rfl rfl, rfl, rfl, rfl, Or.inr ⟨_, rfl⟩⟩
theorem fl_X7_147 : flq RX7 147 2 11 5 5 false true := ⟨RX2, TX2, tyX2, clk_2, by decide, rfl, tb1 86 rfl rfl, rfl, rfl, rfl, Or.inr ⟨_, rfl⟩⟩
theorem fl_X2_30 : flq RX2 30 2 11 6 6 false true := ⟨RX2, TX2, tyX2, clk_2, by decide, rfl, tb1 87 rfl rfl, rfl, rfl, rfl, Or.inr ⟨_, rfl⟩⟩
theorem fl_X7_130 : flq RX7 130 2 11 6 6 false true := ⟨RX2, TX2, tyX2, clk_2, by decide, rfl, tb1 88 rfl rfl, rfl, rfl, rfl, Or.inr ⟨_, rfl⟩⟩
theorem fl_X10_163 : flq RX10 163 2 11 6 6 false true := ⟨RX2, TX2, tyX2, clk_2, by decide, rfl, tb1 89 rfl rfl, rfl, rfl, rfl, Or.inr ⟨_, rfl⟩⟩
theorem fl_X2_33 : flq RX2 33 2 11 7 7 false true := ⟨RX2, TX2, tyX2, clk_2, by decide, rfl, tb1 90 rfl rfl, rfl, rfl, rfl, Or.inr ⟨_, rfl⟩⟩
theorem fl_X7_74 : flq RX7 74 2 11 7 7 false true := ⟨RX2, TX2, tyX2, clk_2, by decide, rfl, tb1 91 rfl rfl, rfl, rfl, rfl, Or.inr ⟨_, rfl⟩⟩
theorem fl_X2_36 : flq RX2 36 2 11 8 8 false true := ⟨RX2, TX2, tyX2, clk_2, by decide, rfl, tb1 92 rfl rfl, rfl, rfl, rfl, Or.inr ⟨_, rfl⟩⟩
theorem fl_X10_170 : flq RX10 170 2 11 8 8 false true := ⟨RX2, TX2, tyX2, clk_2, by decide, rfl, tb1 93 rfl rfl, rfl, rfl, rfl, Or.inr ⟨_, rfl⟩⟩
theorem fl_X2_40 : flq RX2 40 2 11 9 9 true false := ⟨RX2, TX2, tyX2, clk_2, by decide, rfl, tb1 94 rfl rfl, rfl, rfl, rfl, rfl⟩
theorem fl_X7_70 : flq RX7 70 2 11 9 9 true false := ⟨RX2, TX2, tyX2, clk_2, by decide, rfl, tb1 95 rfl rfl, rfl, rfl, rfl, rfl⟩
theorem fl_X10_140 : flq RX10 140 2 11 9 9 true false := ⟨RX2, TX2, tyX2, clk_2, by decide, rfl, tb1 96 rfl rfl, rfl, rfl, rfl, rfl⟩
theorem fl_X2_48 : flq RX2 48 2 11 10 10 true false := ⟨RX2, TX2, tyX2, clk_2, by decide, rfl, tb1 97 rfl rfl, rfl, rfl, rfl, rfl⟩
theorem fl_X8_11 : flq RX8 11 8 9 0 0 false true := ⟨RX8, TX8, tyX8, clk_8, by decide, rfl, tb1 130 rfl rfl, rfl, rfl, rfl, Or.inr ⟨_, rfl⟩⟩
theorem fl_X8_15 : flq RX8 15 8 9 1 1 false true := ⟨RX8, TX8, tyX8, clk_8, by decide, rfl, tb1 131 rfl rfl, rfl, rfl, rfl, Or.inr ⟨_, rfl⟩⟩
theorem fl_X8_22 : flq RX8 22 8 9 2 2 false true := ⟨RX8, TX8, tyX8, clk_8, by decide, rfl, tb1 132 rfl rfl, rfl, rfl, rfl, Or.inr ⟨_, rfl⟩⟩
theorem fl_X8_25 : flq RX8 25 8 9 3 3 false true := ⟨RX8, TX8, tyX8, clk_8, by decide, rfl, tb1 133 rfl rfl, rfl, rfl, rfl, Or.inr ⟨_, rfl⟩⟩
theorem fl_X8_28 : flq RX8 28 8 9 4 4 false true := ⟨RX8, TX8, tyX8, clk_8, by decide, rfl, tb1 134 rfl rfl, rfl, rfl, rfl, Or.inr ⟨_, rfl⟩⟩
theorem fl_X8_31 : flq RX8 31 8 9 5 5 false true := ⟨RX8, TX8, tyX8, clk_8, by decide, rfl, tb1 135 rfl rfl, rfl, rfl, rfl, Or.inr ⟨_, rfl⟩⟩
theorem fl_X8_35 : flq RX8 35 8 9 6 6 false true := ⟨RX8, TX8, tyX8, clk_8, by decide, rfl, tb1 136 rfl rfl, rfl, rfl, rfl, Or.inr ⟨_, rfl⟩⟩
theorem fl_X8_38 : flq RX8 38 8 9 7 7 true false := ⟨RX8, TX8, tyX8, clk_8, by decide, rfl, tb1 137 rfl rfl, rfl, rfl, rfl, rfl⟩
theorem fl_X8_42 : flq RX8 42 8 9 8 8 true false := ⟨RX8, TX8, tyX8, clk_8, by decide, rfl, tb1 138 rfl rfl, rfl, rfl, rfl, rfl⟩
theorem fl_X10_198 : flq RX10 198 8 9 8 8 true false := ⟨RX8, TX8, tyX8, clk_8, by decide, rfl, tb1 139 rfl rfl, rfl, rfl, rfl, rfl⟩
theorem fl_X5_11 : flq RX5 11 5 9 0 0 false true := ⟨RX5, TX5, tyX5, clk_5, by decide, rfl, tb1 165 rfl rfl, rfl, rfl, rfl, Or.inr ⟨_, rfl⟩⟩
theorem fl_X5_25 : flq RX5 25 5 9 1 1 true false := ⟨RX5, TX5, tyX5, clk_5, by decide, rfl, tb1 166 rfl rfl, rfl, rfl, rfl, rfl⟩
theorem fl_X10_201 : flq RX10 201 5 9 1 1 true false := ⟨RX5, TX5, tyX5, clk_5, by decide, rfl, tb1 167 rfl rfl, rfl, rfl, rfl, rfl⟩
theorem fl_X5_15 : flq RX5 15 5 9 2 2 false true := ⟨RX5, TX5, tyX5, clk_5, by decide, rfl, tb1 168 rfl rfl, rfl, rfl, rfl, Or.inr ⟨_, rfl⟩⟩
theorem fl_X8_47 : flq RX8 47 5 9 2 2 false true := ⟨RX5, TX5, tyX5, clk_5, by decide, rfl, tb1 169 rfl rfl, rfl, rfl, rfl, Or.inr ⟨_, rfl⟩⟩
theorem fl_X5_18 : flq RX5 18 5 9 3 3 false true := ⟨RX5, TX5, tyX5, clk_5, by decide, rfl, tb1 170 rfl rfl, rfl, rfl, rfl, Or.inr ⟨_, rfl⟩⟩
theorem fl_X8_49 : flq RX8 49 5 9 3 3 false true := ⟨RX5, TX5, tyX5, clk_5, by decide, rfl, tb1 171 rfl rfl, rfl, rfl, rfl, Or.inr ⟨_, rfl⟩⟩
theorem fl_X8_45 : flq RX8 45 5 9 4 4 true false := ⟨RX5, TX5, tyX5, clk_5, by decide, rfl, tb1 172 rfl rfl, rfl, rfl, rfl, rfl⟩
theorem fl_X5_31 : flq RX5 31 5 9 4 4 true false := ⟨RX5, TX5, tyX5, clk_5, by decide, rfl, tb1 173 rfl rfl, rfl, rfl, rfl, rfl⟩
theorem fl_X5_34 : flq RX5 34 5 9 5 5 true false := ⟨RX5, TX5, tyX5, clk_5, by decide, rfl, tb1 174 rfl rfl, rfl, rfl, rfl, rfl⟩
theorem fl_X10_213 : flq RX10 213 5 9 5 5 true false := ⟨RX5, TX5, tyX5, clk_5, by decide, rfl, tb1 175 rfl rfl, rfl, rfl, rfl, rfl⟩
theorem fl_X5_21 : flq RX5 21 5 9 6 6 true false := ⟨RX5, TX5, tyX5, clk_5, by decide, rfl, tb1 176 rfl rfl, rfl, rfl, rfl, rfl⟩
theorem fl_X10_219 : flq RX10 219 5 9 6 6 true false := ⟨RX5, TX5, tyX5, clk_5, by decide, rfl, tb1 177 rfl rfl, rfl, rfl, rfl, rfl⟩
theorem fl_X5_28 : flq RX5 28 5 9 7 7 true false := ⟨RX5, TX5, tyX5, clk_5, by decide, rfl, tb1 178 rfl rfl, rfl, rfl, rfl, rfl⟩
theorem fl_X5_48 : flq RX5 48 5 9 8 8 true false := ⟨RX5, TX5, tyX5, clk_5, by decide, rfl, tb1 179 rfl rfl, rfl, rfl, rfl, rfl⟩
theorem fl_X7_49 : flq RX7 49 7 16 0 0 false true := ⟨RX7, TX7, tyX7, clk_7, by decide, rfl, tb1 205 rfl rfl, rfl, rfl, rfl, Or.inl ⟨_, rfl⟩⟩
theorem fl_X7_53 : flq RX7 53 7 16 1 1 false true := ⟨RX7, TX7, tyX7, clk_7, by decide, rfl, tb1 206 rfl rfl, rfl, rfl, rfl, Or.inl ⟨_, rfl⟩⟩
theorem fl_X7_57 : flq RX7 57 7 16 2 2 false true := ⟨RX7, TX7, tyX7, clk_7, by decide, rfl, tb1 207 rfl rfl, rfl, rfl, rfl, Or.inl ⟨_, rfl⟩⟩
theorem fl_X7_9 : flq RX7 9 7 16 3 3 false true := ⟨RX7, TX7, tyX7, clk_7, by decide, rfl, tb1 208 rfl rfl, rfl, rfl, rfl, Or.inr ⟨_, rfl⟩⟩
theorem fl_X0_38 : flq RX0 38 7 16 3 3 false true := ⟨RX7, TX7, tyX7, clk_7, by decide, rfl, tb1 209 rfl rfl, rfl, rfl, rfl, Or.inr ⟨_, rfl⟩⟩
theorem fl_X10_238 : flq RX10 238 7 16 3 3 false true := ⟨RX7, TX7, tyX7, clk_7, by decide, rfl, tb1 210 rfl rfl, rfl, rfl, rfl, Or.inr ⟨_, rfl⟩⟩
theorem fl_X7_15 : flq RX7 15 7 16 4 4 false true := ⟨RX7, TX7, tyX7, clk_7, by decide, rfl, tb1 211 rfl rfl, rfl, rfl, rfl, Or.inr ⟨_, rfl⟩⟩
theorem fl_X10_178 : flq RX10 178 7 16 4 4 false true := ⟨RX7, TX7, tyX7, clk_7, by decide, rfl, tb1 212 rfl rfl, rfl, rfl, rfl, Or.inr ⟨_, rfl⟩⟩
theorem fl_X7_18 : flq RX7 18 7 16 5 5 false true := ⟨RX7, TX7, tyX7, clk_7, by decide, rfl, tb1 213 rfl rfl, rfl, rfl, rfl, Or.inr ⟨_, rfl⟩⟩
theorem fl_X0_42 : flq RX0 42 7 16 5 5 false true := ⟨RX7, TX7, tyX7, clk_7, by decide, rfl, tb1 214 rfl rfl, rfl, rfl, rfl, Or.inr ⟨_, rfl⟩⟩
theorem fl_X10_259 : flq RX10 259 7 16 5 5 false true := ⟨RX7, TX7, tyX7, clk_7, by decide, rfl, tb1 215 rfl rfl, rfl, rfl, rfl, Or.inr ⟨_, rfl⟩⟩
theorem fl_X7_22 : flq RX7 22 7 16 6 6 false true := ⟨RX7, TX7, tyX7, clk_7, by decide, rfl, tb1 216 rfl rfl, rfl, rfl, rfl, Or.inr ⟨_, rfl⟩⟩
theorem fl_X0_32 : flq RX0 32 7 16 6 6 false true := ⟨RX7, TX7, tyX7, clk_7, by decide, rfl, tb1 217 rfl rfl, rfl, rfl, rfl, Or.inr ⟨_, rfl⟩⟩
theorem fl_X10_241 : flq RX10 241 7 16 6 6 false true := ⟨RX7, TX7, tyX7, clk_7, by decide, rfl, tb1 218 rfl rfl, rfl, rfl, rfl, Or.inr ⟨_, rfl⟩⟩
theorem fl_X7_25 : flq RX7 25 7 16 7 7 false true := ⟨RX7, TX7, tyX7, clk_7, by decide, rfl, tb1 219 rfl rfl, rfl, rfl, rfl, Or.inr ⟨_, rfl⟩⟩
theorem fl_X10_244 : flq RX10 244 7 16 7 7 false true := ⟨RX7, TX7, tyX7, clk_7, by decide, rfl, tb1 220 rfl rfl, rfl, rfl, rfl, Or.inr ⟨_, rfl⟩⟩
theorem fl_X7_28 : flq RX7 28 7 16 8 8 false true := ⟨RX7, TX7, tyX7, clk_7, by decide, rfl, tb1 221 rfl rfl, rfl, rfl, rfl, Or.inr ⟨_, rfl⟩⟩
theorem fl_X10_247 : flq RX10 247 7 16 8 8 false true := ⟨RX7, TX7, tyX7, clk_7, by decide, rfl, tb1 222 rfl rfl, rfl, rfl, rfl, Or.inr ⟨_, rfl⟩⟩
theorem fl_X7_31 : flq RX7 31 7 16 9 9 false true := ⟨RX7, TX7, tyX7, clk_7, by decide, rfl, tb1 223 rfl rfl, rfl, rfl, rfl, Or.inr ⟨_, rfl⟩⟩
theorem fl_X10_250 : flq RX10 250 7 16 9 9 false true := ⟨RX7, TX7, tyX7, clk_7, by decide, rfl, tb1 224 rfl rfl, rfl, rfl, rfl, Or.inr ⟨_, rfl⟩⟩
theorem fl_X7_34 : flq RX7 34 7 16 10 10 false true := ⟨RX7, TX7, tyX7, clk_7, by decide, rfl, tb1 225 rfl rfl, rfl, rfl, rfl, Or.inr ⟨_, rfl⟩⟩
theorem fl_X10_253 : flq RX10 253 7 16 10 10 false true := ⟨RX7, TX7, tyX7, clk_7, by decide, rfl, tb1 226 rfl rfl, rfl, rfl, rfl, Or.inr ⟨_, rfl⟩⟩
theorem fl_X7_37 : flq RX7 37 7 16 11 11 false true := ⟨RX7, TX7, tyX7, clk_7, by decide, rfl, tb1 227 rfl rfl, rfl, rfl, rfl, Or.inr ⟨_, rfl⟩⟩
theorem fl_X10_256 : flq RX10 256 7 16 11 11 false true := ⟨RX7, TX7, tyX7, clk_7, by decide, rfl, tb1 228 rfl rfl, rfl, rfl, rfl, Or.inr ⟨_, rfl⟩⟩
theorem fl_X7_40 : flq RX7 40 7 16 12 12 false true := ⟨RX7, TX7, tyX7, clk_7, by decide, rfl, tb1 229 rfl rfl, rfl, rfl, rfl, Or.inr ⟨_, rfl⟩⟩
theorem fl_X10_265 : flq RX10 265 7 16 12 12 false true := ⟨RX7, TX7, tyX7, clk_7, by decide, rfl, tb1 230 rfl rfl, rfl, rfl, rfl, Or.inr ⟨_, rfl⟩⟩
theorem fl_X7_43 : flq RX7 43 7 16 13 13 false true := ⟨RX7, TX7, tyX7, clk_7, by decide, rfl, tb1 231 rfl rfl, rfl, rfl, rfl, Or.inr ⟨_, rfl⟩⟩
theorem fl_X10_268 : flq RX10 268 7 16 13 13 false true := ⟨RX7, TX7, tyX7, clk_7, by decide, rfl, tb1 232 rfl rfl, rfl, rfl, rfl, Or.inr ⟨_, rfl⟩⟩
theorem fl_X7_46 : flq RX7 46 7 16 14 14 false true := ⟨RX7, TX7, tyX7, clk_7, by decide, rfl, tb1 233 rfl rfl, rfl, rfl, rfl, Or.inr ⟨_, rfl⟩⟩
theorem fl_X10_271 : flq RX10 271 7 16 14 14 false true := ⟨RX7, TX7, tyX7, clk_7, by decide, rfl, tb1 234 rfl rfl, rfl, rfl, rfl, Or.inr ⟨_, rfl⟩⟩
theorem fl_X7_90 : flq RX7 90 7 16 15 15 true false := ⟨RX7, TX7, tyX7, clk_7, by decide, rfl, tb1 235 rfl rfl, rfl, rfl, rfl, rfl⟩
theorem fl_X10_195 : flq RX10 195 7 16 15 15 true false := ⟨RX7, TX7, tyX7, clk_7, by decide, rfl, tb1 236 rfl rfl, rfl, rfl, rfl, rfl⟩
theorem fl_X0_9 : flq RX0 9 0 3 0 0 false true := ⟨RX0, TX0, tyX0, clk_0, by decide, rfl, tb2 36 rfl rfl, rfl, rfl, rfl, Or.inr ⟨_, rfl⟩⟩
theorem fl_X0_15 : flq RX0 15 0 3 1 1 false true := ⟨RX0, TX0, tyX0, clk_0, by decide, rfl, tb2 37 rfl rfl, rfl, rfl, rfl, Or.inr ⟨_, rfl⟩⟩
theorem fl_X0_18 : flq RX0 18 0 3 2 2 true false := ⟨RX0, TX0, tyX0, clk_0, by decide, rfl, tb2 38 rfl rfl, rfl, rfl, rfl, rfl⟩
theorem fl_X10_285 : flq RX10 285 0 3 2 2 true false := ⟨RX0, TX0, tyX0, clk_0, by decide, rfl, tb2 39 rfl rfl, rfl, rfl, rfl, rfl⟩
theorem fl_X9_9 : flq RX9 9 9 5 0 0 false true := ⟨RX9, TX9, tyX9, clk_9, by decide, rfl, tb2 53 rfl rfl, rfl, rfl, rfl, Or.inr ⟨_, rfl⟩⟩
theorem fl_X10_309 : flq RX10 309 9 5 0 0 false true := ⟨RX9, TX9, tyX9, clk_9, by decide, rfl, tb2 54 rfl rfl, rfl, rfl, rfl, Or.inr ⟨_, rfl⟩⟩
theorem fl_X9_13 : flq RX9 13 9 5 1 1 false true := ⟨RX9, TX9, tyX9, clk_9, by decide, rfl, tb2 55 rfl rfl, rfl, rfl, rfl, Or.inr ⟨_, rfl⟩⟩
theorem fl_X10_308 : flq RX10 308 9 5 1 1 false true := ⟨RX9, TX9, tyX9, clk_9, by decide, rfl, tb2 56 rfl rfl, rfl, rfl, rfl, Or.inr ⟨_, rfl⟩⟩
theorem fl_X9_16 : flq RX9 16 9 5 2 2 false true := ⟨RX9, TX9, tyX9, clk_9, by decide, rfl, tb2 57 rfl rfl, rfl, rfl, rfl, Or.inr ⟨_, rfl⟩⟩
theorem fl_X10_310 : flq RX10 310 9 5 2 2 false true := ⟨RX9, TX9, tyX9, clk_9, by decide, rfl, tb2 58 rfl rfl, rfl, rfl, rfl, Or.inr ⟨_, rfl⟩⟩
theorem fl_X9_19 : flq RX9 19 9 5 3 3 false true := ⟨RX9, TX9, tyX9, clk_9, by decide, rfl, tb2 59 rfl rfl, rfl, rfl, rfl, Or.inr ⟨_, rfl⟩⟩
theorem fl_X10_307 : flq RX10 307 9 5 3 3 false true := ⟨RX9, TX9, tyX9, clk_9, by decide, rfl, tb2 60 rfl rfl, rfl, rfl, rfl, Or.inr ⟨_, rfl⟩⟩
theorem fl_X9_22 : flq RX9 22 9 5 4 4 true false := ⟨RX9, TX9, tyX9, clk_9, by decide, rfl, tb2 61 rfl rfl, rfl, rfl, rfl, rfl⟩
theorem fl_X10_204 : flq RX10 204 9 5 4 4 true false := ⟨RX9, TX9, tyX9, clk_9, by decide, rfl, tb2 62 rfl rfl, rfl, rfl, rfl, rfl⟩
theorem fl_X6_11 : flq RX6 11 6 8 0 0 false true := ⟨RX6, TX6, tyX6, clk_6, by decide, rfl, tb2 81 rfl rfl, rfl, rfl, rfl, Or.inr ⟨_, rfl⟩⟩
theorem fl_X6_15 : flq RX6 15 6 8 1 1 false true := ⟨RX6, TX6, tyX6, clk_6, by decide, rfl, tb2 82 rfl rfl, rfl, rfl, rfl, Or.inr ⟨_, rfl⟩⟩
theorem fl_X6_18 : flq RX6 18 6 8 2 2 false true := ⟨RX6, TX6, tyX6, clk_6, by decide, rfl, tb2 83 rfl rfl, rfl, rfl, rfl, Or.inr ⟨_, rfl⟩⟩
theorem fl_X6_21 : flq RX6 21 6 8 3 3 false true := ⟨RX6, TX6, tyX6, clk_6, by decide, rfl, tb2 84 rfl rfl, rfl, rfl, rfl, Or.inr ⟨_, rfl⟩⟩
theorem fl_X6_24 : flq RX6 24 6 8 4 4 false true := ⟨RX6, TX6, tyX6, clk_6, by decide, rfl, tb2 85 rfl rfl, rfl, rfl, rfl, Or.inr ⟨_, rfl⟩⟩
theorem fl_X6_27 : flq RX6 27 6 8 5 5 false true := ⟨RX6, TX6, tyX6, clk_6, by decide, rfl, tb2 86 rfl rfl, rfl, rfl, rfl, Or.inr ⟨_, rfl⟩⟩
theorem fl_X6_30 : flq RX6 30 6 8 6 6 false true := ⟨RX6, TX6, tyX6, clk_6, by decide, rfl, tb2 87 rfl rfl, rfl, rfl, rfl, Or.inr ⟨_, rfl⟩⟩
theorem fl_X6_33 : flq RX6 33 6 8 7 7 true false := ⟨RX6, TX6, tyX6, clk_6, by decide, rfl, tb2 88 rfl rfl, rfl, rfl, rfl, rfl⟩
theorem fl_X10_199 : flq RX10 199 6 8 7 7 true false := ⟨RX6, TX6, tyX6, clk_6, by decide, rfl, tb2 89 rfl rfl, rfl, rfl, rfl, rfl⟩
theorem fl_X1_11 : flq RX1 11 1 9 0 0 false true := ⟨RX1, TX1, tyX1, clk_1, by decide, rfl, tb2 113 rfl rfl, rfl, rfl, rfl, Or.inr ⟨_, rfl⟩⟩
theorem fl_X1_15 : flq RX1 15 1 9 1 1 false true := ⟨RX1, TX1, tyX1, clk_1, by decide, rfl, tb2 114 rfl rfl, rfl, rfl, rfl, Or.inr ⟨_, rfl⟩⟩
theorem fl_X1_18 : flq RX1 18 1 9 2 2 false true := ⟨RX1, TX1, tyX1, clk_1, by decide, rfl, tb2 115 rfl rfl, rfl, rfl, rfl, Or.inr ⟨_, rfl⟩⟩
theorem fl_X1_21 : flq RX1 21 1 9 3 3 false true := ⟨RX1, TX1, tyX1, clk_1, by decide, rfl, tb2 116 rfl rfl, rfl, rfl, rfl, Or.inr ⟨_, rfl⟩⟩
theorem fl_X1_33 : flq RX1 33 1 9 4 4 true false := ⟨RX1, TX1, tyX1, clk_1, by decide, rfl, tb2 117 rfl rfl, rfl, rfl, rfl, rfl⟩
theorem fl_X10_200 : flq RX10 200 1 9 4 4 true false := ⟨RX1, TX1, tyX1, clk_1, by decide, rfl, tb2 118 rfl rfl, rfl, rfl, rfl, rfl⟩
theorem fl_X1_24 : flq RX1 24 1 9 5 5 false true := ⟨RX1, TX1, tyX1, clk_1, by decide, rfl, tb2 119 rfl rfl, rfl, rfl, rfl, Or.inr ⟨_, rfl⟩⟩
theorem fl_X10_337 : flq RX10 337 1 9 5 5 false true := ⟨RX1, TX1, tyX1, clk_1, by decide, rfl, tb2 120 rfl rfl, rfl, rfl, rfl, Or.inr ⟨_, rfl⟩⟩
theorem fl_X1_27 : flq RX1 27 1 9 6 6 false true := ⟨RX1, TX1, tyX1, clk_1, by decide, rfl, tb2 121 rfl rfl, rfl, rfl, rfl, Or.inr ⟨_, rfl⟩⟩
theorem fl_X10_351 : flq RX10 351 1 9 6 6 false true := ⟨RX1, TX1, tyX1, clk_1, by decide, rfl, tb2 122 rfl rfl, rfl, rfl, rfl, Or.inr ⟨_, rfl⟩⟩
theorem fl_X1_30 : flq RX1 30 1 9 7 7 false true := ⟨RX1, TX1, tyX1, clk_1, by decide, rfl, tb2 123 rfl rfl, rfl, rfl, rfl, Or.inr ⟨_, rfl⟩⟩
theorem fl_X10_346 : flq RX10 346 1 9 7 7 false true := ⟨RX1, TX1, tyX1, clk_1, by decide, rfl, tb2 124 rfl rfl, rfl, rfl, rfl, Or.inr ⟨_, rfl⟩⟩
theorem fl_X1_40 : flq RX1 40 1 9 8 8 true false := ⟨RX1, TX1, tyX1, clk_1, by decide, rfl, tb2 125 rfl rfl, rfl, rfl, rfl, rfl⟩
theorem fl_X10_354 : flq RX10 354 1 9 8 8 true false := ⟨RX1, TX1, tyX1, clk_1, by decide, rfl, tb2 126 rfl rfl, rfl, rfl, rfl, rfl⟩
theorem fl_X4_9 : flq RX4 9 4 7 0 0 false true := ⟨RX4, TX4, tyX4, clk_4, by decide, rfl, tb2 152 rfl rfl, rfl, rfl, rfl, Or.inr ⟨_, rfl⟩⟩
theorem fl_X4_15 : flq RX4 15 4 7 1 1 false true := ⟨RX4, TX4, tyX4, clk_4, by decide, rfl, tb2 153 rfl rfl, rfl, rfl, rfl, Or.inr ⟨_, rfl⟩⟩
theorem fl_X4_45 : flq RX4 45 4 7 2 2 true false := ⟨RX4, TX4, tyX4, clk_4, by decide, rfl, tb2 154 rfl rfl, rfl, rfl, rfl, rfl⟩
theorem fl_X4_18 : flq RX4 18 4 7 3 3 false true := ⟨RX4, TX4, tyX4, clk_4, by decide, rfl, tb2 155 rfl rfl, rfl, rfl, rfl, Or.inr ⟨_, rfl⟩⟩
theorem fl_X4_21 : flq RX4 21 4 7 4 4 false true := ⟨RX4, TX4, tyX4, clk_4, by decide, rfl, tb2 156 rfl rfl, rfl, rfl, rfl, Or.inr ⟨_, rfl⟩⟩
theorem fl_X4_24 : flq RX4 24 4 7 5 5 false true := ⟨RX4, TX4, tyX4, clk_4, by decide, rfl, tb2 157 rfl rfl, rfl, rfl, rfl, Or.inr ⟨_, rfl⟩⟩
theorem fl_X4_28 : flq RX4 28 4 7 6 6 false true := ⟨RX4, TX4, tyX4, clk_4, by decide, rfl, tb2 158 rfl rfl, rfl, rfl, rfl, Or.inr ⟨_, rfl⟩⟩
theorem fl_X10_7 : flq RX10 7 10 15 0 0 true false := ⟨RX10, TX10, tyX10, clk_10, by decide, rfl, tb2 175 rfl rfl, rfl, rfl, rfl, rfl⟩
theorem fl_X10_16 : flq RX10 16 10 15 1 1 false true := ⟨RX10, TX10, tyX10, clk_10, by decide, rfl, tb2 176 rfl rfl, rfl, rfl, rfl, Or.inl ⟨_, rfl⟩⟩
theorem fl_X10_23 : flq RX10 23 10 15 2 2 false true := ⟨RX10, TX10, tyX10, clk_10, by decide, rfl, tb2 177 rfl rfl, rfl, rfl, rfl, Or.inl ⟨_, rfl⟩⟩
theorem fl_X10_30 : flq RX10 30 10 15 3 3 false true := ⟨RX10, TX10, tyX10, clk_10, by decide, rfl, tb2 178 rfl rfl, rfl, rfl, rfl, Or.inl ⟨_, rfl⟩⟩
theorem fl_X10_37 : flq RX10 37 10 15 4 4 false true := ⟨RX10, TX10, tyX10, clk_10, by decide, rfl, tb2 179 rfl rfl, rfl, rfl, rfl, Or.inl ⟨_, rfl⟩⟩
theorem fl_X10_46 : flq RX10 46 10 15 5 5 false true := ⟨RX10, TX10, tyX10, clk_10, by decide, rfl, tb2 180 rfl rfl, rfl, rfl, rfl, Or.inl ⟨_, rfl⟩⟩
theorem fl_X10_50 : flq RX10 50 10 15 6 6 false true := ⟨RX10, TX10, tyX10, clk_10, by decide, rfl, tb2 181 rfl rfl, rfl, rfl, rfl, Or.inl ⟨_, rfl⟩⟩
theorem fl_X10_56 : flq RX10 56 10 15 7 7 false true := ⟨RX10, TX10, tyX10, clk_10, by decide, rfl, tb2 182 rfl rfl, rfl, rfl, rfl, Or.inl ⟨_, rfl⟩⟩
theorem fl_X10_63 : flq RX10 63 10 15 8 8 false true := ⟨RX10, TX10, tyX10, clk_10, by decide, rfl, tb2 183 rfl rfl, rfl, rfl, rfl, Or.inl ⟨_, rfl⟩⟩
theorem fl_X10_69 : flq RX10 69 10 15 9 9 false true := ⟨RX10, TX10, tyX10, clk_10, by decide, rfl, tb2 184 rfl rfl, rfl, rfl, rfl, Or.inr ⟨_, rfl⟩⟩
theorem fl_X10_75 : flq RX10 75 10 15 10 10 false true := ⟨RX10, TX10, tyX10, clk_10, by decide, rfl, tb2 185 rfl rfl, rfl, rfl, rfl, Or.inl ⟨_, rfl⟩⟩
theorem fl_X10_82 : flq RX10 82 10 15 11 11 false true := ⟨RX10, TX10, tyX10, clk_10, by decide, rfl, tb2 186 rfl rfl, rfl, rfl, rfl, Or.inl ⟨_, rfl⟩⟩
theorem fl_X10_86 : flq RX10 86 10 15 12 12 false true := ⟨RX10, TX10, tyX10, clk_10, by decide, rfl, tb2 187 rfl rfl, rfl, rfl, rfl, Or.inr ⟨_, rfl⟩⟩
theorem fl_X10_90 : flq RX10 90 10 15 13 13 false true := ⟨RX10, TX10, tyX10, clk_10, by decide, rfl, tb2 188 rfl rfl, rfl, rfl, rfl, Or.inr ⟨_, rfl⟩⟩
theorem fl_X10_96 : flq RX10 96 10 15 14 14 false true := ⟨RX10, TX10, tyX10, clk_10, by decide, rfl, tb2 189 rfl rfl, rfl, rfl, rfl, Or.inl ⟨_, rfl⟩⟩
theorem fl_X11_205 : flq RX11 205 11 79 0 0 true false := ⟨RX11, TX11, tyX11, clk_11, by decide, rfl, tb5 120 rfl rfl, rfl, rfl, rfl, rfl⟩
theorem fl_X11_208 : flq RX11 208 11 79 1 1 true false := ⟨RX11, TX11, tyX11, clk_11, by decide, rfl, tb5 121 rfl rfl, rfl, rfl, rfl, rfl⟩
theorem fl_X11_7 : flq RX11 7 11 79 2 2 false true := ⟨RX11, TX11, tyX11, clk_11, by decide, rfl, tb5 122 rfl rfl, rfl, rfl, rfl, Or.inr ⟨_, rfl⟩⟩
theorem fl_X11_13 : flq RX11 13 11 79 3 3 false true := ⟨RX11, TX11, tyX11, clk_11, by decide, rfl, tb5 123 rfl rfl, rfl, rfl, rfl, Or.inr ⟨_, rfl⟩⟩
theorem fl_X11_16 : flq RX11 16 11 79 4 4 false true := ⟨RX11, TX11, tyX11, clk_11, by decide, rfl, tb5 124 rfl rfl, rfl, rfl, rfl, Or.inr ⟨_, rfl⟩⟩
theorem fl_X11_19 : flq RX11 19 11 79 5 5 false true := ⟨RX11, TX11, tyX11, clk_11, by decide, rfl, tb5 125 rfl rfl, rfl, rfl, rfl, Or.inr ⟨_, rfl⟩⟩
theorem fl_X11_22 : flq RX11 22 11 79 6 6 false true := ⟨RX11, TX11, tyX11, clk_11, by decide, rfl, tb5 126 rfl rfl, rfl, rfl, rfl, Or.inr ⟨_, rfl⟩⟩
theorem fl_X11_25 : flq RX11 25 11 79 7 7 false true := ⟨RX11, TX11, tyX11, clk_11, by decide, rfl, tb5 127 rfl rfl, rfl, rfl, rfl, Or.inr ⟨_, rfl⟩⟩
theorem fl_X11_28 : flq RX11 28 11 79 8 8 false true := ⟨RX11, TX11, tyX11, clk_11, by decide, rfl, tb5 128 rfl rfl, rfl, rfl, rfl, Or.inr ⟨_, rfl⟩⟩
theorem fl_X11_227 : flq RX11 227 11 79 9 9 true false := ⟨RX11, TX11, tyX11, clk_11, by decide, rfl, tb5 129 rfl rfl, rfl, rfl, rfl, rfl⟩
theorem fl_X11_31 : flq RX11 31 11 79 10 10 false true := ⟨RX11, TX11, tyX11, clk_11, by decide, rfl, tb5 130 rfl rfl, rfl, rfl, rfl, Or.inr ⟨_, rfl⟩⟩
theorem fl_X11_34 : flq RX11 34 11 79 11 11 false true := ⟨RX11, TX11, tyX11, clk_11, by decide, rfl, tb5 131 rfl rfl, rfl, rfl, rfl, Or.inr ⟨_, rfl⟩⟩
theorem fl_X11_37 : flq RX11 37 11 79 12 12 false true := ⟨RX11, TX11, tyX11, clk_11, by decide, rfl, tb5 132 rfl rfl, rfl, rfl, rfl, Or.inr ⟨_, rfl⟩⟩
theorem fl_X11_40 : flq RX11 40 11 79 13 13 false true := ⟨RX11, TX11, tyX11, clk_11, by decide, rfl, tb5 133 rfl rfl, rfl, rfl, rfl, Or.inr ⟨_, rfl⟩⟩
theorem fl_X11_43 : flq RX11 43 11 79 14 14 false true := ⟨RX11, TX11, tyX11, clk_11, by decide, rfl, tb5 134 rfl rfl, rfl, rfl, rfl, Or.inr ⟨_, rfl⟩⟩
theorem fl_X11_46 : flq RX11 46 11 79 15 15 false true := ⟨RX11, TX11, tyX11, clk_11, by decide, rfl, tb5 135 rfl rfl, rfl, rfl, rfl, Or.inr ⟨_, rfl⟩⟩
theorem fl_X11_49 : flq RX11 49 11 79 16 16 false true := ⟨RX11, TX11, tyX11, clk_11, by decide, rfl, tb5 136 rfl rfl, rfl, rfl, rfl, Or.inr ⟨_, rfl⟩⟩
theorem fl_X11_52 : flq RX11 52 11 79 17 17 false true := ⟨RX11, TX11, tyX11, clk_11, by decide, rfl, tb5 137 rfl rfl, rfl, rfl, rfl, Or.inr ⟨_, rfl⟩⟩
theorem fl_X11_56 : flq RX11 56 11 79 18 18 false true := ⟨RX11, TX11, tyX11, clk_11, by decide, rfl, tb5 138 rfl rfl, rfl, rfl, rfl, Or.inr ⟨_, rfl⟩⟩
theorem fl_X11_59 : flq RX11 59 11 79 19 19 false true := ⟨RX11, TX11, tyX11, clk_11, by decide, rfl, tb5 139 rfl rfl, rfl, rfl, rfl, Or.inr ⟨_, rfl⟩⟩
theorem fl_X11_62 : flq RX11 62 11 79 20 20 false true := ⟨RX11, TX11, tyX11, clk_11, by decide, rfl, tb5 140 rfl rfl, rfl, rfl, rfl, Or.inr ⟨_, rfl⟩⟩
theorem fl_X11_255 : flq RX11 255 11 79 21 21 true false := ⟨RX11, TX11, tyX11, clk_11, by decide, rfl, tb5 141 rfl rfl, rfl, rfl, rfl, rfl⟩
theorem fl_X11_323 : flq RX11 323 11 79 22 22 true false := ⟨RX11, TX11, tyX11, clk_11, by decide, rfl, tb5 142 rfl rfl, rfl, rfl, rfl, rfl⟩
theorem fl_X11_65 : flq RX11 65 11 79 23 23 false true := ⟨RX11, TX11, tyX11, clk_11, by decide, rfl, tb5 143 rfl rfl, rfl, rfl, rfl, Or.inr ⟨_, rfl⟩⟩
theorem fl_X11_68 : flq RX11 68 11 79 24 24 false true := ⟨RX11, TX11, tyX11, clk_11, by decide, rfl, tb5 144 rfl rfl, rfl, rfl, rfl, Or.inr ⟨_, rfl⟩⟩
theorem fl_X11_71 : flq RX11 71 11 79 25 25 false true := ⟨RX11, TX11, tyX11, clk_11, by decide, rfl, tb5 145 rfl rfl, rfl, rfl, rfl, Or.inr ⟨_, rfl⟩⟩
theorem fl_X11_74 : flq RX11 74 11 79 26 26 false true := ⟨RX11, TX11, tyX11, clk_11, by decide, rfl, tb5 146 rfl rfl, rfl, rfl, rfl, Or.inr ⟨_, rfl⟩⟩
theorem fl_X11_77 : flq RX11 77 11 79 27 27 false true := ⟨RX11, TX11, tyX11, clk_11, by decide, rfl, tb5 147 rfl rfl, rfl, rfl, rfl, Or.inr ⟨_, rfl⟩⟩
theorem fl_X11_80 : flq RX11 80 11 79 28 28 false true := ⟨RX11, TX11, tyX11, clk_11, by decide, rfl, tb5 148 rfl rfl, rfl, rfl, rfl, Or.inr ⟨_, rfl⟩⟩
theorem fl_X11_264 : flq RX11 264 11 79 29 29 true false := ⟨RX11, TX11, tyX11, clk_11, by decide, rfl, tb5 149 rfl rfl, rfl, rfl, rfl, rfl⟩
theorem fl_X11_269 : flq RX11 269 11 79 30 30 true false := ⟨RX11, TX11, tyX11, clk_11, by decide, rfl, tb5 150 rfl rfl, rfl, rfl, rfl, rfl⟩
theorem fl_X11_272 : flq RX11 272 11 79 31 31 true false := ⟨RX11, TX11, tyX11, clk_11, by decide, rfl, tb5 151 rfl rfl, rfl, rfl, rfl, rfl⟩
theorem fl_X11_83 : flq RX11 83 11 79 32 32 true false := ⟨RX11, TX11, tyX11, clk_11, by decide, rfl, tb5 152 rfl rfl, rfl, rfl, rfl, rfl⟩
theorem fl_X11_279 : flq RX11 279 11 79 33 33 true false := ⟨RX11, TX11, tyX11, clk_11, by decide, rfl, tb5 153 rfl rfl, rfl, rfl, rfl, rfl⟩
theorem fl_X11_286 : flq RX11 286 11 79 34 34 true false := ⟨RX11, TX11, tyX11, clk_11, by decide, rfl, tb5 154 rfl rfl, rfl, rfl, rfl, rfl⟩
theorem fl_X11_87 : flq RX11 87 11 79 35 35 false true := ⟨RX11, TX11, tyX11, clk_11, by decide, rfl, tb5 155 rfl rfl, rfl, rfl, rfl, Or.inr ⟨_, rfl⟩⟩
theorem fl_X11_90 : flq RX11 90 11 79 36 36 false true := ⟨RX11, TX11, tyX11, clk_11, by decide, rfl, tb5 156 rfl rfl, rfl, rfl, rfl, Or.inr ⟨_, rfl⟩⟩
theorem fl_X11_93 : flq RX11 93 11 79 37 37 false true := ⟨RX11, TX11, tyX11, clk_11, by decide, rfl, tb5 157 rfl rfl, rfl, rfl, rfl, Or.inr ⟨_, rfl⟩⟩
theorem fl_X11_333 : flq RX11 333 11 79 38 38 true false := ⟨RX11, TX11, tyX11, clk_11, by decide, rfl, tb5 158 rfl rfl, rfl, rfl, rfl, rfl⟩
theorem fl_X11_336 : flq RX11 336 11 79 39 39 true false := ⟨RX11, TX11, tyX11, clk_11, by decide, rfl, tb5 159 rfl rfl, rfl, rfl, rfl, rfl⟩
theorem fl_X11_96 : flq RX11 96 11 79 40 40 false true := ⟨RX11, TX11, tyX11, clk_11, by decide, rfl, tb5 160 rfl rfl, rfl, rfl, rfl, Or.inr ⟨_, rfl⟩⟩
theorem fl_X11_99 : flq RX11 99 11 79 41 41 false true := ⟨RX11, TX11, tyX11, clk_11, by decide, rfl, tb5 161 rfl rfl, rfl, rfl, rfl, Or.inr ⟨_, rfl⟩⟩
theorem fl_X11_102 : flq RX11 102 11 79 42 42 false true := ⟨RX11, TX11, tyX11, clk_11, by decide, rfl, tb5 162 rfl rfl, rfl, rfl, rfl, Or.inr ⟨_, rfl⟩⟩
theorem fl_X11_105 : flq RX11 105 11 79 43 43 false true := ⟨RX11, TX11, tyX11, clk_11, by decide, rfl, tb5 163 rfl rfl, rfl, rfl, rfl, Or.inr ⟨_, rfl⟩⟩
theorem fl_X11_108 : flq RX11 108 11 79 44 44 false true := ⟨RX11, TX11, tyX11, clk_11, by decide, rfl, tb5 164 rfl rfl, rfl, rfl, rfl, Or.inr ⟨_, rfl⟩⟩
theorem fl_X11_111 : flq RX11 111 11 79 45 45 false true := ⟨RX11, TX11, tyX11, clk_11, by decide, rfl, tb5 165 rfl rfl, rfl, rfl, rfl, Or.inr ⟨_, rfl⟩⟩
theorem fl_X11_114 : flq RX11 114 11 79 46 46 false true := ⟨RX11, TX11, tyX11, clk_11, by decide, rfl, tb5 166 rfl rfl, rfl, rfl, rfl, Or.inr ⟨_, rfl⟩⟩
theorem fl_X11_117 : flq RX11 117 11 79 47 47 false true := ⟨RX11, TX11, tyX11, clk_11, by decide, rfl, tb5 167 rfl rfl, rfl, rfl, rfl, Or.inr ⟨_, rfl⟩⟩
theorem fl_X11_120 : flq RX11 120 11 79 48 48 false true := ⟨RX11, TX11, tyX11, clk_11, by decide, rfl, tb5 168 rfl rfl, rfl, rfl, rfl, Or.inr ⟨_, rfl⟩⟩
theorem fl_X11_123 : flq RX11 123 11 79 49 49 false true := ⟨RX11, TX11, tyX11, clk_11, by decide, rfl, tb5 169 rfl rfl, rfl, rfl, rfl, Or.inr ⟨_, rfl⟩⟩
theorem fl_X11_126 : flq RX11 126 11 79 50 50 false true := ⟨RX11, TX11, tyX11, clk_11, by decide, rfl, tb5 170 rfl rfl, rfl, rfl, rfl, Or.inr ⟨_, rfl⟩⟩
theorem fl_X11_407 : flq RX11 407 11 79 51 51 true false := ⟨RX11, TX11, tyX11, clk_11, by decide, rfl, tb5 171 rfl rfl, rfl, rfl, rfl, rfl⟩
theorem fl_X11_129 : flq RX11 129 11 79 52 52 false true := ⟨RX11, TX11, tyX11, clk_11, by decide, rfl, tb5 172 rfl rfl, rfl, rfl, rfl, Or.inr ⟨_, rfl⟩⟩
theorem fl_X11_132 : flq RX11 132 11 79 53 53 false true := ⟨RX11, TX11, tyX11, clk_11, by decide, rfl, tb5 173 rfl rfl, rfl, rfl, rfl, Or.inr ⟨_, rfl⟩⟩
theorem fl_X11_393 : flq RX11 393 11 79 54 54 true false := ⟨RX11, TX11, tyX11, clk_11, by decide, rfl, tb5 174 rfl rfl, rfl, rfl, rfl, rfl⟩
theorem fl_X11_135 : flq RX11 135 11 79 55 55 false true := ⟨RX11, TX11, tyX11, clk_11, by decide, rfl, tb5 175 rfl rfl, rfl, rfl, rfl, Or.inr ⟨_, rfl⟩⟩
theorem fl_X11_138 : flq RX11 138 11 79 56 56 false true := ⟨RX11, TX11, tyX11, clk_11, by decide, rfl, tb5 176 rfl rfl, rfl, rfl, rfl, Or.inr ⟨_, rfl⟩⟩
theorem fl_X11_141 : flq RX11 141 11 79 57 57 false true := ⟨RX11, TX11, tyX11, clk_11, by decide, rfl, tb5 177 rfl rfl, rfl, rfl, rfl, Or.inr ⟨_, rfl⟩⟩
theorem fl_X11_144 : flq RX11 144 11 79 58 58 false true := ⟨RX11, TX11, tyX11, clk_11, by decide, rfl, tb5 178 rfl rfl, rfl, rfl, rfl, Or.inr ⟨_, rfl⟩⟩
theorem fl_X11_147 : flq RX11 147 11 79 59 59 false true := ⟨RX11, TX11, tyX11, clk_11, by decide, rfl, tb5 179 rfl rfl, rfl, rfl, rfl, Or.inr ⟨_, rfl⟩⟩
theorem fl_X11_387 : flq RX11 387 11 79 60 60 true false := ⟨RX11, TX11, tyX11, clk_11, by decide, rfl, tb5 180 rfl rfl, rfl, rfl, rfl, rfl⟩
theorem fl_X11_150 : flq RX11 150 11 79 61 61 false true := ⟨RX11, TX11, tyX11, clk_11, by decide, rfl, tb5 181 rfl rfl, rfl, rfl, rfl, Or.inr ⟨_, rfl⟩⟩
theorem fl_X11_153 : flq RX11 153 11 79 62 62 false true := ⟨RX11, TX11, tyX11, clk_11, by decide, rfl, tb5 182 rfl rfl, rfl, rfl, rfl, Or.inr ⟨_, rfl⟩⟩
theorem fl_X11_390 : flq RX11 390 11 79 63 63 true false := ⟨RX11, TX11, tyX11, clk_11, by decide, rfl, tb5 183 rfl rfl, rfl, rfl, rfl, rfl⟩
theorem fl_X11_156 : flq RX11 156 11 79 64 64 false true := ⟨RX11, TX11, tyX11, clk_11, by decide, rfl, tb5 184 rfl rfl, rfl, rfl, rfl, Or.inr ⟨_, rfl⟩⟩
theorem fl_X11_159 : flq RX11 159 11 79 65 65 false true := ⟨RX11, TX11, tyX11, clk_11, by decide, rfl, tb5 185 rfl rfl, rfl, rfl, rfl, Or.inr ⟨_, rfl⟩⟩
theorem fl_X11_162 : flq RX11 162 11 79 66 66 false true := ⟨RX11, TX11, tyX11, clk_11, by decide, rfl, tb5 186 rfl rfl, rfl, rfl, rfl, Or.inr ⟨_, rfl⟩⟩
theorem fl_X11_165 : flq RX11 165 11 79 67 67 false true := ⟨RX11, TX11, tyX11, clk_11, by decide, rfl, tb5 187 rfl rfl, rfl, rfl, rfl, Or.inr ⟨_, rfl⟩⟩
theorem fl_X11_168 : flq RX11 168 11 79 68 68 false true := ⟨RX11, TX11, tyX11, clk_11, by decide, rfl, tb5 188 rfl rfl, rfl, rfl, rfl, Or.inr ⟨_, rfl⟩⟩
theorem fl_X11_171 : flq RX11 171 11 79 69 69 false true := ⟨RX11, TX11, tyX11, clk_11, by decide, rfl, tb5 189 rfl rfl, rfl, rfl, rfl, Or.inr ⟨_, rfl⟩⟩
theorem fl_X11_438 : flq RX11 438 11 79 70 70 true false := ⟨RX11, TX11, tyX11, clk_11, by decide, rfl, tb5 190 rfl rfl, rfl, rfl, rfl, rfl⟩
theorem fl_X11_174 : flq RX11 174 11 79 71 71 false true := ⟨RX11, TX11, tyX11, clk_11, by decide, rfl, tb5 191 rfl rfl, rfl, rfl, rfl, Or.inr ⟨_, rfl⟩⟩
theorem fl_X11_177 : flq RX11 177 11 79 72 72 false true := ⟨RX11, TX11, tyX11, clk_11, by decide, rfl, tb5 192 rfl rfl, rfl, rfl, rfl, Or.inr ⟨_, rfl⟩⟩
theorem fl_X11_180 : flq RX11 180 11 79 73 73 false true := ⟨RX11, TX11, tyX11, clk_11, by decide, rfl, tb5 193 rfl rfl, rfl, rfl, rfl, Or.inr ⟨_, rfl⟩⟩
theorem fl_X11_183 : flq RX11 183 11 79 74 74 false true := ⟨RX11, TX11, tyX11, clk_11, by decide, rfl, tb5 194 rfl rfl, rfl, rfl, rfl, Or.inr ⟨_, rfl⟩⟩
theorem fl_X11_453 : flq RX11 453 11 79 75 75 true false := ⟨RX11, TX11, tyX11, clk_11, by decide, rfl, tb5 195 rfl rfl, rfl, rfl, rfl, rfl⟩
theorem fl_X11_186 : flq RX11 186 11 79 76 76 false true := ⟨RX11, TX11, tyX11, clk_11, by decide, rfl, tb5 196 rfl rfl, rfl, rfl, rfl, Or.inr ⟨_, rfl⟩⟩
theorem fl_X11_189 : flq RX11 189 11 79 77 77 false true := ⟨RX11, TX11, tyX11, clk_11, by decide, rfl, tb5 197 rfl rfl, rfl, rfl, rfl, Or.inr ⟨_, rfl⟩⟩
theorem fl_X11_192 : flq RX11 192 11 79 78 78 false true := ⟨RX11, TX11, tyX11, clk_11, by decide, rfl, tb5 198 rfl rfl, rfl, rfl, rfl, Or.inr ⟨_, rfl⟩⟩
theorem sl_X10_127 : Cond.fieldLink RX10 127 "WharfPapers" "HAS_P" "[I" ∈ tbG := tb3 21 rfl rfl
theorem sl_X10_130 : Cond.fieldLink RX10 130 "WharfPapers" "LEAST_N" "[I" ∈ tbG := tb3 23 rfl rfl
theorem sl_X10_137 : Cond.fieldLink RX10 137 "WharfPapers" "MOST_N" "[I" ∈ tbG := tb3 38 rfl rfl
theorem sl_X8_65 : Cond.fieldLink RX8 65 "WharfPapers$Terms" "AT_FIRST" "[I" ∈ tbG := tb3 104 rfl rfl
theorem sl_J0_38 : Cond.fieldLink "java/lang/String" 38 "java/lang/String" "COMPACT_STRINGS" "Z" ∈ tbG := tb3 230 rfl rfl
theorem sl_J0_1053 : Cond.fieldLink "java/lang/String" 1053 "jdk/internal/util/Preconditions" "SIOOBE_FORMATTER" "Ljava/util/function/BiFunction;" ∈ tbG := tb4 6 rfl rfl
theorem sl_J2_44 : Cond.fieldLink "java/lang/StringUTF16" 44 "java/lang/StringUTF16" "$assertionsDisabled" "Z" ∈ tbG := tb4 24 rfl rfl
theorem sl_J2_59 : Cond.fieldLink "java/lang/StringUTF16" 59 "java/lang/StringUTF16" "HI_BYTE_SHIFT" "I" ∈ tbG := tb4 26 rfl rfl
theorem sl_J2_63 : Cond.fieldLink "java/lang/StringUTF16" 63 "java/lang/StringUTF16" "LO_BYTE_SHIFT" "I" ∈ tbG := tb4 28 rfl rfl
theorem sl_X5_72 : Cond.fieldLink RX5 72 "WharfPapers$Reader" "MOST_OF_NAME" "[I" ∈ tbG := tb4 38 rfl rfl
theorem sl_X4_71 : Cond.fieldLink RX4 71 "WharfPapers$Plan" "OF_A_FLOOR" "[I" ∈ tbG := tb5 82 rfl rfl
theorem sl_J0_9 : Cond.fieldLink "java/lang/String" 9 "java/lang/String" "value" "[B" ∈ tbG := tb7 230 rfl rfl
theorem sl_J0_15 : Cond.fieldLink "java/lang/String" 15 "java/lang/String" "coder" "B" ∈ tbG := tb7 231 rfl rfl
theorem ml_L_9 : Cond.methodLink "WharfPapersLaw" 9 M_X10_init.1 ∈ tbG := tb1 21 rfl rfl
theorem ml_X10_1 : Cond.methodLink RX10 1 Lib.objectInit ∈ tbG := tb1 24 rfl rfl
theorem ml_X10_15 : (RX10, 15, M_X3_init.1, "WharfPapers") ∈ nstq := nthq_mem (i := 0) rfl
theorem ml_X3_3 : Cond.methodLink RX3 3 Lib.objectInit ∈ tbG := tb1 32 rfl rfl
theorem ml_X10_22 : (RX10, 22, M_X2_init.1, "WharfPapers") ∈ nstq := nthq_mem (i := 1) rfl
theorem ml_X2_3 : Cond.methodLink RX2 3 Lib.objectInit ∈ tbG := tb1 69 rfl rfl
theorem ml_X10_29 : (RX10, 29, M_X8_init.1, "WharfPapers") ∈ nstq := nthq_mem (i := 2) rfl
theorem ml_X8_3 : Cond.methodLink RX8 3 Lib.objectInit ∈ tbG := tb1 127 rfl rfl
theorem ml_X10_36 : (RX10, 36, M_X5_init.1, "WharfPapers") ∈ nstq := nthq_mem (i := 3) rfl
theorem ml_X5_3 : Cond.methodLink RX5 3 Lib.objectInit ∈ tbG := tb1 164 rfl rfl
theorem ml_X10_43 : Cond.methodLink RX10 43 M_X7_init.1 ∈ tbG := tb1 201 rfl rfl
theorem ml_X7_3 : Cond.methodLink RX7 3 Lib.objectInit ∈ tbG := tb1 204 rfl rfl
theorem ml_X10_55 : (RX10, 55, M_X0_init.1, "WharfPapers") ∈ nstq := nthq_mem (i := 4) rfl
theorem ml_X0_3 : Cond.methodLink RX0 3 Lib.objectInit ∈ tbG := tb2 35 rfl rfl
theorem ml_X10_62 : (RX10, 62, M_X9_init.1, "WharfPapers") ∈ nstq := nthq_mem (i := 5) rfl
theorem ml_X9_1 : Cond.methodLink RX9 1 Lib.objectInit ∈ tbG := tb2 52 rfl rfl
theorem ml_X10_74 : (RX10, 74, M_X6_init.1, "WharfPapers") ∈ nstq := nthq_mem (i := 6) rfl
theorem ml_X6_3 : Cond.methodLink RX6 3 Lib.objectInit ∈ tbG := tb2 80 rfl rfl
theorem ml_X10_81 : (RX10, 81, M_X1_init.1, "WharfPapers") ∈ nstq := nthq_mem (i := 7) rfl
theorem ml_X1_3 : Cond.methodLink RX1 3 Lib.objectInit ∈ tbG := tb2 112 rfl rfl
theorem ml_X10_95 : (RX10, 95, M_X4_init.1, "WharfPapers") ∈ nstq := nthq_mem (i := 8) rfl
theorem ml_X4_3 : Cond.methodLink RX4 3 Lib.objectInit ∈ tbG := tb2 151 rfl rfl
theorem ml_L_13 : Cond.methodLink "WharfPapersLaw" 13 M_X10_go.1 ∈ tbG := tb2 221 rfl rfl
theorem ml_X10_100 : Cond.methodLink RX10 100 M_X10_within.1 ∈ tbG := tb2 225 rfl rfl
theorem ml_L_18 : Cond.methodLink "WharfPapersLaw" 18 M_X10_lot.1 ∈ tbG := tb2 228 rfl rfl
theorem ml_X10_104 : Cond.methodLink RX10 104 M_X10_isHouse.1 ∈ tbG := tb2 232 rfl rfl
theorem ml_X10_108 : Cond.methodLink RX10 108 M_X10_isFloor.1 ∈ tbG := tb2 235 rfl rfl
theorem ml_X10_111 : Cond.methodLink RX10 111 M_X10_isSort.1 ∈ tbG := tb2 238 rfl rfl
theorem ml_X10_117 : Cond.methodLink RX10 117 M_X3_add.1 ∈ tbG := tb3 1 rfl rfl
theorem ml_L_23 : Cond.methodLink "WharfPapersLaw" 23 M_X10_room.1 ∈ tbG := tb3 5 rfl rfl
theorem ml_L_28 : Cond.methodLink "WharfPapersLaw" 28 M_X10_move.1 ∈ tbG := tb3 9 rfl rfl
theorem ml_X10_121 : Cond.methodLink RX10 121 M_X3_has.1 ∈ tbG := tb3 13 rfl rfl
theorem ml_L_32 : Cond.methodLink "WharfPapersLaw" 32 M_X10_line.1 ∈ tbG := tb3 17 rfl rfl
theorem ml_X10_133 : Cond.methodLink RX10 133 M_X10_isTarget.1 ∈ tbG := tb3 25 rfl rfl
theorem ml_X10_144 : Cond.methodLink RX10 144 M_X2_has.1 ∈ tbG := tb3 29 rfl rfl
theorem ml_X10_232 : Cond.methodLink RX10 232 M_X2_isPaper.1 ∈ tbG := tb3 33 rfl rfl
theorem ml_X2_44 : Cond.methodLink RX2 44 M_X2_has.1 ∈ tbG := tb3 37 rfl rfl
theorem ml_X10_141 : Cond.methodLink RX10 141 M_X2_add.1 ∈ tbG := tb3 40 rfl rfl
theorem ml_L_37 : Cond.methodLink "WharfPapersLaw" 37 M_X10_told.1 ∈ tbG := tb3 44 rfl rfl
theorem ml_X10_166 : Cond.methodLink RX10 166 M_X2_know.1 ∈ tbG := tb3 48 rfl rfl
theorem ml_X10_174 : Cond.methodLink RX10 174 M_X7_tell.1 ∈ tbG := tb3 52 rfl rfl
theorem ml_X7_61 : Cond.methodLink RX7 61 M_X7_clear.1 ∈ tbG := tb3 56 rfl rfl
theorem ml_X7_64 : Cond.methodLink RX7 64 M_X2_know.1 ∈ tbG := tb3 60 rfl rfl
theorem ml_X7_77 : Cond.methodLink RX7 77 M_X2_isInBook.1 ∈ tbG := tb3 61 rfl rfl
theorem ml_X7_84 : Cond.methodLink RX7 84 M_X7_isDone.1 ∈ tbG := tb3 65 rfl rfl
theorem ml_X7_99 : Cond.methodLink RX7 99 M_X7_issue.1 ∈ tbG := tb3 69 rfl rfl
theorem ml_X7_136 : Cond.methodLink RX7 136 M_X7_make.1 ∈ tbG := tb3 73 rfl rfl
theorem ml_X7_140 : Cond.methodLink RX7 140 M_X7_overOf.1 ∈ tbG := tb3 77 rfl rfl
theorem ml_X7_144 : Cond.methodLink RX7 144 M_X7_thereOf.1 ∈ tbG := tb3 81 rfl rfl
theorem ml_X7_160 : Cond.methodLink RX7 160 M_J9_max_7cf53.1 ∈ tbG := tb3 85 rfl rfl
theorem ml_X7_103 : Cond.methodLink RX7 103 M_X7_pass.1 ∈ tbG := tb3 88 rfl rfl
theorem ml_X7_150 : Cond.methodLink RX7 150 M_X8_on.1 ∈ tbG := tb3 92 rfl rfl
theorem ml_X8_51 : Cond.methodLink RX8 51 M_X8_hold.1 ∈ tbG := tb3 96 rfl rfl
theorem ml_X8_62 : Cond.methodLink RX8 62 M_X8_strike.1 ∈ tbG := tb3 100 rfl rfl
theorem ml_X8_68 : Cond.methodLink RX8 68 M_X8_rule.1 ∈ tbG := tb3 106 rfl rfl
theorem ml_X7_106 : Cond.methodLink RX7 106 M_X7_divide.1 ∈ tbG := tb3 110 rfl rfl
theorem ml_X7_156 : Cond.methodLink RX7 156 M_X7_isBound.1 ∈ tbG := tb3 114 rfl rfl
theorem ml_X7_109 : Cond.methodLink RX7 109 M_X7_lend.1 ∈ tbG := tb3 118 rfl rfl
theorem ml_X7_112 : Cond.methodLink RX7 112 M_X7_repay.1 ∈ tbG := tb3 122 rfl rfl
theorem ml_X7_115 : Cond.methodLink RX7 115 M_X7_stop.1 ∈ tbG := tb3 126 rfl rfl
theorem ml_X7_118 : Cond.methodLink RX7 118 M_X7_free.1 ∈ tbG := tb3 130 rfl rfl
theorem ml_X7_121 : Cond.methodLink RX7 121 M_X7_handOut.1 ∈ tbG := tb3 134 rfl rfl
theorem ml_X7_124 : Cond.methodLink RX7 124 M_X7_burn.1 ∈ tbG := tb3 138 rfl rfl
theorem ml_X7_127 : Cond.methodLink RX7 127 M_X7_steal.1 ∈ tbG := tb3 142 rfl rfl
theorem ml_L_41 : Cond.methodLink "WharfPapersLaw" 41 M_X10_book.1 ∈ tbG := tb3 146 rfl rfl
theorem ml_X10_181 : Cond.methodLink RX10 181 M_X2_inBookAt.1 ∈ tbG := tb3 150 rfl rfl
theorem ml_X2_51 : Cond.methodLink RX2 51 M_X2_isInBook.1 ∈ tbG := tb3 154 rfl rfl
theorem ml_L_45 : Cond.methodLink "WharfPapersLaw" 45 M_X10_count.1 ∈ tbG := tb3 155 rfl rfl
theorem ml_X10_185 : Cond.methodLink RX10 185 M_X2_voidCount.1 ∈ tbG := tb3 159 rfl rfl
theorem ml_X10_189 : Cond.methodLink RX10 189 M_X7_vainCount.1 ∈ tbG := tb3 163 rfl rfl
theorem ml_X10_192 : Cond.methodLink RX10 192 M_X7_papersWithCasks.1 ∈ tbG := tb3 167 rfl rfl
theorem ml_L_51 : Cond.methodLink "WharfPapersLaw" 51 M_X10_feed.1 ∈ tbG := tb3 171 rfl rfl
theorem ml_X10_205 : Cond.methodLink RX10 205 M_X5_add.1 ∈ tbG := tb3 175 rfl rfl
theorem ml_L_56 : Cond.methodLink "WharfPapersLaw" 56 M_X10_term.1 ∈ tbG := tb3 179 rfl rfl
theorem ml_X10_207 : Cond.methodLink RX10 207 M_X10_isDay.1 ∈ tbG := tb3 183 rfl rfl
theorem ml_X10_210 : Cond.methodLink RX10 210 M_X5_read.1 ∈ tbG := tb3 186 rfl rfl
theorem ml_X5_37 : Cond.methodLink RX5 37 M_X5_skipBlanks.1 ∈ tbG := tb3 190 rfl rfl
theorem ml_X5_40 : Cond.methodLink RX5 40 M_X5_readClause.1 ∈ tbG := tb3 194 rfl rfl
theorem ml_X5_44 : Cond.methodLink RX5 44 M_X5_takeWord.1 ∈ tbG := tb3 198 rfl rfl
theorem ml_X5_82 : Cond.methodLink RX5 82 M_X5_spelling.1 ∈ tbG := tb3 202 rfl rfl
theorem ml_X5_86 : Cond.methodLink RX5 86 M_X5_isSpelled.1 ∈ tbG := tb3 218 rfl rfl
theorem ml_X5_90 : Cond.methodLink RX5 90 M_J0_length_8abf5.1 ∈ tbG := tb3 222 rfl rfl
theorem ml_J0_335 : Cond.methodLink "java/lang/String" 335 M_J0_coder_7d493.1 ∈ tbG := tb3 226 rfl rfl
theorem ml_X5_94 : Cond.methodLink RX5 94 M_J0_charAt_5068e.1 ∈ tbG := tb3 232 rfl rfl
theorem ml_J0_492 : Cond.methodLink "java/lang/String" 492 M_J0_isLatin1_aae02.1 ∈ tbG := tb3 236 rfl rfl
theorem ml_J0_495 : Cond.methodLink "java/lang/String" 495 M_J1_charAt_3b067.1 ∈ tbG := tb4 0 rfl rfl
theorem ml_J1_9 : Cond.methodLink "java/lang/StringLatin1" 9 M_J0_checkIndex_df160.1 ∈ tbG := tb4 3 rfl rfl
theorem ml_J0_1059 : Cond.methodLink "java/lang/String" 1059 M_J3_checkIndex_8e157.1 ∈ tbG := tb4 8 rfl rfl
theorem ml_J0_498 : Cond.methodLink "java/lang/String" 498 M_J2_charAt_3b067.1 ∈ tbG := tb4 11 rfl rfl
theorem ml_J2_67 : Cond.methodLink "java/lang/StringUTF16" 67 M_J2_checkIndex_2214a.1 ∈ tbG := tb4 14 rfl rfl
theorem ml_J2_48 : Cond.methodLink "java/lang/StringUTF16" 48 M_J2_length_9d52b.1 ∈ tbG := tb4 17 rfl rfl
theorem ml_J2_414 : Cond.methodLink "java/lang/StringUTF16" 414 M_J0_checkIndex_df160.1 ∈ tbG := tb4 20 rfl rfl
theorem ml_J2_71 : Cond.methodLink "java/lang/StringUTF16" 71 M_J2_getChar_3b067.1 ∈ tbG := tb4 21 rfl rfl
theorem ml_X5_51 : Cond.methodLink RX5 51 M_X5_fail.1 ∈ tbG := tb4 30 rfl rfl
theorem ml_X5_55 : Cond.methodLink RX5 55 M_X5_readLet.1 ∈ tbG := tb4 34 rfl rfl
theorem ml_X5_75 : Cond.methodLink RX5 75 M_X5_takeNumber.1 ∈ tbG := tb4 40 rfl rfl
theorem ml_X5_65 : Cond.methodLink RX5 65 M_X5_keep.1 ∈ tbG := tb4 44 rfl rfl
theorem ml_X5_78 : Cond.methodLink RX5 78 M_X5_takeIf.1 ∈ tbG := tb4 48 rfl rfl
theorem ml_X5_58 : Cond.methodLink RX5 58 M_X5_readDry.1 ∈ tbG := tb4 52 rfl rfl
theorem ml_X5_61 : Cond.methodLink RX5 61 M_X5_takeKeys.1 ∈ tbG := tb4 56 rfl rfl
theorem ml_X5_68 : Cond.methodLink RX5 68 M_X5_takeTerm.1 ∈ tbG := tb4 60 rfl rfl
theorem ml_X10_216 : Cond.methodLink RX10 216 M_X8_add.1 ∈ tbG := tb4 64 rfl rfl
theorem ml_L_60 : Cond.methodLink "WharfPapersLaw" 60 M_X10_fault.1 ∈ tbG := tb4 69 rfl rfl
theorem ml_L_65 : Cond.methodLink "WharfPapersLaw" 65 M_X10_force.1 ∈ tbG := tb4 73 rfl rfl
theorem ml_X10_222 : Cond.methodLink RX10 222 M_X8_on.1 ∈ tbG := tb4 77 rfl rfl
theorem ml_X10_226 : Cond.methodLink RX10 226 M_X8_keysOn.1 ∈ tbG := tb4 78 rfl rfl
theorem ml_X8_59 : Cond.methodLink RX8 59 M_X8_keyOn.1 ∈ tbG := tb4 82 rfl rfl
theorem ml_X8_55 : Cond.methodLink RX8 55 M_X8_on.1 ∈ tbG := tb4 86 rfl rfl
theorem ml_X10_229 : Cond.methodLink RX10 229 M_X8_keyOn.1 ∈ tbG := tb4 87 rfl rfl
theorem ml_L_69 : Cond.methodLink "WharfPapersLaw" 69 M_X10_paper.1 ∈ tbG := tb4 88 rfl rfl
theorem ml_X10_235 : Cond.methodLink RX10 235 M_X10_isAsked.1 ∈ tbG := tb4 92 rfl rfl
theorem ml_L_74 : Cond.methodLink "WharfPapersLaw" 74 M_X10_goods.1 ∈ tbG := tb4 96 rfl rfl
theorem ml_X10_262 : Cond.methodLink RX10 262 M_X7_thereOf.1 ∈ tbG := tb4 100 rfl rfl
theorem ml_X10_274 : Cond.methodLink RX10 274 M_X7_overOf.1 ∈ tbG := tb4 101 rfl rfl
theorem ml_L_78 : Cond.methodLink "WharfPapersLaw" 78 M_X10_share.1 ∈ tbG := tb4 102 rfl rfl
theorem ml_X10_277 : Cond.methodLink RX10 277 M_X10_shareAsTold.1 ∈ tbG := tb4 106 rfl rfl
theorem ml_X10_379 : Cond.methodLink RX10 379 M_X10_commonDivisor.1 ∈ tbG := tb4 110 rfl rfl
theorem ml_X10_313 : Cond.methodLink RX10 313 M_J9_max_7cf53.1 ∈ tbG := tb4 113 rfl rfl
theorem ml_L_82 : Cond.methodLink "WharfPapersLaw" 82 M_X10_doubt.1 ∈ tbG := tb4 114 rfl rfl
theorem ml_X10_281 : Cond.methodLink RX10 281 M_X0_find.1 ∈ tbG := tb4 118 rfl rfl
theorem ml_X0_22 : Cond.methodLink RX0 22 M_X7_overOf.1 ∈ tbG := tb4 122 rfl rfl
theorem ml_X0_28 : Cond.methodLink RX0 28 M_X0_isOf.1 ∈ tbG := tb4 123 rfl rfl
theorem ml_X0_45 : (RX0, 45, M_X10_within.1, "WharfPapers") ∈ nstq := nthq_mem (i := 9) rfl
theorem ml_X0_35 : Cond.methodLink RX0 35 M_X0_fewest.1 ∈ tbG := tb4 128 rfl rfl
theorem ml_X0_49 : Cond.methodLink RX0 49 M_J9_min_7cf53.1 ∈ tbG := tb4 132 rfl rfl
theorem ml_X10_286 : Cond.methodLink RX10 286 M_X0_at.1 ∈ tbG := tb4 135 rfl rfl
theorem ml_L_86 : Cond.methodLink "WharfPapersLaw" 86 M_X10_stock.1 ∈ tbG := tb4 139 rfl rfl
theorem ml_X10_289 : Cond.methodLink RX10 289 M_X7_casksOf.1 ∈ tbG := tb4 143 rfl rfl
theorem ml_L_91 : Cond.methodLink "WharfPapersLaw" 91 M_X10_news.1 ∈ tbG := tb4 147 rfl rfl
theorem ml_X10_293 : Cond.methodLink RX10 293 M_X7_unlike.1 ∈ tbG := tb4 151 rfl rfl
theorem ml_X7_168 : Cond.methodLink RX7 168 M_X7_isHadOtherwise.1 ∈ tbG := tb4 155 rfl rfl
theorem ml_L_95 : Cond.methodLink "WharfPapersLaw" 95 M_X10_rent.1 ∈ tbG := tb4 159 rfl rfl
theorem ml_X10_297 : Cond.methodLink RX10 297 M_X10_rentAsTold.1 ∈ tbG := tb4 163 rfl rfl
theorem ml_L_99 : Cond.methodLink "WharfPapersLaw" 99 M_X10_weight.1 ∈ tbG := tb4 167 rfl rfl
theorem ml_X10_300 : Cond.methodLink RX10 300 M_X10_caskWeight.1 ∈ tbG := tb4 171 rfl rfl
theorem ml_L_103 : Cond.methodLink "WharfPapersLaw" 103 M_X10_weigh.1 ∈ tbG := tb4 175 rfl rfl
theorem ml_X10_304 : Cond.methodLink RX10 304 M_X9_add.1 ∈ tbG := tb4 180 rfl rfl
theorem ml_L_107 : Cond.methodLink "WharfPapersLaw" 107 M_X10_loss.1 ∈ tbG := tb4 184 rfl rfl
theorem ml_L_111 : Cond.methodLink "WharfPapersLaw" 111 M_X10_unpaid.1 ∈ tbG := tb4 189 rfl rfl
theorem ml_L_115 : Cond.methodLink "WharfPapersLaw" 115 M_X10_money.1 ∈ tbG := tb4 193 rfl rfl
theorem ml_X10_321 : Cond.methodLink RX10 321 M_X10_wanted.1 ∈ tbG := tb4 198 rfl rfl
theorem ml_X10_389 : Cond.methodLink RX10 389 M_X7_lentOn.1 ∈ tbG := tb4 202 rfl rfl
theorem ml_X10_392 : Cond.methodLink RX10 392 M_X10_unpaidFor.1 ∈ tbG := tb4 206 rfl rfl
theorem ml_X10_324 : Cond.methodLink RX10 324 M_J9_min_7cf53.1 ∈ tbG := tb4 210 rfl rfl
theorem ml_L_119 : Cond.methodLink "WharfPapersLaw" 119 M_X10_sale.1 ∈ tbG := tb4 211 rfl rfl
theorem ml_X10_327 : Cond.methodLink RX10 327 M_X6_add.1 ∈ tbG := tb4 215 rfl rfl
theorem ml_L_123 : Cond.methodLink "WharfPapersLaw" 123 M_X10_net.1 ∈ tbG := tb4 219 rfl rfl
theorem ml_X10_328 : Cond.methodLink RX10 328 M_X6_netOf.1 ∈ tbG := tb4 223 rfl rfl
theorem ml_L_127 : Cond.methodLink "WharfPapersLaw" 127 M_X10_handings.1 ∈ tbG := tb4 227 rfl rfl
theorem ml_X10_331 : Cond.methodLink RX10 331 M_X6_fewestHandings.1 ∈ tbG := tb4 231 rfl rfl
theorem ml_X6_37 : Cond.methodLink RX6 37 M_X6_netOf.1 ∈ tbG := tb4 235 rfl rfl
theorem ml_X6_41 : Cond.methodLink RX6 41 M_X6_mostGroups.1 ∈ tbG := tb4 236 rfl rfl
theorem ml_X6_45 : Cond.methodLink RX6 45 M_J9_max_7cf53.1 ∈ tbG := tb5 0 rfl rfl
theorem ml_L_131 : Cond.methodLink "WharfPapersLaw" 131 M_X10_due.1 ∈ tbG := tb5 1 rfl rfl
theorem ml_X10_334 : Cond.methodLink RX10 334 M_X1_add.1 ∈ tbG := tb5 5 rfl rfl
theorem ml_L_135 : Cond.methodLink "WharfPapersLaw" 135 M_X10_coin.1 ∈ tbG := tb5 9 rfl rfl
theorem ml_L_139 : Cond.methodLink "WharfPapersLaw" 139 M_X10_fails.1 ∈ tbG := tb5 13 rfl rfl
theorem ml_X10_340 : Cond.methodLink RX10 340 M_X1_settle.1 ∈ tbG := tb5 17 rfl rfl
theorem ml_X1_37 : Cond.methodLink RX1 37 M_X1_begin.1 ∈ tbG := tb5 21 rfl rfl
theorem ml_X1_47 : Cond.methodLink RX1 47 M_X1_receive.1 ∈ tbG := tb5 25 rfl rfl
theorem ml_X1_43 : Cond.methodLink RX1 43 M_X1_isRoundChanging.1 ∈ tbG := tb5 29 rfl rfl
theorem ml_X1_50 : Cond.methodLink RX1 50 M_X1_partOf.1 ∈ tbG := tb5 33 rfl rfl
theorem ml_X1_54 : Cond.methodLink RX1 54 M_X1_isShort.1 ∈ tbG := tb5 37 rfl rfl
theorem ml_X10_343 : Cond.methodLink RX10 343 M_X1_isShort.1 ∈ tbG := tb5 41 rfl rfl
theorem ml_X10_348 : Cond.methodLink RX10 348 M_X1_givenBy.1 ∈ tbG := tb5 42 rfl rfl
theorem ml_X10_357 : Cond.methodLink RX10 357 M_X1_shortCount.1 ∈ tbG := tb5 46 rfl rfl
theorem ml_L_143 : Cond.methodLink "WharfPapersLaw" 143 M_X10_part.1 ∈ tbG := tb5 50 rfl rfl
theorem ml_L_148 : Cond.methodLink "WharfPapersLaw" 148 M_X10_plan.1 ∈ tbG := tb5 54 rfl rfl
theorem ml_X10_360 : Cond.methodLink RX10 360 M_J6_bitCount_0f7a4.1 ∈ tbG := tb5 58 rfl rfl
theorem ml_X10_365 : Cond.methodLink RX10 365 M_X4_lay.1 ∈ tbG := tb5 64 rfl rfl
theorem ml_X4_37 : Cond.methodLink RX4 37 M_X4_choose.1 ∈ tbG := tb5 68 rfl rfl
theorem ml_X4_41 : Cond.methodLink RX4 41 M_X4_gather.1 ∈ tbG := tb5 72 rfl rfl
theorem ml_X4_51 : Cond.methodLink RX4 51 M_X7_thereOf.1 ∈ tbG := tb5 76 rfl rfl
theorem ml_X4_60 : Cond.methodLink RX4 60 M_X4_priceOn.1 ∈ tbG := tb5 78 rfl rfl
theorem ml_X4_64 : Cond.methodLink RX4 64 M_X4_shut.1 ∈ tbG := tb5 85 rfl rfl
theorem ml_X4_76 : Cond.methodLink RX4 76 M_X4_isParted.1 ∈ tbG := tb5 89 rfl rfl
theorem ml_X4_68 : Cond.methodLink RX4 68 M_X4_openFloor.1 ∈ tbG := tb5 93 rfl rfl
theorem ml_X4_80 : Cond.methodLink RX4 80 M_J6_bitCount_0f7a4.1 ∈ tbG := tb5 97 rfl rfl
theorem ml_X4_85 : Cond.methodLink RX4 85 M_J9_min_f86c9.1 ∈ tbG := tb5 98 rfl rfl
theorem ml_X10_369 : Cond.methodLink RX10 369 M_X4_isFound.1 ∈ tbG := tb5 101 rfl rfl
theorem ml_X10_373 : Cond.methodLink RX10 373 M_X4_moved.1 ∈ tbG := tb5 105 rfl rfl
theorem ml_X10_376 : Cond.methodLink RX10 376 M_X4_floorOf.1 ∈ tbG := tb5 109 rfl rfl
theorem ml_L_12 : Cond.methodLink "WharfPapersLaw" 12 M_X11_init.1 ∈ tbG := tb5 116 rfl rfl
theorem ml_X11_1 : Cond.methodLink RX11 1 Lib.objectInit ∈ tbG := tb5 119 rfl rfl
theorem ml_L_17 : Cond.methodLink "WharfPapersLaw" 17 M_X11_go.1 ∈ tbG := tb6 118 rfl rfl
theorem ml_X11_197 : Cond.methodLink RX11 197 M_X11_in.1 ∈ tbG := tb6 123 rfl rfl
theorem ml_L_22 : Cond.methodLink "WharfPapersLaw" 22 M_X11_lot.1 ∈ tbG := tb6 126 rfl rfl
theorem ml_X11_213 : Cond.methodLink RX11 213 M_X11_isHouse.1 ∈ tbG := tb6 130 rfl rfl
theorem ml_X11_217 : Cond.methodLink RX11 217 M_X11_isFloor.1 ∈ tbG := tb6 134 rfl rfl
theorem ml_L_27 : Cond.methodLink "WharfPapersLaw" 27 M_X11_room.1 ∈ tbG := tb6 140 rfl rfl
theorem ml_L_31 : Cond.methodLink "WharfPapersLaw" 31 M_X11_move.1 ∈ tbG := tb6 144 rfl rfl
theorem ml_X11_224 : Cond.methodLink RX11 224 M_X11_noLot.1 ∈ tbG := tb6 148 rfl rfl
theorem ml_L_36 : Cond.methodLink "WharfPapersLaw" 36 M_X11_line.1 ∈ tbG := tb6 152 rfl rfl
theorem ml_X11_238 : Cond.methodLink RX11 238 M_X11_noTarget.1 ∈ tbG := tb6 157 rfl rfl
theorem ml_X11_230 : Cond.methodLink RX11 230 M_X11_isOfLot.1 ∈ tbG := tb6 161 rfl rfl
theorem ml_X11_233 : Cond.methodLink RX11 233 M_X11_isPaper.1 ∈ tbG := tb6 164 rfl rfl
theorem ml_X11_242 : Cond.methodLink RX11 242 M_X11_hasP.1 ∈ tbG := tb6 168 rfl rfl
theorem ml_X11_245 : Cond.methodLink RX11 245 M_X11_isKnown.1 ∈ tbG := tb6 171 rfl rfl
theorem ml_X11_248 : Cond.methodLink RX11 248 M_X11_hasMany.1 ∈ tbG := tb6 175 rfl rfl
theorem ml_X11_251 : Cond.methodLink RX11 251 M_X11_mostOf.1 ∈ tbG := tb6 178 rfl rfl
theorem ml_L_44 : Cond.methodLink "WharfPapersLaw" 44 M_X11_book.1 ∈ tbG := tb6 181 rfl rfl
theorem ml_X11_258 : Cond.methodLink RX11 258 M_X11_findBook.1 ∈ tbG := tb6 185 rfl rfl
theorem ml_L_55 : Cond.methodLink "WharfPapersLaw" 55 M_X11_feed.1 ∈ tbG := tb6 189 rfl rfl
theorem ml_L_59 : Cond.methodLink "WharfPapersLaw" 59 M_X11_term.1 ∈ tbG := tb6 195 rfl rfl
theorem ml_X11_326 : Cond.methodLink RX11 326 M_X11_isDay.1 ∈ tbG := tb6 199 rfl rfl
theorem ml_X11_275 : Cond.methodLink RX11 275 M_X11_here.1 ∈ tbG := tb6 203 rfl rfl
theorem ml_X11_301 : Cond.methodLink RX11 301 M_X11_takeWord.1 ∈ tbG := tb6 207 rfl rfl
theorem ml_X11_297 : Cond.methodLink RX11 297 M_X11_isWord.1 ∈ tbG := tb6 213 rfl rfl
theorem ml_X11_293 : Cond.methodLink RX11 293 M_X11_want.1 ∈ tbG := tb6 217 rfl rfl
theorem ml_X11_329 : Cond.methodLink RX11 329 M_X11_readClause.1 ∈ tbG := tb6 221 rfl rfl
theorem ml_X11_311 : Cond.methodLink RX11 311 M_X11_nameOf.1 ∈ tbG := tb6 225 rfl rfl
theorem ml_X11_314 : Cond.methodLink RX11 314 M_X11_mostOfName.1 ∈ tbG := tb6 229 rfl rfl
theorem ml_X11_317 : Cond.methodLink RX11 317 M_X11_takeNumber.1 ∈ tbG := tb6 232 rfl rfl
theorem ml_X11_320 : Cond.methodLink RX11 320 M_X11_readRank.1 ∈ tbG := tb6 238 rfl rfl
theorem ml_X11_304 : Cond.methodLink RX11 304 M_X11_keyOf.1 ∈ tbG := tb7 2 rfl rfl
theorem ml_X11_307 : Cond.methodLink RX11 307 M_X11_one.1 ∈ tbG := tb7 6 rfl rfl
theorem ml_L_64 : Cond.methodLink "WharfPapersLaw" 64 M_X11_fault.1 ∈ tbG := tb7 9 rfl rfl
theorem ml_L_68 : Cond.methodLink "WharfPapersLaw" 68 M_X11_force.1 ∈ tbG := tb7 13 rfl rfl
theorem ml_X11_341 : Cond.methodLink RX11 341 M_X11_findTerms.1 ∈ tbG := tb7 18 rfl rfl
theorem ml_L_40 : Cond.methodLink "WharfPapersLaw" 40 M_X11_told.1 ∈ tbG := tb7 22 rfl rfl
theorem ml_X11_378 : Cond.methodLink RX11 378 M_X11_tell.1 ∈ tbG := tb7 26 rfl rfl
theorem ml_X11_375 : Cond.methodLink RX11 375 M_X11_befall.1 ∈ tbG := tb7 30 rfl rfl
theorem ml_X11_354 : Cond.methodLink RX11 354 M_X11_issue.1 ∈ tbG := tb7 34 rfl rfl
theorem ml_X11_344 : Cond.methodLink RX11 344 M_X11_lay.1 ∈ tbG := tb7 38 rfl rfl
theorem ml_X11_351 : Cond.methodLink RX11 351 M_X11_onPapers.1 ∈ tbG := tb7 42 rfl rfl
theorem ml_X11_348 : Cond.methodLink RX11 348 M_X11_there.1 ∈ tbG := tb7 46 rfl rfl
theorem ml_X11_357 : Cond.methodLink RX11 357 M_X11_burn.1 ∈ tbG := tb7 50 rfl rfl
theorem ml_X11_360 : Cond.methodLink RX11 360 M_X11_pass.1 ∈ tbG := tb7 54 rfl rfl
theorem ml_X11_363 : Cond.methodLink RX11 363 M_X11_partFrom.1 ∈ tbG := tb7 58 rfl rfl
theorem ml_X11_366 : Cond.methodLink RX11 366 M_X11_lend.1 ∈ tbG := tb7 62 rfl rfl
theorem ml_X11_369 : Cond.methodLink RX11 369 M_X11_handOut.1 ∈ tbG := tb7 66 rfl rfl
theorem ml_X11_372 : Cond.methodLink RX11 372 M_X11_change.1 ∈ tbG := tb7 70 rfl rfl
theorem ml_L_48 : Cond.methodLink "WharfPapersLaw" 48 M_X11_count.1 ∈ tbG := tb7 74 rfl rfl
theorem ml_X11_381 : Cond.methodLink RX11 381 M_X11_linesNow.1 ∈ tbG := tb7 78 rfl rfl
theorem ml_X11_384 : Cond.methodLink RX11 384 M_X11_papersToday.1 ∈ tbG := tb7 82 rfl rfl
theorem ml_L_73 : Cond.methodLink "WharfPapersLaw" 73 M_X11_paper.1 ∈ tbG := tb7 86 rfl rfl
theorem ml_X11_396 : Cond.methodLink RX11 396 M_X11_whyNot.1 ∈ tbG := tb7 90 rfl rfl
theorem ml_L_77 : Cond.methodLink "WharfPapersLaw" 77 M_X11_goods.1 ∈ tbG := tb7 94 rfl rfl
theorem ml_X11_400 : Cond.methodLink RX11 400 M_X11_over.1 ∈ tbG := tb7 98 rfl rfl
theorem ml_L_81 : Cond.methodLink "WharfPapersLaw" 81 M_X11_share.1 ∈ tbG := tb7 102 rfl rfl
theorem ml_X11_403 : Cond.methodLink RX11 403 M_X11_gcd.1 ∈ tbG := tb7 106 rfl rfl
theorem ml_L_85 : Cond.methodLink "WharfPapersLaw" 85 M_X11_doubt.1 ∈ tbG := tb7 109 rfl rfl
theorem ml_X11_410 : Cond.methodLink RX11 410 M_X11_fewestFrom.1 ∈ tbG := tb7 113 rfl rfl
theorem ml_L_90 : Cond.methodLink "WharfPapersLaw" 90 M_X11_stock.1 ∈ tbG := tb7 117 rfl rfl
theorem ml_L_94 : Cond.methodLink "WharfPapersLaw" 94 M_X11_news.1 ∈ tbG := tb7 121 rfl rfl
theorem ml_L_98 : Cond.methodLink "WharfPapersLaw" 98 M_X11_rent.1 ∈ tbG := tb7 125 rfl rfl
theorem ml_X11_413 : Cond.methodLink RX11 413 M_X11_rentOf.1 ∈ tbG := tb7 129 rfl rfl
theorem ml_L_102 : Cond.methodLink "WharfPapersLaw" 102 M_X11_weight.1 ∈ tbG := tb7 133 rfl rfl
theorem ml_X11_416 : Cond.methodLink RX11 416 M_X11_weightOn.1 ∈ tbG := tb7 137 rfl rfl
theorem ml_L_106 : Cond.methodLink "WharfPapersLaw" 106 M_X11_weigh.1 ∈ tbG := tb7 141 rfl rfl
theorem ml_L_110 : Cond.methodLink "WharfPapersLaw" 110 M_X11_loss.1 ∈ tbG := tb7 146 rfl rfl
theorem ml_L_114 : Cond.methodLink "WharfPapersLaw" 114 M_X11_unpaid.1 ∈ tbG := tb7 152 rfl rfl
theorem ml_L_118 : Cond.methodLink "WharfPapersLaw" 118 M_X11_money.1 ∈ tbG := tb7 157 rfl rfl
theorem ml_X11_432 : Cond.methodLink RX11 432 M_X11_wants.1 ∈ tbG := tb7 163 rfl rfl
theorem ml_L_122 : Cond.methodLink "WharfPapersLaw" 122 M_X11_sale.1 ∈ tbG := tb7 168 rfl rfl
theorem ml_L_126 : Cond.methodLink "WharfPapersLaw" 126 M_X11_net.1 ∈ tbG := tb7 173 rfl rfl
theorem ml_L_130 : Cond.methodLink "WharfPapersLaw" 130 M_X11_handings.1 ∈ tbG := tb7 177 rfl rfl
theorem ml_L_134 : Cond.methodLink "WharfPapersLaw" 134 M_X11_due.1 ∈ tbG := tb7 181 rfl rfl
theorem ml_L_138 : Cond.methodLink "WharfPapersLaw" 138 M_X11_coin.1 ∈ tbG := tb7 185 rfl rfl
theorem ml_L_142 : Cond.methodLink "WharfPapersLaw" 142 M_X11_fails.1 ∈ tbG := tb7 189 rfl rfl
theorem ml_X11_447 : Cond.methodLink RX11 447 M_X11_goRounds.1 ∈ tbG := tb7 193 rfl rfl
theorem ml_X11_441 : Cond.methodLink RX11 441 M_X11_owes.1 ∈ tbG := tb7 197 rfl rfl
theorem ml_X11_444 : Cond.methodLink RX11 444 M_X11_has.1 ∈ tbG := tb7 201 rfl rfl
theorem ml_X11_450 : Cond.methodLink RX11 450 M_X11_gives.1 ∈ tbG := tb7 205 rfl rfl
theorem ml_L_147 : Cond.methodLink "WharfPapersLaw" 147 M_X11_part.1 ∈ tbG := tb7 209 rfl rfl
theorem ml_L_151 : Cond.methodLink "WharfPapersLaw" 151 M_X11_plan.1 ∈ tbG := tb7 213 rfl rfl
theorem ml_X11_456 : Cond.methodLink RX11 456 M_X11_put.1 ∈ tbG := tb7 217 rfl rfl
theorem ml_X11_463 : Cond.methodLink RX11 463 M_X11_layAll.1 ∈ tbG := tb7 221 rfl rfl
theorem ml_X11_460 : Cond.methodLink RX11 460 M_X11_mayLie.1 ∈ tbG := tb7 225 rfl rfl
theorem mi_X0_init : miq M_X0_init 0 := ⟨⟨tb2 34 rfl rfl, tb1 7 rfl rfl, by decide, by decide, by decide +kernel⟩, tb2 33 rfl rfl, rfl, rfl⟩
theorem mv_X0_find : mvq M_X0_find 3 := ⟨⟨tb4 121 rfl rfl, tb1 7 rfl rfl, by decide, by decide, by decide +kernel⟩, tb4 119 rfl rfl, tb4 120 rfl rfl⟩
theorem mv_X0_isOf : mvq M_X0_isOf 3 := ⟨⟨tb4 126 rfl rfl, tb1 7 rfl rfl, by decide, by decide, by decide +kernel⟩, tb4 125 rfl rfl, tbP (q := (M_X0_isOf.1, 3)) (nthq_mem (i := 32) rfl)⟩
theorem mv_X0_fewest : mvq M_X0_fewest 1 := ⟨⟨tb4 131 rfl rfl, tb1 7 rfl rfl, by decide, by decide, by decide +kernel⟩, tb4 130 rfl rfl, tbP (q := (M_X0_fewest.1, 3)) (nthq_mem (i := 33) rfl)⟩
theorem mv_X0_at : mvq M_X0_at 1 := ⟨⟨tb4 138 rfl rfl, tb1 7 rfl rfl, by decide, by decide, by decide +kernel⟩, tb4 136 rfl rfl, tb4 137 rfl rfl⟩
theorem mi_X1_init : miq M_X1_init 0 := ⟨⟨tb2 111 rfl rfl, tb1 10 rfl rfl, by decide, by decide, by decide +kernel⟩, tb2 110 rfl rfl, rfl, rfl⟩
theorem mv_X1_add : mvq M_X1_add 3 := ⟨⟨tb5 8 rfl rfl, tb1 10 rfl rfl, by decide, by decide, by decide +kernel⟩, tb5 6 rfl rfl, tb5 7 rfl rfl⟩
theorem mv_X1_settle : mvq M_X1_settle 0 := ⟨⟨tb5 20 rfl rfl, tb1 10 rfl rfl, by decide, by decide, by decide +kernel⟩, tb5 18 rfl rfl, tb5 19 rfl rfl⟩
theorem mv_X1_begin : mvq M_X1_begin 0 := ⟨⟨tb5 24 rfl rfl, tb1 10 rfl rfl, by decide, by decide, by decide +kernel⟩, tb5 23 rfl rfl, tbP (q := (M_X1_begin.1, 9)) (nthq_mem (i := 40) rfl)⟩
theorem mv_X1_isRoundChanging : mvq M_X1_isRoundChanging 0 := ⟨⟨tb5 32 rfl rfl, tb1 10 rfl rfl, by decide, by decide, by decide +kernel⟩, tb5 31 rfl rfl, tbP (q := (M_X1_isRoundChanging.1, 9)) (nthq_mem (i := 42) rfl)⟩
theorem mv_X1_partOf : mvq M_X1_partOf 2 := ⟨⟨tb5 36 rfl rfl, tb1 10 rfl rfl, by decide, by decide, by decide +kernel⟩, tb5 35 rfl rfl, tbP (q := (M_X1_partOf.1, 9)) (nthq_mem (i := 43) rfl)⟩
theorem mv_X1_isShort : mvq M_X1_isShort 1 := ⟨⟨tb5 40 rfl rfl, tb1 10 rfl rfl, by decide, by decide, by decide +kernel⟩, tb5 38 rfl rfl, tb5 39 rfl rfl⟩
theorem mv_X1_receive : mvq M_X1_receive 0 := ⟨⟨tb5 28 rfl rfl, tb1 10 rfl rfl, by decide, by decide, by decide +kernel⟩, tb5 27 rfl rfl, tbP (q := (M_X1_receive.1, 9)) (nthq_mem (i := 41) rfl)⟩
theorem mv_X1_givenBy : mvq M_X1_givenBy 1 := ⟨⟨tb5 45 rfl rfl, tb1 10 rfl rfl, by decide, by decide, by decide +kernel⟩, tb5 43 rfl rfl, tb5 44 rfl rfl⟩
theorem mv_X1_shortCount : mvq M_X1_shortCount 0 := ⟨⟨tb5 49 rfl rfl, tb1 10 rfl rfl, by decide, by decide, by decide +kernel⟩, tb5 47 rfl rfl, tb5 48 rfl rfl⟩
theorem mi_X2_init : miq M_X2_init 0 := ⟨⟨tb1 68 rfl rfl, tb1 3 rfl rfl, by decide, by decide, by decide +kernel⟩, tb1 67 rfl rfl, rfl, rfl⟩
theorem mv_X2_has : mvq M_X2_has 1 := ⟨⟨tb3 32 rfl rfl, tb1 3 rfl rfl, by decide, by decide, by decide +kernel⟩, tb3 30 rfl rfl, tb3 31 rfl rfl⟩
theorem mv_X2_isPaper : mvq M_X2_isPaper 1 := ⟨⟨tb3 36 rfl rfl, tb1 3 rfl rfl, by decide, by decide, by decide +kernel⟩, tb3 34 rfl rfl, tb3 35 rfl rfl⟩
theorem mv_X2_add : mvq M_X2_add 7 := ⟨⟨tb3 43 rfl rfl, tb1 3 rfl rfl, by decide, by decide, by decide +kernel⟩, tb3 41 rfl rfl, tb3 42 rfl rfl⟩
theorem mv_X2_know : mvq M_X2_know 1 := ⟨⟨tb3 51 rfl rfl, tb1 3 rfl rfl, by decide, by decide, by decide +kernel⟩, tb3 49 rfl rfl, tb3 50 rfl rfl⟩
theorem mv_X2_isInBook : mvq M_X2_isInBook 1 := ⟨⟨tb3 64 rfl rfl, tb1 3 rfl rfl, by decide, by decide, by decide +kernel⟩, tb3 62 rfl rfl, tb3 63 rfl rfl⟩
theorem mv_X2_inBookAt : mvq M_X2_inBookAt 1 := ⟨⟨tb3 153 rfl rfl, tb1 3 rfl rfl, by decide, by decide, by decide +kernel⟩, tb3 151 rfl rfl, tb3 152 rfl rfl⟩
theorem mv_X2_voidCount : mvq M_X2_voidCount 0 := ⟨⟨tb3 162 rfl rfl, tb1 3 rfl rfl, by decide, by decide, by decide +kernel⟩, tb3 160 rfl rfl, tb3 161 rfl rfl⟩
theorem mi_X3_init : miq M_X3_init 0 := ⟨⟨tb1 31 rfl rfl, tb1 2 rfl rfl, by decide, by decide, by decide +kernel⟩, tb1 30 rfl rfl, rfl, rfl⟩
theorem mv_X3_has : mvq M_X3_has 1 := ⟨⟨tb3 16 rfl rfl, tb1 2 rfl rfl, by decide, by decide, by decide +kernel⟩, tb3 14 rfl rfl, tb3 15 rfl rfl⟩
theorem mv_X3_add : mvq M_X3_add 5 := ⟨⟨tb3 4 rfl rfl, tb1 2 rfl rfl, by decide, by decide, by decide +kernel⟩, tb3 2 rfl rfl, tb3 3 rfl rfl⟩
theorem mi_X4_init : miq M_X4_init 0 := ⟨⟨tb2 150 rfl rfl, tb1 11 rfl rfl, by decide, by decide, by decide +kernel⟩, tb2 149 rfl rfl, rfl, rfl⟩
theorem mv_X4_lay : mvq M_X4_lay 5 := ⟨⟨tb5 67 rfl rfl, tb1 11 rfl rfl, by decide, by decide, by decide +kernel⟩, tb5 65 rfl rfl, tb5 66 rfl rfl⟩
theorem mv_X4_choose : mvq M_X4_choose 2 := ⟨⟨tb5 71 rfl rfl, tb1 11 rfl rfl, by decide, by decide, by decide +kernel⟩, tb5 70 rfl rfl, tbP (q := (M_X4_choose.1, 7)) (nthq_mem (i := 44) rfl)⟩
theorem mv_X4_gather : mvq M_X4_gather 2 := ⟨⟨tb5 75 rfl rfl, tb1 11 rfl rfl, by decide, by decide, by decide +kernel⟩, tb5 74 rfl rfl, tbP (q := (M_X4_gather.1, 7)) (nthq_mem (i := 45) rfl)⟩
theorem mv_X4_priceOn : mvq M_X4_priceOn 3 := ⟨⟨tb5 81 rfl rfl, tb1 11 rfl rfl, by decide, by decide, by decide +kernel⟩, tb5 80 rfl rfl, tbP (q := (M_X4_priceOn.1, 7)) (nthq_mem (i := 46) rfl)⟩
theorem mv_X4_shut : mvq M_X4_shut 3 := ⟨⟨tb5 88 rfl rfl, tb1 11 rfl rfl, by decide, by decide, by decide +kernel⟩, tb5 87 rfl rfl, tbP (q := (M_X4_shut.1, 7)) (nthq_mem (i := 47) rfl)⟩
theorem mv_X4_isParted : mvq M_X4_isParted 3 := ⟨⟨tb5 92 rfl rfl, tb1 11 rfl rfl, by decide, by decide, by decide +kernel⟩, tb5 91 rfl rfl, tbP (q := (M_X4_isParted.1, 7)) (nthq_mem (i := 48) rfl)⟩
theorem mv_X4_openFloor : mvq M_X4_openFloor 0 := ⟨⟨tb5 96 rfl rfl, tb1 11 rfl rfl, by decide, by decide, by decide +kernel⟩, tb5 95 rfl rfl, tbP (q := (M_X4_openFloor.1, 7)) (nthq_mem (i := 49) rfl)⟩
theorem mv_X4_isFound : mvq M_X4_isFound 0 := ⟨⟨tb5 104 rfl rfl, tb1 11 rfl rfl, by decide, by decide, by decide +kernel⟩, tb5 102 rfl rfl, tb5 103 rfl rfl⟩
theorem mv_X4_moved : mvq M_X4_moved 0 := ⟨⟨tb5 108 rfl rfl, tb1 11 rfl rfl, by decide, by decide, by decide +kernel⟩, tb5 106 rfl rfl, tb5 107 rfl rfl⟩
theorem mv_X4_floorOf : mvq M_X4_floorOf 1 := ⟨⟨tb5 112 rfl rfl, tb1 11 rfl rfl, by decide, by decide, by decide +kernel⟩, tb5 110 rfl rfl, tb5 111 rfl rfl⟩
theorem mi_X5_init : miq M_X5_init 0 := ⟨⟨tb1 163 rfl rfl, tb1 5 rfl rfl, by decide, by decide, by decide +kernel⟩, tb1 162 rfl rfl, rfl, rfl⟩
theorem mv_X5_add : mvq M_X5_add 1 := ⟨⟨tb3 178 rfl rfl, tb1 5 rfl rfl, by decide, by decide, by decide +kernel⟩, tb3 176 rfl rfl, tb3 177 rfl rfl⟩
theorem mv_X5_read : mvq M_X5_read 1 := ⟨⟨tb3 189 rfl rfl, tb1 5 rfl rfl, by decide, by decide, by decide +kernel⟩, tb3 187 rfl rfl, tb3 188 rfl rfl⟩
theorem mv_X5_readClause : mvq M_X5_readClause 1 := ⟨⟨tb3 197 rfl rfl, tb1 5 rfl rfl, by decide, by decide, by decide +kernel⟩, tb3 196 rfl rfl, tbP (q := (M_X5_readClause.1, 9)) (nthq_mem (i := 19) rfl)⟩
theorem mv_X5_readLet : mvq M_X5_readLet 0 := ⟨⟨tb4 37 rfl rfl, tb1 5 rfl rfl, by decide, by decide, by decide +kernel⟩, tb4 36 rfl rfl, tbP (q := (M_X5_readLet.1, 9)) (nthq_mem (i := 23) rfl)⟩
theorem mv_X5_readDry : mvq M_X5_readDry 0 := ⟨⟨tb4 55 rfl rfl, tb1 5 rfl rfl, by decide, by decide, by decide +kernel⟩, tb4 54 rfl rfl, tbP (q := (M_X5_readDry.1, 9)) (nthq_mem (i := 27) rfl)⟩
theorem mv_X5_takeTerm : mvq M_X5_takeTerm 1 := ⟨⟨tb4 63 rfl rfl, tb1 5 rfl rfl, by decide, by decide, by decide +kernel⟩, tb4 62 rfl rfl, tbP (q := (M_X5_takeTerm.1, 9)) (nthq_mem (i := 29) rfl)⟩
theorem mv_X5_takeKeys : mvq M_X5_takeKeys 0 := ⟨⟨tb4 59 rfl rfl, tb1 5 rfl rfl, by decide, by decide, by decide +kernel⟩, tb4 58 rfl rfl, tbP (q := (M_X5_takeKeys.1, 9)) (nthq_mem (i := 28) rfl)⟩
theorem mv_X5_keep : mvq M_X5_keep 2 := ⟨⟨tb4 47 rfl rfl, tb1 5 rfl rfl, by decide, by decide, by decide +kernel⟩, tb4 46 rfl rfl, tbP (q := (M_X5_keep.1, 9)) (nthq_mem (i := 25) rfl)⟩
theorem mv_X5_takeIf : mvq M_X5_takeIf 1 := ⟨⟨tb4 51 rfl rfl, tb1 5 rfl rfl, by decide, by decide, by decide +kernel⟩, tb4 50 rfl rfl, tbP (q := (M_X5_takeIf.1, 9)) (nthq_mem (i := 26) rfl)⟩
theorem mv_X5_takeWord : mvq M_X5_takeWord 2 := ⟨⟨tb3 201 rfl rfl, tb1 5 rfl rfl, by decide, by decide, by decide +kernel⟩, tb3 200 rfl rfl, tbP (q := (M_X5_takeWord.1, 9)) (nthq_mem (i := 20) rfl)⟩
theorem mv_X5_isSpelled : mvq M_X5_isSpelled 2 := ⟨⟨tb3 221 rfl rfl, tb1 5 rfl rfl, by decide, by decide, by decide +kernel⟩, tb3 220 rfl rfl, tbP (q := (M_X5_isSpelled.1, 9)) (nthq_mem (i := 21) rfl)⟩
theorem mv_X5_takeNumber : mvq M_X5_takeNumber 1 := ⟨⟨tb4 43 rfl rfl, tb1 5 rfl rfl, by decide, by decide, by decide +kernel⟩, tb4 42 rfl rfl, tbP (q := (M_X5_takeNumber.1, 9)) (nthq_mem (i := 24) rfl)⟩
theorem mv_X5_skipBlanks : mvq M_X5_skipBlanks 0 := ⟨⟨tb3 193 rfl rfl, tb1 5 rfl rfl, by decide, by decide, by decide +kernel⟩, tb3 192 rfl rfl, tbP (q := (M_X5_skipBlanks.1, 9)) (nthq_mem (i := 18) rfl)⟩
theorem mv_X5_fail : mvq M_X5_fail 2 := ⟨⟨tb4 33 rfl rfl, tb1 5 rfl rfl, by decide, by decide, by decide +kernel⟩, tb4 32 rfl rfl, tbP (q := (M_X5_fail.1, 9)) (nthq_mem (i := 22) rfl)⟩
theorem ms_X5_spelling : msq M_X5_spelling 1 := ⟨⟨tb3 204 rfl rfl, tb1 5 rfl rfl, by decide, by decide, by decide +kernel⟩, tb3 203 rfl rfl⟩
theorem mi_X6_init : miq M_X6_init 0 := ⟨⟨tb2 79 rfl rfl, tb1 9 rfl rfl, by decide, by decide, by decide +kernel⟩, tb2 78 rfl rfl, rfl, rfl⟩
theorem mv_X6_add : mvq M_X6_add 4 := ⟨⟨tb4 218 rfl rfl, tb1 9 rfl rfl, by decide, by decide, by decide +kernel⟩, tb4 216 rfl rfl, tb4 217 rfl rfl⟩
theorem mv_X6_netOf : mvq M_X6_netOf 2 := ⟨⟨tb4 226 rfl rfl, tb1 9 rfl rfl, by decide, by decide, by decide +kernel⟩, tb4 224 rfl rfl, tb4 225 rfl rfl⟩
theorem mv_X6_fewestHandings : mvq M_X6_fewestHandings 1 := ⟨⟨tb4 234 rfl rfl, tb1 9 rfl rfl, by decide, by decide, by decide +kernel⟩, tb4 232 rfl rfl, tb4 233 rfl rfl⟩
theorem mv_X6_mostGroups : mvq M_X6_mostGroups 1 := ⟨⟨tb4 239 rfl rfl, tb1 9 rfl rfl, by decide, by decide, by decide +kernel⟩, tb4 238 rfl rfl, tbP (q := (M_X6_mostGroups.1, 8)) (nthq_mem (i := 39) rfl)⟩
theorem mi_X7_init : miq M_X7_init 3 := ⟨⟨tb1 203 rfl rfl, tb1 6 rfl rfl, by decide, by decide, by decide +kernel⟩, tb1 202 rfl rfl, rfl, rfl⟩
theorem mv_X7_tell : mvq M_X7_tell 2 := ⟨⟨tb3 55 rfl rfl, tb1 6 rfl rfl, by decide, by decide, by decide +kernel⟩, tb3 53 rfl rfl, tb3 54 rfl rfl⟩
theorem mv_X7_clear : mvq M_X7_clear 0 := ⟨⟨tb3 59 rfl rfl, tb1 6 rfl rfl, by decide, by decide, by decide +kernel⟩, tb3 58 rfl rfl, tbP (q := (M_X7_clear.1, 16)) (nthq_mem (i := 1) rfl)⟩
theorem mv_X7_isDone : mvq M_X7_isDone 1 := ⟨⟨tb3 68 rfl rfl, tb1 6 rfl rfl, by decide, by decide, by decide +kernel⟩, tb3 67 rfl rfl, tbP (q := (M_X7_isDone.1, 16)) (nthq_mem (i := 2) rfl)⟩
theorem mv_X7_issue : mvq M_X7_issue 2 := ⟨⟨tb3 72 rfl rfl, tb1 6 rfl rfl, by decide, by decide, by decide +kernel⟩, tb3 71 rfl rfl, tbP (q := (M_X7_issue.1, 16)) (nthq_mem (i := 3) rfl)⟩
theorem mv_X7_make : mvq M_X7_make 5 := ⟨⟨tb3 76 rfl rfl, tb1 6 rfl rfl, by decide, by decide, by decide +kernel⟩, tb3 75 rfl rfl, tbP (q := (M_X7_make.1, 16)) (nthq_mem (i := 4) rfl)⟩
theorem mv_X7_burn : mvq M_X7_burn 2 := ⟨⟨tb3 141 rfl rfl, tb1 6 rfl rfl, by decide, by decide, by decide +kernel⟩, tb3 140 rfl rfl, tbP (q := (M_X7_burn.1, 16)) (nthq_mem (i := 16) rfl)⟩
theorem mv_X7_pass : mvq M_X7_pass 2 := ⟨⟨tb3 91 rfl rfl, tb1 6 rfl rfl, by decide, by decide, by decide +kernel⟩, tb3 90 rfl rfl, tbP (q := (M_X7_pass.1, 16)) (nthq_mem (i := 5) rfl)⟩
theorem mv_X7_divide : mvq M_X7_divide 2 := ⟨⟨tb3 113 rfl rfl, tb1 6 rfl rfl, by decide, by decide, by decide +kernel⟩, tb3 112 rfl rfl, tbP (q := (M_X7_divide.1, 16)) (nthq_mem (i := 9) rfl)⟩
theorem mv_X7_isBound : mvq M_X7_isBound 1 := ⟨⟨tb3 117 rfl rfl, tb1 6 rfl rfl, by decide, by decide, by decide +kernel⟩, tb3 116 rfl rfl, tbP (q := (M_X7_isBound.1, 16)) (nthq_mem (i := 10) rfl)⟩
theorem mv_X7_lend : mvq M_X7_lend 2 := ⟨⟨tb3 121 rfl rfl, tb1 6 rfl rfl, by decide, by decide, by decide +kernel⟩, tb3 120 rfl rfl, tbP (q := (M_X7_lend.1, 16)) (nthq_mem (i := 11) rfl)⟩
theorem mv_X7_repay : mvq M_X7_repay 1 := ⟨⟨tb3 125 rfl rfl, tb1 6 rfl rfl, by decide, by decide, by decide +kernel⟩, tb3 124 rfl rfl, tbP (q := (M_X7_repay.1, 16)) (nthq_mem (i := 12) rfl)⟩
theorem mv_X7_stop : mvq M_X7_stop 2 := ⟨⟨tb3 129 rfl rfl, tb1 6 rfl rfl, by decide, by decide, by decide +kernel⟩, tb3 128 rfl rfl, tbP (q := (M_X7_stop.1, 16)) (nthq_mem (i := 13) rfl)⟩
theorem mv_X7_free : mvq M_X7_free 1 := ⟨⟨tb3 133 rfl rfl, tb1 6 rfl rfl, by decide, by decide, by decide +kernel⟩, tb3 132 rfl rfl, tbP (q := (M_X7_free.1, 16)) (nthq_mem (i := 14) rfl)⟩
theorem mv_X7_handOut : mvq M_X7_handOut 2 := ⟨⟨tb3 137 rfl rfl, tb1 6 rfl rfl, by decide, by decide, by decide +kernel⟩, tb3 136 rfl rfl, tbP (q := (M_X7_handOut.1, 16)) (nthq_mem (i := 15) rfl)⟩
theorem mv_X7_steal : mvq M_X7_steal 2 := ⟨⟨tb3 145 rfl rfl, tb1 6 rfl rfl, by decide, by decide, by decide +kernel⟩, tb3 144 rfl rfl, tbP (q := (M_X7_steal.1, 16)) (nthq_mem (i := 17) rfl)⟩
theorem mv_X7_thereOf : mvq M_X7_thereOf 1 := ⟨⟨tb3 84 rfl rfl, tb1 6 rfl rfl, by decide, by decide, by decide +kernel⟩, tb3 82 rfl rfl, tb3 83 rfl rfl⟩
theorem mv_X7_overOf : mvq M_X7_overOf 1 := ⟨⟨tb3 80 rfl rfl, tb1 6 rfl rfl, by decide, by decide, by decide +kernel⟩, tb3 78 rfl rfl, tb3 79 rfl rfl⟩
theorem mv_X7_vainCount : mvq M_X7_vainCount 0 := ⟨⟨tb3 166 rfl rfl, tb1 6 rfl rfl, by decide, by decide, by decide +kernel⟩, tb3 164 rfl rfl, tb3 165 rfl rfl⟩
theorem mv_X7_papersWithCasks : mvq M_X7_papersWithCasks 1 := ⟨⟨tb3 170 rfl rfl, tb1 6 rfl rfl, by decide, by decide, by decide +kernel⟩, tb3 168 rfl rfl, tb3 169 rfl rfl⟩
theorem mv_X7_casksOf : mvq M_X7_casksOf 3 := ⟨⟨tb4 146 rfl rfl, tb1 6 rfl rfl, by decide, by decide, by decide +kernel⟩, tb4 144 rfl rfl, tb4 145 rfl rfl⟩
theorem mv_X7_lentOn : mvq M_X7_lentOn 1 := ⟨⟨tb4 205 rfl rfl, tb1 6 rfl rfl, by decide, by decide, by decide +kernel⟩, tb4 203 rfl rfl, tb4 204 rfl rfl⟩
theorem mv_X7_unlike : mvq M_X7_unlike 1 := ⟨⟨tb4 154 rfl rfl, tb1 6 rfl rfl, by decide, by decide, by decide +kernel⟩, tb4 152 rfl rfl, tb4 153 rfl rfl⟩
theorem mv_X7_isHadOtherwise : mvq M_X7_isHadOtherwise 2 := ⟨⟨tb4 158 rfl rfl, tb1 6 rfl rfl, by decide, by decide, by decide +kernel⟩, tb4 157 rfl rfl, tbP (q := (M_X7_isHadOtherwise.1, 16)) (nthq_mem (i := 34) rfl)⟩
theorem mi_X8_init : miq M_X8_init 0 := ⟨⟨tb1 126 rfl rfl, tb1 4 rfl rfl, by decide, by decide, by decide +kernel⟩, tb1 125 rfl rfl, rfl, rfl⟩
theorem mv_X8_add : mvq M_X8_add 2 := ⟨⟨tb4 67 rfl rfl, tb1 4 rfl rfl, by decide, by decide, by decide +kernel⟩, tb4 65 rfl rfl, tb4 66 rfl rfl⟩
theorem mv_X8_on : mvq M_X8_on 2 := ⟨⟨tb3 95 rfl rfl, tb1 4 rfl rfl, by decide, by decide, by decide +kernel⟩, tb3 93 rfl rfl, tb3 94 rfl rfl⟩
theorem mv_X8_keyOn : mvq M_X8_keyOn 2 := ⟨⟨tb4 85 rfl rfl, tb1 4 rfl rfl, by decide, by decide, by decide +kernel⟩, tb4 83 rfl rfl, tb4 84 rfl rfl⟩
theorem mv_X8_keysOn : mvq M_X8_keysOn 1 := ⟨⟨tb4 81 rfl rfl, tb1 4 rfl rfl, by decide, by decide, by decide +kernel⟩, tb4 79 rfl rfl, tb4 80 rfl rfl⟩
theorem mv_X8_hold : mvq M_X8_hold 1 := ⟨⟨tb3 99 rfl rfl, tb1 4 rfl rfl, by decide, by decide, by decide +kernel⟩, tb3 98 rfl rfl, tbP (q := (M_X8_hold.1, 9)) (nthq_mem (i := 6) rfl)⟩
theorem mv_X8_strike : mvq M_X8_strike 1 := ⟨⟨tb3 103 rfl rfl, tb1 4 rfl rfl, by decide, by decide, by decide +kernel⟩, tb3 102 rfl rfl, tbP (q := (M_X8_strike.1, 9)) (nthq_mem (i := 7) rfl)⟩
theorem mv_X8_rule : mvq M_X8_rule 1 := ⟨⟨tb3 109 rfl rfl, tb1 4 rfl rfl, by decide, by decide, by decide +kernel⟩, tb3 108 rfl rfl, tbP (q := (M_X8_rule.1, 9)) (nthq_mem (i := 8) rfl)⟩
theorem mi_X9_init : miq M_X9_init 0 := ⟨⟨tb2 51 rfl rfl, tb1 8 rfl rfl, by decide, by decide, by decide +kernel⟩, tb2 50 rfl rfl, rfl, rfl⟩
theorem mv_X9_add : mvq M_X9_add 4 := ⟨⟨tb4 183 rfl rfl, tb1 8 rfl rfl, by decide, by decide, by decide +kernel⟩, tb4 181 rfl rfl, tb4 182 rfl rfl⟩
theorem mi_X10_init : miq M_X10_init 0 := ⟨⟨tb1 23 rfl rfl, tb1 1 rfl rfl, by decide, by decide, by decide +kernel⟩, tb1 22 rfl rfl, rfl, rfl⟩
theorem mv_X10_go : mvq M_X10_go 1 := ⟨⟨tb2 224 rfl rfl, tb1 1 rfl rfl, by decide, by decide, by decide +kernel⟩, tb2 222 rfl rfl, tb2 223 rfl rfl⟩
theorem mv_X10_lot : mvq M_X10_lot 5 := ⟨⟨tb2 231 rfl rfl, tb1 1 rfl rfl, by decide, by decide, by decide +kernel⟩, tb2 229 rfl rfl, tb2 230 rfl rfl⟩
theorem mv_X10_room : mvq M_X10_room 2 := ⟨⟨tb3 8 rfl rfl, tb1 1 rfl rfl, by decide, by decide, by decide +kernel⟩, tb3 6 rfl rfl, tb3 7 rfl rfl⟩
theorem mv_X10_move : mvq M_X10_move 2 := ⟨⟨tb3 12 rfl rfl, tb1 1 rfl rfl, by decide, by decide, by decide +kernel⟩, tb3 10 rfl rfl, tb3 11 rfl rfl⟩
theorem mv_X10_line : mvq M_X10_line 6 := ⟨⟨tb3 20 rfl rfl, tb1 1 rfl rfl, by decide, by decide, by decide +kernel⟩, tb3 18 rfl rfl, tb3 19 rfl rfl⟩
theorem mv_X10_told : mvq M_X10_told 2 := ⟨⟨tb3 47 rfl rfl, tb1 1 rfl rfl, by decide, by decide, by decide +kernel⟩, tb3 45 rfl rfl, tb3 46 rfl rfl⟩
theorem mv_X10_book : mvq M_X10_book 2 := ⟨⟨tb3 149 rfl rfl, tb1 1 rfl rfl, by decide, by decide, by decide +kernel⟩, tb3 147 rfl rfl, tb3 148 rfl rfl⟩
theorem mv_X10_count : mvq M_X10_count 1 := ⟨⟨tb3 158 rfl rfl, tb1 1 rfl rfl, by decide, by decide, by decide +kernel⟩, tb3 156 rfl rfl, tb3 157 rfl rfl⟩
theorem mv_X10_feed : mvq M_X10_feed 2 := ⟨⟨tb3 174 rfl rfl, tb1 1 rfl rfl, by decide, by decide, by decide +kernel⟩, tb3 172 rfl rfl, tb3 173 rfl rfl⟩
theorem mv_X10_term : mvq M_X10_term 1 := ⟨⟨tb3 182 rfl rfl, tb1 1 rfl rfl, by decide, by decide, by decide +kernel⟩, tb3 180 rfl rfl, tb3 181 rfl rfl⟩
theorem mv_X10_fault : mvq M_X10_fault 0 := ⟨⟨tb4 72 rfl rfl, tb1 1 rfl rfl, by decide, by decide, by decide +kernel⟩, tb4 70 rfl rfl, tb4 71 rfl rfl⟩
theorem mv_X10_force : mvq M_X10_force 2 := ⟨⟨tb4 76 rfl rfl, tb1 1 rfl rfl, by decide, by decide, by decide +kernel⟩, tb4 74 rfl rfl, tb4 75 rfl rfl⟩
theorem mv_X10_paper : mvq M_X10_paper 4 := ⟨⟨tb4 91 rfl rfl, tb1 1 rfl rfl, by decide, by decide, by decide +kernel⟩, tb4 89 rfl rfl, tb4 90 rfl rfl⟩
theorem mv_X10_goods : mvq M_X10_goods 4 := ⟨⟨tb4 99 rfl rfl, tb1 1 rfl rfl, by decide, by decide, by decide +kernel⟩, tb4 97 rfl rfl, tb4 98 rfl rfl⟩
theorem mv_X10_share : mvq M_X10_share 4 := ⟨⟨tb4 105 rfl rfl, tb1 1 rfl rfl, by decide, by decide, by decide +kernel⟩, tb4 103 rfl rfl, tb4 104 rfl rfl⟩
theorem mv_X10_doubt : mvq M_X10_doubt 4 := ⟨⟨tb4 117 rfl rfl, tb1 1 rfl rfl, by decide, by decide, by decide +kernel⟩, tb4 115 rfl rfl, tb4 116 rfl rfl⟩
theorem mv_X10_stock : mvq M_X10_stock 3 := ⟨⟨tb4 142 rfl rfl, tb1 1 rfl rfl, by decide, by decide, by decide +kernel⟩, tb4 140 rfl rfl, tb4 141 rfl rfl⟩
theorem mv_X10_news : mvq M_X10_news 3 := ⟨⟨tb4 150 rfl rfl, tb1 1 rfl rfl, by decide, by decide, by decide +kernel⟩, tb4 148 rfl rfl, tb4 149 rfl rfl⟩
theorem mv_X10_rent : mvq M_X10_rent 2 := ⟨⟨tb4 162 rfl rfl, tb1 1 rfl rfl, by decide, by decide, by decide +kernel⟩, tb4 160 rfl rfl, tb4 161 rfl rfl⟩
theorem mv_X10_weight : mvq M_X10_weight 2 := ⟨⟨tb4 170 rfl rfl, tb1 1 rfl rfl, by decide, by decide, by decide +kernel⟩, tb4 168 rfl rfl, tb4 169 rfl rfl⟩
theorem mv_X10_weigh : mvq M_X10_weigh 3 := ⟨⟨tb4 178 rfl rfl, tb1 1 rfl rfl, by decide, by decide, by decide +kernel⟩, tb4 176 rfl rfl, tb4 177 rfl rfl⟩
theorem mv_X10_loss : mvq M_X10_loss 2 := ⟨⟨tb4 187 rfl rfl, tb1 1 rfl rfl, by decide, by decide, by decide +kernel⟩, tb4 185 rfl rfl, tb4 186 rfl rfl⟩
theorem mv_X10_unpaid : mvq M_X10_unpaid 3 := ⟨⟨tb4 192 rfl rfl, tb1 1 rfl rfl, by decide, by decide, by decide +kernel⟩, tb4 190 rfl rfl, tb4 191 rfl rfl⟩
theorem mv_X10_money : mvq M_X10_money 4 := ⟨⟨tb4 196 rfl rfl, tb1 1 rfl rfl, by decide, by decide, by decide +kernel⟩, tb4 194 rfl rfl, tb4 195 rfl rfl⟩
theorem mv_X10_sale : mvq M_X10_sale 4 := ⟨⟨tb4 214 rfl rfl, tb1 1 rfl rfl, by decide, by decide, by decide +kernel⟩, tb4 212 rfl rfl, tb4 213 rfl rfl⟩
theorem mv_X10_net : mvq M_X10_net 2 := ⟨⟨tb4 222 rfl rfl, tb1 1 rfl rfl, by decide, by decide, by decide +kernel⟩, tb4 220 rfl rfl, tb4 221 rfl rfl⟩
theorem mv_X10_handings : mvq M_X10_handings 1 := ⟨⟨tb4 230 rfl rfl, tb1 1 rfl rfl, by decide, by decide, by decide +kernel⟩, tb4 228 rfl rfl, tb4 229 rfl rfl⟩
theorem mv_X10_due : mvq M_X10_due 3 := ⟨⟨tb5 4 rfl rfl, tb1 1 rfl rfl, by decide, by decide, by decide +kernel⟩, tb5 2 rfl rfl, tb5 3 rfl rfl⟩
theorem mv_X10_coin : mvq M_X10_coin 2 := ⟨⟨tb5 12 rfl rfl, tb1 1 rfl rfl, by decide, by decide, by decide +kernel⟩, tb5 10 rfl rfl, tb5 11 rfl rfl⟩
theorem mv_X10_fails : mvq M_X10_fails 2 := ⟨⟨tb5 16 rfl rfl, tb1 1 rfl rfl, by decide, by decide, by decide +kernel⟩, tb5 14 rfl rfl, tb5 15 rfl rfl⟩
theorem mv_X10_part : mvq M_X10_part 3 := ⟨⟨tb5 53 rfl rfl, tb1 1 rfl rfl, by decide, by decide, by decide +kernel⟩, tb5 51 rfl rfl, tb5 52 rfl rfl⟩
theorem mv_X10_plan : mvq M_X10_plan 2 := ⟨⟨tb5 57 rfl rfl, tb1 1 rfl rfl, by decide, by decide, by decide +kernel⟩, tb5 55 rfl rfl, tb5 56 rfl rfl⟩
theorem ms_X10_within : msq M_X10_within 3 := ⟨⟨tb2 227 rfl rfl, tb1 1 rfl rfl, by decide, by decide, by decide +kernel⟩, tb2 226 rfl rfl⟩
theorem ms_X10_isHouse : msq M_X10_isHouse 1 := ⟨⟨tb2 234 rfl rfl, tb1 1 rfl rfl, by decide, by decide, by decide +kernel⟩, tb2 233 rfl rfl⟩
theorem ms_X10_isFloor : msq M_X10_isFloor 1 := ⟨⟨tb2 237 rfl rfl, tb1 1 rfl rfl, by decide, by decide, by decide +kernel⟩, tb2 236 rfl rfl⟩
theorem ms_X10_isSort : msq M_X10_isSort 1 := ⟨⟨tb3 0 rfl rfl, tb1 1 rfl rfl, by decide, by decide, by decide +kernel⟩, tb2 239 rfl rfl⟩
theorem ms_X10_isDay : msq M_X10_isDay 1 := ⟨⟨tb3 185 rfl rfl, tb1 1 rfl rfl, by decide, by decide, by decide +kernel⟩, tb3 184 rfl rfl⟩
theorem mv_X10_isTarget : mvq M_X10_isTarget 2 := ⟨⟨tb3 28 rfl rfl, tb1 1 rfl rfl, by decide, by decide, by decide +kernel⟩, tb3 27 rfl rfl, tbP (q := (M_X10_isTarget.1, 15)) (nthq_mem (i := 0) rfl)⟩
theorem mv_X10_isAsked : mvq M_X10_isAsked 2 := ⟨⟨tb4 95 rfl rfl, tb1 1 rfl rfl, by decide, by decide, by decide +kernel⟩, tb4 94 rfl rfl, tbP (q := (M_X10_isAsked.1, 15)) (nthq_mem (i := 30) rfl)⟩
theorem mv_X10_shareAsTold : mvq M_X10_shareAsTold 2 := ⟨⟨tb4 109 rfl rfl, tb1 1 rfl rfl, by decide, by decide, by decide +kernel⟩, tb4 108 rfl rfl, tbP (q := (M_X10_shareAsTold.1, 15)) (nthq_mem (i := 31) rfl)⟩
theorem ms_X10_commonDivisor : msq M_X10_commonDivisor 2 := ⟨⟨tb4 112 rfl rfl, tb1 1 rfl rfl, by decide, by decide, by decide +kernel⟩, tb4 111 rfl rfl⟩
theorem mv_X10_rentAsTold : mvq M_X10_rentAsTold 2 := ⟨⟨tb4 166 rfl rfl, tb1 1 rfl rfl, by decide, by decide, by decide +kernel⟩, tb4 165 rfl rfl, tbP (q := (M_X10_rentAsTold.1, 15)) (nthq_mem (i := 35) rfl)⟩
theorem mv_X10_caskWeight : mvq M_X10_caskWeight 2 := ⟨⟨tb4 174 rfl rfl, tb1 1 rfl rfl, by decide, by decide, by decide +kernel⟩, tb4 173 rfl rfl, tbP (q := (M_X10_caskWeight.1, 15)) (nthq_mem (i := 36) rfl)⟩
theorem mv_X10_wanted : mvq M_X10_wanted 4 := ⟨⟨tb4 201 rfl rfl, tb1 1 rfl rfl, by decide, by decide, by decide +kernel⟩, tb4 200 rfl rfl, tbP (q := (M_X10_wanted.1, 15)) (nthq_mem (i := 37) rfl)⟩
theorem mv_X10_unpaidFor : mvq M_X10_unpaidFor 1 := ⟨⟨tb4 209 rfl rfl, tb1 1 rfl rfl, by decide, by decide, by decide +kernel⟩, tb4 208 rfl rfl, tbP (q := (M_X10_unpaidFor.1, 15)) (nthq_mem (i := 38) rfl)⟩
theorem mi_X11_init : miq M_X11_init 0 := ⟨⟨tb5 118 rfl rfl, tb1 12 rfl rfl, by decide, by decide, by decide +kernel⟩, tb5 117 rfl rfl, rfl, rfl⟩
theorem ms_X11_in : msq M_X11_in 3 := ⟨⟨tb6 125 rfl rfl, tb1 12 rfl rfl, by decide, by decide, by decide +kernel⟩, tb6 124 rfl rfl⟩
theorem ms_X11_one : msq M_X11_one 1 := ⟨⟨tb7 8 rfl rfl, tb1 12 rfl rfl, by decide, by decide, by decide +kernel⟩, tb7 7 rfl rfl⟩
theorem ms_X11_isHouse : msq M_X11_isHouse 1 := ⟨⟨tb6 132 rfl rfl, tb1 12 rfl rfl, by decide, by decide, by decide +kernel⟩, tb6 131 rfl rfl⟩
theorem ms_X11_isFloor : msq M_X11_isFloor 1 := ⟨⟨tb6 136 rfl rfl, tb1 12 rfl rfl, by decide, by decide, by decide +kernel⟩, tb6 135 rfl rfl⟩
theorem ms_X11_isDay : msq M_X11_isDay 1 := ⟨⟨tb6 201 rfl rfl, tb1 12 rfl rfl, by decide, by decide, by decide +kernel⟩, tb6 200 rfl rfl⟩
theorem mv_X11_isKnown : mvq M_X11_isKnown 1 := ⟨⟨tb6 174 rfl rfl, tb1 12 rfl rfl, by decide, by decide, by decide +kernel⟩, tb6 173 rfl rfl, tbP (q := (M_X11_isKnown.1, 79)) (nthq_mem (i := 53) rfl)⟩
theorem ms_X11_gcd : msq M_X11_gcd 2 := ⟨⟨tb7 108 rfl rfl, tb1 12 rfl rfl, by decide, by decide, by decide +kernel⟩, tb7 107 rfl rfl⟩
theorem mv_X11_noLot : mvq M_X11_noLot 1 := ⟨⟨tb6 151 rfl rfl, tb1 12 rfl rfl, by decide, by decide, by decide +kernel⟩, tb6 150 rfl rfl, tbP (q := (M_X11_noLot.1, 79)) (nthq_mem (i := 50) rfl)⟩
theorem mv_X11_go : mvq M_X11_go 1 := ⟨⟨tb6 121 rfl rfl, tb1 12 rfl rfl, by decide, by decide, by decide +kernel⟩, tb6 119 rfl rfl, tb6 120 rfl rfl⟩
theorem mv_X11_lot : mvq M_X11_lot 5 := ⟨⟨tb6 129 rfl rfl, tb1 12 rfl rfl, by decide, by decide, by decide +kernel⟩, tb6 127 rfl rfl, tb6 128 rfl rfl⟩
theorem mv_X11_room : mvq M_X11_room 2 := ⟨⟨tb6 143 rfl rfl, tb1 12 rfl rfl, by decide, by decide, by decide +kernel⟩, tb6 141 rfl rfl, tb6 142 rfl rfl⟩
theorem mv_X11_move : mvq M_X11_move 2 := ⟨⟨tb6 147 rfl rfl, tb1 12 rfl rfl, by decide, by decide, by decide +kernel⟩, tb6 145 rfl rfl, tb6 146 rfl rfl⟩
theorem ms_X11_hasP : msq M_X11_hasP 1 := ⟨⟨tb6 170 rfl rfl, tb1 12 rfl rfl, by decide, by decide, by decide +kernel⟩, tb6 169 rfl rfl⟩
theorem ms_X11_isOfLot : msq M_X11_isOfLot 1 := ⟨⟨tb6 163 rfl rfl, tb1 12 rfl rfl, by decide, by decide, by decide +kernel⟩, tb6 162 rfl rfl⟩
theorem ms_X11_hasMany : msq M_X11_hasMany 1 := ⟨⟨tb6 177 rfl rfl, tb1 12 rfl rfl, by decide, by decide, by decide +kernel⟩, tb6 176 rfl rfl⟩
theorem ms_X11_mostOf : msq M_X11_mostOf 1 := ⟨⟨tb6 180 rfl rfl, tb1 12 rfl rfl, by decide, by decide, by decide +kernel⟩, tb6 179 rfl rfl⟩
theorem mv_X11_isPaper : mvq M_X11_isPaper 1 := ⟨⟨tb6 167 rfl rfl, tb1 12 rfl rfl, by decide, by decide, by decide +kernel⟩, tb6 166 rfl rfl, tbP (q := (M_X11_isPaper.1, 79)) (nthq_mem (i := 52) rfl)⟩
theorem mv_X11_noTarget : mvq M_X11_noTarget 2 := ⟨⟨tb6 160 rfl rfl, tb1 12 rfl rfl, by decide, by decide, by decide +kernel⟩, tb6 159 rfl rfl, tbP (q := (M_X11_noTarget.1, 79)) (nthq_mem (i := 51) rfl)⟩
theorem mv_X11_line : mvq M_X11_line 6 := ⟨⟨tb6 155 rfl rfl, tb1 12 rfl rfl, by decide, by decide, by decide +kernel⟩, tb6 153 rfl rfl, tb6 154 rfl rfl⟩
theorem mv_X11_findBook : mvq M_X11_findBook 1 := ⟨⟨tb6 188 rfl rfl, tb1 12 rfl rfl, by decide, by decide, by decide +kernel⟩, tb6 187 rfl rfl, tbP (q := (M_X11_findBook.1, 79)) (nthq_mem (i := 54) rfl)⟩
theorem mv_X11_book : mvq M_X11_book 2 := ⟨⟨tb6 184 rfl rfl, tb1 12 rfl rfl, by decide, by decide, by decide +kernel⟩, tb6 182 rfl rfl, tb6 183 rfl rfl⟩
theorem mv_X11_feed : mvq M_X11_feed 2 := ⟨⟨tb6 192 rfl rfl, tb1 12 rfl rfl, by decide, by decide, by decide +kernel⟩, tb6 190 rfl rfl, tb6 191 rfl rfl⟩
theorem mv_X11_here : mvq M_X11_here 0 := ⟨⟨tb6 206 rfl rfl, tb1 12 rfl rfl, by decide, by decide, by decide +kernel⟩, tb6 205 rfl rfl, tbP (q := (M_X11_here.1, 79)) (nthq_mem (i := 55) rfl)⟩
theorem mv_X11_want : mvq M_X11_want 3 := ⟨⟨tb6 220 rfl rfl, tb1 12 rfl rfl, by decide, by decide, by decide +kernel⟩, tb6 219 rfl rfl, tbP (q := (M_X11_want.1, 79)) (nthq_mem (i := 58) rfl)⟩
theorem mv_X11_takeWord : mvq M_X11_takeWord 0 := ⟨⟨tb6 210 rfl rfl, tb1 12 rfl rfl, by decide, by decide, by decide +kernel⟩, tb6 209 rfl rfl, tbP (q := (M_X11_takeWord.1, 79)) (nthq_mem (i := 56) rfl)⟩
theorem mv_X11_isWord : mvq M_X11_isWord 7 := ⟨⟨tb6 216 rfl rfl, tb1 12 rfl rfl, by decide, by decide, by decide +kernel⟩, tb6 215 rfl rfl, tbP (q := (M_X11_isWord.1, 79)) (nthq_mem (i := 57) rfl)⟩
theorem mv_X11_takeNumber : mvq M_X11_takeNumber 1 := ⟨⟨tb6 235 rfl rfl, tb1 12 rfl rfl, by decide, by decide, by decide +kernel⟩, tb6 234 rfl rfl, tbP (q := (M_X11_takeNumber.1, 79)) (nthq_mem (i := 61) rfl)⟩
theorem mv_X11_nameOf : mvq M_X11_nameOf 0 := ⟨⟨tb6 228 rfl rfl, tb1 12 rfl rfl, by decide, by decide, by decide +kernel⟩, tb6 227 rfl rfl, tbP (q := (M_X11_nameOf.1, 79)) (nthq_mem (i := 60) rfl)⟩
theorem ms_X11_mostOfName : msq M_X11_mostOfName 1 := ⟨⟨tb6 231 rfl rfl, tb1 12 rfl rfl, by decide, by decide, by decide +kernel⟩, tb6 230 rfl rfl⟩
theorem mv_X11_keyOf : mvq M_X11_keyOf 0 := ⟨⟨tb7 5 rfl rfl, tb1 12 rfl rfl, by decide, by decide, by decide +kernel⟩, tb7 4 rfl rfl, tbP (q := (M_X11_keyOf.1, 79)) (nthq_mem (i := 63) rfl)⟩
theorem mv_X11_readRank : mvq M_X11_readRank 1 := ⟨⟨tb7 1 rfl rfl, tb1 12 rfl rfl, by decide, by decide, by decide +kernel⟩, tb7 0 rfl rfl, tbP (q := (M_X11_readRank.1, 79)) (nthq_mem (i := 62) rfl)⟩
theorem mv_X11_readClause : mvq M_X11_readClause 2 := ⟨⟨tb6 224 rfl rfl, tb1 12 rfl rfl, by decide, by decide, by decide +kernel⟩, tb6 223 rfl rfl, tbP (q := (M_X11_readClause.1, 79)) (nthq_mem (i := 59) rfl)⟩
theorem mv_X11_term : mvq M_X11_term 1 := ⟨⟨tb6 198 rfl rfl, tb1 12 rfl rfl, by decide, by decide, by decide +kernel⟩, tb6 196 rfl rfl, tb6 197 rfl rfl⟩
theorem mv_X11_fault : mvq M_X11_fault 0 := ⟨⟨tb7 12 rfl rfl, tb1 12 rfl rfl, by decide, by decide, by decide +kernel⟩, tb7 10 rfl rfl, tb7 11 rfl rfl⟩
theorem mv_X11_findTerms : mvq M_X11_findTerms 1 := ⟨⟨tb7 21 rfl rfl, tb1 12 rfl rfl, by decide, by decide, by decide +kernel⟩, tb7 20 rfl rfl, tbP (q := (M_X11_findTerms.1, 79)) (nthq_mem (i := 64) rfl)⟩
theorem mv_X11_force : mvq M_X11_force 2 := ⟨⟨tb7 16 rfl rfl, tb1 12 rfl rfl, by decide, by decide, by decide +kernel⟩, tb7 14 rfl rfl, tb7 15 rfl rfl⟩
theorem mv_X11_there : mvq M_X11_there 1 := ⟨⟨tb7 49 rfl rfl, tb1 12 rfl rfl, by decide, by decide, by decide +kernel⟩, tb7 48 rfl rfl, tbP (q := (M_X11_there.1, 79)) (nthq_mem (i := 70) rfl)⟩
theorem mv_X11_onPapers : mvq M_X11_onPapers 1 := ⟨⟨tb7 45 rfl rfl, tb1 12 rfl rfl, by decide, by decide, by decide +kernel⟩, tb7 44 rfl rfl, tbP (q := (M_X11_onPapers.1, 79)) (nthq_mem (i := 69) rfl)⟩
theorem mv_X11_lay : mvq M_X11_lay 5 := ⟨⟨tb7 41 rfl rfl, tb1 12 rfl rfl, by decide, by decide, by decide +kernel⟩, tb7 40 rfl rfl, tbP (q := (M_X11_lay.1, 79)) (nthq_mem (i := 68) rfl)⟩
theorem mv_X11_pass : mvq M_X11_pass 2 := ⟨⟨tb7 57 rfl rfl, tb1 12 rfl rfl, by decide, by decide, by decide +kernel⟩, tb7 56 rfl rfl, tbP (q := (M_X11_pass.1, 79)) (nthq_mem (i := 72) rfl)⟩
theorem mv_X11_partFrom : mvq M_X11_partFrom 2 := ⟨⟨tb7 61 rfl rfl, tb1 12 rfl rfl, by decide, by decide, by decide +kernel⟩, tb7 60 rfl rfl, tbP (q := (M_X11_partFrom.1, 79)) (nthq_mem (i := 73) rfl)⟩
theorem mv_X11_lend : mvq M_X11_lend 2 := ⟨⟨tb7 65 rfl rfl, tb1 12 rfl rfl, by decide, by decide, by decide +kernel⟩, tb7 64 rfl rfl, tbP (q := (M_X11_lend.1, 79)) (nthq_mem (i := 74) rfl)⟩
theorem mv_X11_handOut : mvq M_X11_handOut 2 := ⟨⟨tb7 69 rfl rfl, tb1 12 rfl rfl, by decide, by decide, by decide +kernel⟩, tb7 68 rfl rfl, tbP (q := (M_X11_handOut.1, 79)) (nthq_mem (i := 75) rfl)⟩
theorem mv_X11_burn : mvq M_X11_burn 2 := ⟨⟨tb7 53 rfl rfl, tb1 12 rfl rfl, by decide, by decide, by decide +kernel⟩, tb7 52 rfl rfl, tbP (q := (M_X11_burn.1, 79)) (nthq_mem (i := 71) rfl)⟩
theorem mv_X11_issue : mvq M_X11_issue 1 := ⟨⟨tb7 37 rfl rfl, tb1 12 rfl rfl, by decide, by decide, by decide +kernel⟩, tb7 36 rfl rfl, tbP (q := (M_X11_issue.1, 79)) (nthq_mem (i := 67) rfl)⟩
theorem mv_X11_change : mvq M_X11_change 2 := ⟨⟨tb7 73 rfl rfl, tb1 12 rfl rfl, by decide, by decide, by decide +kernel⟩, tb7 72 rfl rfl, tbP (q := (M_X11_change.1, 79)) (nthq_mem (i := 76) rfl)⟩
theorem mv_X11_befall : mvq M_X11_befall 1 := ⟨⟨tb7 33 rfl rfl, tb1 12 rfl rfl, by decide, by decide, by decide +kernel⟩, tb7 32 rfl rfl, tbP (q := (M_X11_befall.1, 79)) (nthq_mem (i := 66) rfl)⟩
theorem mv_X11_tell : mvq M_X11_tell 2 := ⟨⟨tb7 29 rfl rfl, tb1 12 rfl rfl, by decide, by decide, by decide +kernel⟩, tb7 28 rfl rfl, tbP (q := (M_X11_tell.1, 79)) (nthq_mem (i := 65) rfl)⟩
theorem mv_X11_told : mvq M_X11_told 2 := ⟨⟨tb7 25 rfl rfl, tb1 12 rfl rfl, by decide, by decide, by decide +kernel⟩, tb7 23 rfl rfl, tb7 24 rfl rfl⟩
theorem mv_X11_linesNow : mvq M_X11_linesNow 1 := ⟨⟨tb7 81 rfl rfl, tb1 12 rfl rfl, by decide, by decide, by decide +kernel⟩, tb7 80 rfl rfl, tbP (q := (M_X11_linesNow.1, 79)) (nthq_mem (i := 77) rfl)⟩
theorem mv_X11_papersToday : mvq M_X11_papersToday 0 := ⟨⟨tb7 85 rfl rfl, tb1 12 rfl rfl, by decide, by decide, by decide +kernel⟩, tb7 84 rfl rfl, tbP (q := (M_X11_papersToday.1, 79)) (nthq_mem (i := 78) rfl)⟩
theorem mv_X11_count : mvq M_X11_count 1 := ⟨⟨tb7 77 rfl rfl, tb1 12 rfl rfl, by decide, by decide, by decide +kernel⟩, tb7 75 rfl rfl, tb7 76 rfl rfl⟩
theorem mv_X11_whyNot : mvq M_X11_whyNot 5 := ⟨⟨tb7 93 rfl rfl, tb1 12 rfl rfl, by decide, by decide, by decide +kernel⟩, tb7 92 rfl rfl, tbP (q := (M_X11_whyNot.1, 79)) (nthq_mem (i := 79) rfl)⟩
theorem mv_X11_paper : mvq M_X11_paper 4 := ⟨⟨tb7 89 rfl rfl, tb1 12 rfl rfl, by decide, by decide, by decide +kernel⟩, tb7 87 rfl rfl, tb7 88 rfl rfl⟩
theorem mv_X11_over : mvq M_X11_over 1 := ⟨⟨tb7 101 rfl rfl, tb1 12 rfl rfl, by decide, by decide, by decide +kernel⟩, tb7 100 rfl rfl, tbP (q := (M_X11_over.1, 79)) (nthq_mem (i := 80) rfl)⟩
theorem mv_X11_goods : mvq M_X11_goods 4 := ⟨⟨tb7 97 rfl rfl, tb1 12 rfl rfl, by decide, by decide, by decide +kernel⟩, tb7 95 rfl rfl, tb7 96 rfl rfl⟩
theorem mv_X11_share : mvq M_X11_share 4 := ⟨⟨tb7 105 rfl rfl, tb1 12 rfl rfl, by decide, by decide, by decide +kernel⟩, tb7 103 rfl rfl, tb7 104 rfl rfl⟩
theorem mv_X11_fewestFrom : mvq M_X11_fewestFrom 2 := ⟨⟨tb7 116 rfl rfl, tb1 12 rfl rfl, by decide, by decide, by decide +kernel⟩, tb7 115 rfl rfl, tbP (q := (M_X11_fewestFrom.1, 79)) (nthq_mem (i := 81) rfl)⟩
theorem mv_X11_doubt : mvq M_X11_doubt 4 := ⟨⟨tb7 112 rfl rfl, tb1 12 rfl rfl, by decide, by decide, by decide +kernel⟩, tb7 110 rfl rfl, tb7 111 rfl rfl⟩
theorem mv_X11_stock : mvq M_X11_stock 3 := ⟨⟨tb7 120 rfl rfl, tb1 12 rfl rfl, by decide, by decide, by decide +kernel⟩, tb7 118 rfl rfl, tb7 119 rfl rfl⟩
theorem mv_X11_news : mvq M_X11_news 3 := ⟨⟨tb7 124 rfl rfl, tb1 12 rfl rfl, by decide, by decide, by decide +kernel⟩, tb7 122 rfl rfl, tb7 123 rfl rfl⟩
theorem mv_X11_rentOf : mvq M_X11_rentOf 2 := ⟨⟨tb7 132 rfl rfl, tb1 12 rfl rfl, by decide, by decide, by decide +kernel⟩, tb7 131 rfl rfl, tbP (q := (M_X11_rentOf.1, 79)) (nthq_mem (i := 82) rfl)⟩
theorem mv_X11_rent : mvq M_X11_rent 2 := ⟨⟨tb7 128 rfl rfl, tb1 12 rfl rfl, by decide, by decide, by decide +kernel⟩, tb7 126 rfl rfl, tb7 127 rfl rfl⟩
theorem mv_X11_weightOn : mvq M_X11_weightOn 2 := ⟨⟨tb7 140 rfl rfl, tb1 12 rfl rfl, by decide, by decide, by decide +kernel⟩, tb7 139 rfl rfl, tbP (q := (M_X11_weightOn.1, 79)) (nthq_mem (i := 83) rfl)⟩
theorem mv_X11_weight : mvq M_X11_weight 2 := ⟨⟨tb7 136 rfl rfl, tb1 12 rfl rfl, by decide, by decide, by decide +kernel⟩, tb7 134 rfl rfl, tb7 135 rfl rfl⟩
theorem mv_X11_weigh : mvq M_X11_weigh 3 := ⟨⟨tb7 144 rfl rfl, tb1 12 rfl rfl, by decide, by decide, by decide +kernel⟩, tb7 142 rfl rfl, tb7 143 rfl rfl⟩
theorem mv_X11_loss : mvq M_X11_loss 2 := ⟨⟨tb7 149 rfl rfl, tb1 12 rfl rfl, by decide, by decide, by decide +kernel⟩, tb7 147 rfl rfl, tb7 148 rfl rfl⟩
theorem mv_X11_unpaid : mvq M_X11_unpaid 3 := ⟨⟨tb7 155 rfl rfl, tb1 12 rfl rfl, by decide, by decide, by decide +kernel⟩, tb7 153 rfl rfl, tb7 154 rfl rfl⟩
theorem mv_X11_wants : mvq M_X11_wants 3 := ⟨⟨tb7 166 rfl rfl, tb1 12 rfl rfl, by decide, by decide, by decide +kernel⟩, tb7 165 rfl rfl, tbP (q := (M_X11_wants.1, 79)) (nthq_mem (i := 84) rfl)⟩
theorem mv_X11_money : mvq M_X11_money 4 := ⟨⟨tb7 160 rfl rfl, tb1 12 rfl rfl, by decide, by decide, by decide +kernel⟩, tb7 158 rfl rfl, tb7 159 rfl rfl⟩
theorem mv_X11_sale : mvq M_X11_sale 4 := ⟨⟨tb7 171 rfl rfl, tb1 12 rfl rfl, by decide, by decide, by decide +kernel⟩, tb7 169 rfl rfl, tb7 170 rfl rfl⟩
theorem mv_X11_net : mvq M_X11_net 2 := ⟨⟨tb7 176 rfl rfl, tb1 12 rfl rfl, by decide, by decide, by decide +kernel⟩, tb7 174 rfl rfl, tb7 175 rfl rfl⟩
theorem mv_X11_handings : mvq M_X11_handings 1 := ⟨⟨tb7 180 rfl rfl, tb1 12 rfl rfl, by decide, by decide, by decide +kernel⟩, tb7 178 rfl rfl, tb7 179 rfl rfl⟩
theorem mv_X11_due : mvq M_X11_due 3 := ⟨⟨tb7 184 rfl rfl, tb1 12 rfl rfl, by decide, by decide, by decide +kernel⟩, tb7 182 rfl rfl, tb7 183 rfl rfl⟩
theorem mv_X11_coin : mvq M_X11_coin 2 := ⟨⟨tb7 188 rfl rfl, tb1 12 rfl rfl, by decide, by decide, by decide +kernel⟩, tb7 186 rfl rfl, tb7 187 rfl rfl⟩
theorem mv_X11_owes : mvq M_X11_owes 1 := ⟨⟨tb7 200 rfl rfl, tb1 12 rfl rfl, by decide, by decide, by decide +kernel⟩, tb7 199 rfl rfl, tbP (q := (M_X11_owes.1, 79)) (nthq_mem (i := 86) rfl)⟩
theorem mv_X11_has : mvq M_X11_has 1 := ⟨⟨tb7 204 rfl rfl, tb1 12 rfl rfl, by decide, by decide, by decide +kernel⟩, tb7 203 rfl rfl, tbP (q := (M_X11_has.1, 79)) (nthq_mem (i := 87) rfl)⟩
theorem mv_X11_gives : mvq M_X11_gives 1 := ⟨⟨tb7 208 rfl rfl, tb1 12 rfl rfl, by decide, by decide, by decide +kernel⟩, tb7 207 rfl rfl, tbP (q := (M_X11_gives.1, 79)) (nthq_mem (i := 88) rfl)⟩
theorem mv_X11_goRounds : mvq M_X11_goRounds 0 := ⟨⟨tb7 196 rfl rfl, tb1 12 rfl rfl, by decide, by decide, by decide +kernel⟩, tb7 195 rfl rfl, tbP (q := (M_X11_goRounds.1, 79)) (nthq_mem (i := 85) rfl)⟩
theorem mv_X11_fails : mvq M_X11_fails 2 := ⟨⟨tb7 192 rfl rfl, tb1 12 rfl rfl, by decide, by decide, by decide +kernel⟩, tb7 190 rfl rfl, tb7 191 rfl rfl⟩
theorem mv_X11_part : mvq M_X11_part 3 := ⟨⟨tb7 212 rfl rfl, tb1 12 rfl rfl, by decide, by decide, by decide +kernel⟩, tb7 210 rfl rfl, tb7 211 rfl rfl⟩
theorem mv_X11_mayLie : mvq M_X11_mayLie 2 := ⟨⟨tb7 228 rfl rfl, tb1 12 rfl rfl, by decide, by decide, by decide +kernel⟩, tb7 227 rfl rfl, tbP (q := (M_X11_mayLie.1, 79)) (nthq_mem (i := 91) rfl)⟩
theorem mv_X11_put : mvq M_X11_put 3 := ⟨⟨tb7 220 rfl rfl, tb1 12 rfl rfl, by decide, by decide, by decide +kernel⟩, tb7 219 rfl rfl, tbP (q := (M_X11_put.1, 79)) (nthq_mem (i := 89) rfl)⟩
theorem mv_X11_layAll : mvq M_X11_layAll 0 := ⟨⟨tb7 224 rfl rfl, tb1 12 rfl rfl, by decide, by decide, by decide +kernel⟩, tb7 223 rfl rfl, tbP (q := (M_X11_layAll.1, 79)) (nthq_mem (i := 90) rfl)⟩
theorem mv_X11_plan : mvq M_X11_plan 2 := ⟨⟨tb7 216 rfl rfl, tb1 12 rfl rfl, by decide, by decide, by decide +kernel⟩, tb7 214 rfl rfl, tb7 215 rfl rfl⟩
theorem ms_J6_bitCount_0f7a4 : msq M_J6_bitCount_0f7a4 1 := ⟨⟨tb5 60 rfl rfl, tb1 18 rfl rfl, by decide, by decide, by decide +kernel⟩, tb5 59 rfl rfl⟩
theorem ms_J9_max_7cf53 : msq M_J9_max_7cf53 2 := ⟨⟨tb3 87 rfl rfl, tb1 13 rfl rfl, by decide, by decide, by decide +kernel⟩, tb3 86 rfl rfl⟩
theorem ms_J9_min_7cf53 : msq M_J9_min_7cf53 2 := ⟨⟨tb4 134 rfl rfl, tb1 13 rfl rfl, by decide, by decide, by decide +kernel⟩, tb4 133 rfl rfl⟩
theorem ms_J9_min_f86c9 : msq M_J9_min_f86c9 2 := ⟨⟨tb5 100 rfl rfl, tb1 13 rfl rfl, by decide, by decide, by decide +kernel⟩, tb5 99 rfl rfl⟩
theorem mv_J0_length_8abf5 : mvq M_J0_length_8abf5 0 := ⟨⟨tb3 225 rfl rfl, tb1 14 rfl rfl, by decide, by decide, by decide +kernel⟩, tb3 223 rfl rfl, tb3 224 rfl rfl⟩
theorem mv_J0_charAt_5068e : mvq M_J0_charAt_5068e 1 := ⟨⟨tb3 235 rfl rfl, tb1 14 rfl rfl, by decide, by decide, by decide +kernel⟩, tb3 233 rfl rfl, tb3 234 rfl rfl⟩
theorem mv_J0_coder_7d493 : mvq M_J0_coder_7d493 0 := ⟨⟨tb3 229 rfl rfl, tb1 14 rfl rfl, by decide, by decide, by decide +kernel⟩, tb3 227 rfl rfl, tb3 228 rfl rfl⟩
theorem mv_J0_isLatin1_aae02 : mvq M_J0_isLatin1_aae02 0 := ⟨⟨tb3 239 rfl rfl, tb1 14 rfl rfl, by decide, by decide, by decide +kernel⟩, tb3 237 rfl rfl, tb3 238 rfl rfl⟩
theorem ms_J0_checkIndex_df160 : msq M_J0_checkIndex_df160 2 := ⟨⟨tb4 5 rfl rfl, tb1 14 rfl rfl, by decide, by decide, by decide +kernel⟩, tb4 4 rfl rfl⟩
theorem ms_J1_charAt_3b067 : msq M_J1_charAt_3b067 2 := ⟨⟨tb4 2 rfl rfl, tb1 15 rfl rfl, by decide, by decide, by decide +kernel⟩, tb4 1 rfl rfl⟩
theorem ms_J2_getChar_3b067 : msq M_J2_getChar_3b067 2 := ⟨⟨tb4 23 rfl rfl, tb1 17 rfl rfl, by decide, by decide, by decide +kernel⟩, tb4 22 rfl rfl⟩
theorem ms_J2_length_9d52b : msq M_J2_length_9d52b 1 := ⟨⟨tb4 19 rfl rfl, tb1 17 rfl rfl, by decide, by decide, by decide +kernel⟩, tb4 18 rfl rfl⟩
theorem ms_J2_charAt_3b067 : msq M_J2_charAt_3b067 2 := ⟨⟨tb4 13 rfl rfl, tb1 17 rfl rfl, by decide, by decide, by decide +kernel⟩, tb4 12 rfl rfl⟩
theorem ms_J2_checkIndex_2214a : msq M_J2_checkIndex_2214a 2 := ⟨⟨tb4 16 rfl rfl, tb1 17 rfl rfl, by decide, by decide, by decide +kernel⟩, tb4 15 rfl rfl⟩
theorem ms_J3_checkIndex_8e157 : msq M_J3_checkIndex_8e157 3 := ⟨⟨tb4 10 rfl rfl, tb1 16 rfl rfl, by decide, by decide, by decide +kernel⟩, tb4 9 rfl rfl⟩
theorem oi_2 : Cond.instanceMethod Lib.objectInit ∈ tbG := tb1 25 rfl rfl
theorem oi_3 : Cond.code Lib.objectInit ⟨#[0xb1]⟩ 1 none ∈ tbG := tb1 26 rfl rfl
theorem kc_X10_303 : Jvm.Cond.constant RX10 303 (199999) ∈ tbG := tb4 179 rfl rfl
theorem kc_X10_320 : Jvm.Cond.constant RX10 320 (99999) ∈ tbG := tb4 197 rfl rfl
theorem kc_J6_265 : Jvm.Cond.constant "java/lang/Integer" 265 (1431655765) ∈ tbG := tb5 61 rfl rfl
theorem kc_J6_266 : Jvm.Cond.constant "java/lang/Integer" 266 (858993459) ∈ tbG := tb5 62 rfl rfl
theorem kc_J6_267 : Jvm.Cond.constant "java/lang/Integer" 267 (252645135) ∈ tbG := tb5 63 rfl rfl
theorem kc_X11_427 : Jvm.Cond.constant RX11 427 (1000000000) ∈ tbG := tb7 167 rfl rfl
theorem kc_X10_318 : Jvm.Cond.constantLong RX10 318 (1000) ∈ tbG := tb4 188 rfl rfl
theorem kc_X4_46 : Jvm.Cond.constantLong RX4 46 (1152921504606846976) ∈ tbG := tb5 77 rfl rfl
theorem kc_X4_74 : Jvm.Cond.constantLong RX4 74 (1679616) ∈ tbG := tb5 84 rfl rfl
theorem kc_X4_91 : Jvm.Cond.constantLong RX4 91 (6) ∈ tbG := tb5 113 rfl rfl
theorem kc_X11_211 : Jvm.Cond.constantLong RX11 211 (999) ∈ tbG := tb6 122 rfl rfl
theorem kc_X11_195 : Jvm.Cond.constantLong RX11 195 (7) ∈ tbG := tb6 133 rfl rfl
theorem kc_X11_201 : Jvm.Cond.constantLong RX11 201 (5) ∈ tbG := tb6 137 rfl rfl
theorem kc_X11_220 : Jvm.Cond.constantLong RX11 220 (3) ∈ tbG := tb6 138 rfl rfl
theorem kc_X11_222 : Jvm.Cond.constantLong RX11 222 (200) ∈ tbG := tb6 139 rfl rfl
theorem kc_X11_236 : Jvm.Cond.constantLong RX11 236 (10) ∈ tbG := tb6 156 rfl rfl
theorem kc_X11_262 : Jvm.Cond.constantLong RX11 262 (8) ∈ tbG := tb6 193 rfl rfl
theorem kc_X11_267 : Jvm.Cond.constantLong RX11 267 (255) ∈ tbG := tb6 194 rfl rfl
theorem kc_X11_203 : Jvm.Cond.constantLong RX11 203 (2000) ∈ tbG := tb6 202 rfl rfl
theorem kc_X11_282 : Jvm.Cond.constantLong RX11 282 (97) ∈ tbG := tb6 211 rfl rfl
theorem kc_X11_284 : Jvm.Cond.constantLong RX11 284 (122) ∈ tbG := tb6 212 rfl rfl
theorem kc_X11_289 : Jvm.Cond.constantLong RX11 289 (48) ∈ tbG := tb6 236 rfl rfl
theorem kc_X11_291 : Jvm.Cond.constantLong RX11 291 (57) ∈ tbG := tb6 237 rfl rfl
theorem kc_X11_339 : Jvm.Cond.constantLong RX11 339 (13) ∈ tbG := tb7 17 rfl rfl
theorem kc_X11_419 : Jvm.Cond.constantLong RX11 419 (199999) ∈ tbG := tb7 145 rfl rfl
theorem kc_X11_421 : Jvm.Cond.constantLong RX11 421 (2) ∈ tbG := tb7 150 rfl rfl
theorem kc_X11_423 : Jvm.Cond.constantLong RX11 423 (1000) ∈ tbG := tb7 151 rfl rfl
theorem kc_X11_425 : Jvm.Cond.constantLong RX11 425 (9999) ∈ tbG := tb7 156 rfl rfl
theorem kc_X11_428 : Jvm.Cond.constantLong RX11 428 (99999) ∈ tbG := tb7 161 rfl rfl
theorem kc_X11_430 : Jvm.Cond.constantLong RX11 430 (4) ∈ tbG := tb7 162 rfl rfl
theorem kc_X11_436 : Jvm.Cond.constantLong RX11 436 (99) ∈ tbG := tb7 172 rfl rfl
theorem kc_L_49 : Jvm.Cond.constantLong "WharfPapersLaw" 49 (4294967295) ∈ tbG := tb7 229 rfl rfl
theorem cl_L_7 : Cond.classLink "WharfPapersLaw" 7 "WharfPapers" ∈ tbG := tb1 19 rfl rfl
theorem cl_X10_13 : Cond.classLink RX10 13 "WharfPapers$Lots" ∈ tbG := tb1 27 rfl rfl
theorem cl_X10_20 : Cond.classLink RX10 20 "WharfPapers$Lines" ∈ tbG := tb1 64 rfl rfl
theorem cl_X10_27 : Cond.classLink RX10 27 "WharfPapers$Terms" ∈ tbG := tb1 122 rfl rfl
theorem cl_X8_20 : Cond.classLink RX8 20 "[[I" ∈ tbG := tb1 128 rfl rfl
theorem cl_X10_34 : Cond.classLink RX10 34 "WharfPapers$Reader" ∈ tbG := tb1 159 rfl rfl
theorem cl_X10_41 : Cond.classLink RX10 41 "WharfPapers$Story" ∈ tbG := tb1 199 rfl rfl
theorem cl_X10_53 : Cond.classLink RX10 53 "WharfPapers$Doubt" ∈ tbG := tb2 30 rfl rfl
theorem cl_X10_60 : Cond.classLink RX10 60 "WharfPapers$Weighings" ∈ tbG := tb2 47 rfl rfl
theorem cl_X10_67 : Cond.classLink RX10 67 "[[I" ∈ tbG := tb2 74 rfl rfl
theorem cl_X10_72 : Cond.classLink RX10 72 "WharfPapers$Sales" ∈ tbG := tb2 75 rfl rfl
theorem cl_X10_79 : Cond.classLink RX10 79 "WharfPapers$Dues" ∈ tbG := tb2 107 rfl rfl
theorem cl_X10_93 : Cond.classLink RX10 93 "WharfPapers$Plan" ∈ tbG := tb2 146 rfl rfl
theorem cl_L_10 : Cond.classLink "WharfPapersLaw" 10 "WharfPapersModel" ∈ tbG := tb5 114 rfl rfl
theorem in_X10 : Cond.instantiable RX10 15 ∈ tbG := tb1 20 rfl rfl
theorem in_X3 : Cond.instantiable RX3 6 ∈ tbG := tb1 28 rfl rfl
theorem in_X2 : Cond.instantiable RX2 11 ∈ tbG := tb1 65 rfl rfl
theorem in_X8 : Cond.instantiable RX8 9 ∈ tbG := tb1 123 rfl rfl
theorem in_X5 : Cond.instantiable RX5 9 ∈ tbG := tb1 160 rfl rfl
theorem in_X7 : Cond.instantiable RX7 16 ∈ tbG := tb1 200 rfl rfl
theorem in_X0 : Cond.instantiable RX0 3 ∈ tbG := tb2 31 rfl rfl
theorem in_X9 : Cond.instantiable RX9 5 ∈ tbG := tb2 48 rfl rfl
theorem in_X6 : Cond.instantiable RX6 8 ∈ tbG := tb2 76 rfl rfl
theorem in_X1 : Cond.instantiable RX1 9 ∈ tbG := tb2 108 rfl rfl
theorem in_X4 : Cond.instantiable RX4 7 ∈ tbG := tb2 147 rfl rfl
theorem in_X11 : Cond.instantiable RX11 79 ∈ tbG := tb5 115 rfl rfl
theorem iz_L : Cond.initialized "WharfPapersLaw" ∈ tbG := tb1 0 rfl rfl
theorem iz_X10 : Cond.initialized RX10 ∈ tbG := tb1 1 rfl rfl
theorem iz_X3 : Cond.initialized RX3 ∈ tbG := tb1 2 rfl rfl
theorem iz_X2 : Cond.initialized RX2 ∈ tbG := tb1 3 rfl rfl
theorem iz_X8 : Cond.initialized RX8 ∈ tbG := tb1 4 rfl rfl
theorem iz_X5 : Cond.initialized RX5 ∈ tbG := tb1 5 rfl rfl
theorem iz_X7 : Cond.initialized RX7 ∈ tbG := tb1 6 rfl rfl
theorem iz_X0 : Cond.initialized RX0 ∈ tbG := tb1 7 rfl rfl
theorem iz_X9 : Cond.initialized RX9 ∈ tbG := tb1 8 rfl rfl
theorem iz_X6 : Cond.initialized RX6 ∈ tbG := tb1 9 rfl rfl
theorem iz_X1 : Cond.initialized RX1 ∈ tbG := tb1 10 rfl rfl
theorem iz_X4 : Cond.initialized RX4 ∈ tbG := tb1 11 rfl rfl
theorem iz_X11 : Cond.initialized RX11 ∈ tbG := tb1 12 rfl rfl
theorem iz_J9 : Cond.initialized "java/lang/Math" ∈ tbG := tb1 13 rfl rfl
theorem iz_J0 : Cond.initialized "java/lang/String" ∈ tbG := tb1 14 rfl rfl
theorem iz_J1 : Cond.initialized "java/lang/StringLatin1" ∈ tbG := tb1 15 rfl rfl
theorem iz_J3 : Cond.initialized "jdk/internal/util/Preconditions" ∈ tbG := tb1 16 rfl rfl
theorem iz_J2 : Cond.initialized "java/lang/StringUTF16" ∈ tbG := tb1 17 rfl rfl
theorem iz_J6 : Cond.initialized "java/lang/Integer" ∈ tbG := tb1 18 rfl rfl
theorem ac_int : Cond.arrayClass .int ∈ tbG := tb1 63 rfl rfl
theorem ac_boolean : Cond.arrayClass .boolean ∈ tbG := tb1 121 rfl rfl
theorem ac_long : Cond.arrayClass .long ∈ tbG := tb2 174 rfl rfl
theorem ac_byte : Cond.arrayClass .byte ∈ tbG := tb4 68 rfl rfl
