/-! THE START: what the Statement gives of the law's entry is Kst; the law's run in the own machine gives whole_start -/
theorem tb_at {args : Array Value} {s : State} (hts : ∀ w ∈ lw_tbl, w.before args s = true) : ∀ w ∈ tbG, w.before args s = true := fun w hw => hts w (List.mem_filter.mp hw).1
def flq0 : List Cond := flatC (Jvm.Cond.and given_1 narrow_1)
def chkq (w : Cond) : Bool := decide (w ∈ flq0)
abbrev tSq (q : String × String × List Int) : Term := .static q.1 q.2.1 "[I"
abbrev tTq (i : Nat) : Term := .string "WharfPapers$Reader" ((txq.getD i (0, "", [])).1)
theorem ck_arr : stq.all (fun q => chkq (.arrayOf (tSq q) .int) && (chkq (.eq (.length (tSq q)) (.int (Int32.ofNat q.2.2.length))) && (List.range q.2.2.length).all (fun j => chkq (.eq (.elem (tSq q) (.int (Int32.ofNat j))) (.int (Int32.ofInt (q.2.2.getD j 0))))))) = true := by decide +kernel
theorem ck_txt : (List.range 13).all (fun i => chkq (.exactly (tTq i) "java/lang/String") && (chkq (.eq (.field (tTq i) "java/lang/String" "coder" "B") (.int 0)) && (chkq (.arrayOf (.field (tTq i) "java/lang/String" "value" "[B") .byte) && (chkq (.eq (.length (.field (tTq i) "java/lang/String" "value" "[B")) (.int (Int32.ofNat (lenq.getD i 0)))) && (List.range (lenq.getD i 0)).all (fun j => chkq (.eq (.elem (.field (tTq i) "java/lang/String" "value" "[B") (.int (Int32.ofNat j))) (.int ((bytq.getD i []).getD j 0)))))))) = true := by decide +kernel
def prq : List (Nat × Nat × Nat) := [(0, 1, 100), (0, 2, 109), (0, 3, 119), (0, 4, 132), (0, 5, 144), (0, 6, 159), (0, 7, 174), (0, 8, 188), (0, 9, 203), (0, 10, 220), (0, 11, 240), (0, 12, 257), (1, 2, 110), (1, 3, 120), (1, 4, 133), (1, 5, 145), (1, 6, 160), (1, 7, 175), (1, 8, 189), (1, 9, 204), (1, 10, 221), (1, 11, 241), (1, 12, 258), (2, 3, 121), (2, 4, 134), (2, 5, 146), (2, 6, 161), (2, 7, 176), (2, 8, 190), (2, 9, 205), (2, 10, 222), (2, 11, 242), (2, 12, 259), (3, 4, 135), (3, 5, 147), (3, 6, 162), (3, 7, 177), (3, 8, 191), (3, 9, 206), (3, 10, 223), (3, 11, 243), (3, 12, 260), (4, 5, 148), (4, 6, 163), (4, 7, 178), (4, 8, 192), (4, 9, 207), (4, 10, 224), (4, 11, 244), (4, 12, 261), (5, 6, 164), (5, 7, 179), (5, 8, 193), (5, 9, 208), (5, 10, 225), (5, 11, 245), (5, 12, 262), (6, 7, 180), (6, 8, 194), (6, 9, 209), (6, 10, 226), (6, 11, 246), (6, 12, 263), (7, 8, 195), (7, 9, 210), (7, 10, 227), (7, 11, 247), (7, 12, 264), (8, 9, 211), (8, 10, 228), (8, 11, 248), (8, 12, 265), (9, 10, 229), (9, 11, 249), (9, 12, 266), (10, 11, 250), (10, 12, 267), (11, 12, 268)]
theorem ck_pr : prq.all (fun q => decide (nthq flq0 q.2.2 = some (.not (.eq (tTq q.1) (tTq q.2.1))))) = true := by decide +kernel
theorem ck_pc : (List.range 13).all (fun i => (List.range 13).all (fun j => decide (j ≤ i) || prq.any (fun q => decide (q.1 = i) && decide (q.2.1 = j)))) = true := by decide +kernel
theorem ck_ne1 {i j : Nat} (hi : i < 13) (hj : j < 13) (h : i < j) : Cond.not (.eq (tTq i) (tTq j)) ∈ flq0 := by
  have h1 := List.all_eq_true.mp (List.all_eq_true.mp ck_pc i (List.mem_range.mpr hi)) j (List.mem_range.mpr hj)
  rw [decide_eq_false (by omega), Bool.false_or, List.any_eq_true] at h1
  obtain ⟨q, hq, h2⟩ := h1
  simp only [Bool.and_eq_true, decide_eq_true_eq] at h2
  have h3 := of_decide_eq_true (List.all_eq_true.mp ck_pr q hq)
  rw [h2.1, h2.2] at h3
  exact nthq_mem h3
theorem ck_oth : (chkq (.eq (.static "java/lang/String" "COMPACT_STRINGS" "Z") (.int 1)) && chkq (.isRef (.static "jdk/internal/util/Preconditions" "SIOOBE_FORMATTER" sfmt))) = true := by decide +kernel
theorem ck_len : ∀ i, i < 13 → lenq.getD i 0 < 2 ^ 31 := by decide +kernel
theorem ck_lays : stq.all (fun q => decide (Cond.laysStatic q.1 q.2.1 "[I" ∈ lw_tbl) && decide (Cond.initialized q.1 ∈ lw_tbl)) = true := by decide +kernel
theorem ck_str : (List.range 13).all (fun i => decide (Cond.stringRef "WharfPapers$Reader" (txq.getD i (0, "", [])).1 (txq.getD i (0, "", [])).2.1 ∈ lw_tbl)) = true := by decide +kernel
theorem ck_nst : nstq.all (fun q => decide (Cond.methodLinkNest q.1 q.2.1 q.2.2.1 q.2.2.2 ∈ lw_tbl)) = true := by decide +kernel
theorem ck_sto : (decide (Cond.laysStatic "java/lang/String" "COMPACT_STRINGS" "Z" ∈ lw_tbl) && (decide (Cond.initialized "java/lang/String" ∈ lw_tbl) && (decide (Cond.laysStatic "jdk/internal/util/Preconditions" "SIOOBE_FORMATTER" sfmt ∈ lw_tbl) && (decide (Cond.initialized "jdk/internal/util/Preconditions" ∈ lw_tbl) && decide (Cond.arrayOver (.array .int) ∈ lw_tbl))))) = true := by decide +kernel
theorem ck_of {s : State} {args : Array Value} (hf : ∀ c ∈ flq0, c.before args s = true) {w : Cond} (h : chkq w = true) : w.before args s = true := hf w (of_decide_eq_true h)
/-- the classes' numbers and slots -/
theorem st_cls {s : State} {args : Array Value} (hts : ∀ w ∈ tbG, w.before args s = true) : ∃ D : va_G, va_K D vwCl [] s := by
  obtain ⟨c0, i0, h0⟩ := u_known (C := RX0) (T := TX0) (N := 3) (n := 3) hts u_X0 (hts _ in_X0)
  obtain ⟨c1, i1, h1⟩ := u_known (C := RX1) (T := TX1) (N := 9) (n := 9) hts u_X1 (hts _ in_X1)
  obtain ⟨c2, i2, h2⟩ := u_known (C := RX2) (T := TX2) (N := 11) (n := 11) hts u_X2 (hts _ in_X2)
  obtain ⟨c3, i3, h3⟩ := u_known (C := RX3) (T := TX3) (N := 6) (n := 6) hts u_X3 (hts _ in_X3)
  obtain ⟨c4, i4, h4⟩ := u_known (C := RX4) (T := TX4) (N := 7) (n := 7) hts u_X4 (hts _ in_X4)
  obtain ⟨c5, i5, h5⟩ := u_known (C := RX5) (T := TX5) (N := 9) (n := 9) hts u_X5 (hts _ in_X5)
  obtain ⟨c6, i6, h6⟩ := u_known (C := RX6) (T := TX6) (N := 8) (n := 8) hts u_X6 (hts _ in_X6)
  obtain ⟨c7, i7, h7⟩ := u_known (C := RX7) (T := TX7) (N := 16) (n := 16) hts u_X7 (hts _ in_X7)
  obtain ⟨c8, i8, h8⟩ := u_known (C := RX8) (T := TX8) (N := 9) (n := 9) hts u_X8 (hts _ in_X8)
  obtain ⟨c9, i9, h9⟩ := u_known (C := RX9) (T := TX9) (N := 5) (n := 5) hts u_X9 (hts _ in_X9)
  obtain ⟨c10, i10, h10⟩ := u_known (C := RX10) (T := TX10) (N := 15) (n := 15) hts u_X10 (hts _ in_X10)
  obtain ⟨c11, i11, h11⟩ := u_known (C := RX11) (T := TX11) (N := 79) (n := 79) hts u_X11 (hts _ in_X11)
  refine ⟨(fun k => match k with | 0 => c0 | 1 => c1 | 2 => c2 | 3 => c3 | 4 => c4 | 5 => c5 | 6 => c6 | 7 => c7 | 8 => c8 | 9 => c9 | 10 => c10 | _ => c11, fun k => match k with | 0 => i0 | 1 => i1 | 2 => i2 | 3 => i3 | 4 => i4 | 5 => i5 | 6 => i6 | 7 => i7 | 8 => i8 | 9 => i9 | 10 => i10 | _ => i11), fun k q hq => ?_, fun k q h => by simp at h⟩
  match k, hq with
  | 0, hq => cases hq; exact h0
  | 1, hq => cases hq; exact h1
  | 2, hq => cases hq; exact h2
  | 3, hq => cases hq; exact h3
  | 4, hq => cases hq; exact h4
  | 5, hq => cases hq; exact h5
  | 6, hq => cases hq; exact h6
  | 7, hq => cases hq; exact h7
  | 8, hq => cases hq; exact h8
  | 9, hq => cases hq; exact h9
  | 10, hq => cases hq; exact h10
  | 11, hq => cases hq; exact h11
  | k + 12, hq => simp [vwCl] at hq
theorem st_kst {s : State} {b L : Nat} {xs : Nat → Int32} (hts : ∀ w ∈ lw_tbl, w.before #[Value.ref b] s = true) (hf : ∀ c ∈ flq0, c.before #[Value.ref b] s = true) (hX : va_X b L xs s s.heap) (hb : b < s.heap.size) (hL : L ≤ 3584) :
    ∃ (D : va_G) (ad : Nat → Nat), Kst (s.heap.size, s.heap, D, ad, L, fun j => (xs j).toInt) s ∧ ad 60 = b := by
  obtain ⟨D, hD⟩ := st_cls (tb_at hts)
  have hA : ∀ a : Nat, a < s.heap.size → ¬ (fun q : Nat => s.heap.size ≤ q) a := fun a h => Nat.not_le.mpr h
  have hA2 := List.all_eq_true.mp ck_arr
  have hLy := List.all_eq_true.mp ck_lays
  have harr : ∀ i : Nat, ∃ t : Nat, ∀ q : String × String × List Int, stq[i]? = some q → va_Z q.1 q.2.1 "[I" (.ref t) (fun a => s.heap.size ≤ a) s s.heap ∧ va_T .int t q.2.2.length (fun j => .int (Int32.ofInt (q.2.2.getD j 0))) (fun a => s.heap.size ≤ a) s s.heap := by
    intro i
    cases hq : stq[i]? with
    | none => exact ⟨0, fun q h => by cases h⟩
    | some q =>
      have hm := List.mem_of_getElem? hq
      have h1 := hA2 q hm
      simp only [Bool.and_eq_true, List.all_eq_true] at h1
      have h2 := hLy q hm
      simp only [Bool.and_eq_true, decide_eq_true_eq] at h2
      have hlen : q.2.2.length < 2 ^ 31 := by
        have : stq.all (fun q => decide (q.2.2.length < 100)) = true := by decide
        have := of_decide_eq_true (List.all_eq_true.mp this q hm)
        omega
      obtain ⟨t, ht, hT⟩ := va_Tof (f := fun j => .int (Int32.ofInt (q.2.2.getD j 0))) hlen (ck_of hf h1.1) (va_eqt (ck_of hf h1.2.1)) (fun j hj => va_eqt (ck_of hf (h1.2.2 j (List.mem_range.mpr hj)))) hA
      exact ⟨t, fun q' h => by cases h; exact ⟨va_Zof (hts _ h2.1) (hts _ h2.2) ht hA, hT⟩⟩
  obtain ⟨at1, hat⟩ := Classical.axiomOfChoice harr
  have hT2 := List.all_eq_true.mp ck_txt
  have hT3 : ∀ i, i < 13 → _ := fun i hi => hT2 i (List.mem_range.mpr hi)
  simp only [Bool.and_eq_true, List.all_eq_true, List.mem_range] at hT3
  obtain ⟨adK, adV, hS, hev⟩ := vk_Sof (args := #[Value.ref b]) (s := s) (N := 13) (tm := tTq) (len := lenq) (byt := bytq) (A := fun a => s.heap.size ≤ a) ck_len (fun i hi => ck_of hf (hT3 i hi).1) (fun i hi => ck_of hf (hT3 i hi).2.1) (fun i hi => ck_of hf (hT3 i hi).2.2.1) (fun i hi => ck_of hf (hT3 i hi).2.2.2.1) (fun i hi j hj => ck_of hf ((hT3 i hi).2.2.2.2 j hj)) (fun i j hi hj hne => by
    rcases Nat.lt_or_gt_of_ne hne with h | h
    · exact Or.inl (hf _ (ck_ne1 hi hj h))
    · exact Or.inr (hf _ (ck_ne1 hj hi h))) hA
  have hO := ck_oth
  simp only [Bool.and_eq_true] at hO
  have hO2 := ck_sto
  simp only [Bool.and_eq_true, decide_eq_true_eq] at hO2
  have hcs := va_Zof (A := fun a => s.heap.size ≤ a) (hts _ hO2.1) (hts _ hO2.2.1) (va_eqi (ck_of hf hO.1)) hA
  have hfm := va_Zqof (A := fun a => s.heap.size ≤ a) (hts _ hO2.2.2.1) (hts _ hO2.2.2.2.1) (ck_of hf hO.2) hA
  obtain ⟨fa, hfa⟩ : ∃ fa : Nat, va_Z "jdk/internal/util/Preconditions" "SIOOBE_FORMATTER" sfmt .null (fun a => s.heap.size ≤ a) s s.heap ∨ va_Z "jdk/internal/util/Preconditions" "SIOOBE_FORMATTER" sfmt (.ref fa) (fun a => s.heap.size ≤ a) s s.heap := by
    rcases hfm with h | ⟨t, h⟩
    · exact ⟨0, Or.inl h⟩
    · exact ⟨t, Or.inr h⟩
  refine ⟨D, fun k => if k < 10 then at1 k else if k < 30 then adK (k - 10) else if k < 50 then adV (k - 30) else if k = 50 then fa else b, ⟨hD, fun i q hq => ?_, fun i q hq => ?_, ?_, hcs, ?_, ?_, fun q hq => ?_, ?_⟩, ?_⟩
  · have hi : i < 6 := (List.getElem?_eq_some_iff.mp hq).1
    have e : adr (s.heap.size, s.heap, D, (fun k => if k < 10 then at1 k else if k < 30 then adK (k - 10) else if k < 50 then adV (k - 30) else if k = 50 then fa else b), L, fun j => (xs j).toInt) (1000 + i) = at1 i := by
      unfold adr
      rw [if_neg (by omega), show 1000 + i - 1000 = i by omega]
      exact if_pos (by omega)
    rw [e]
    exact hat i q hq
  · have hi : i < 13 := (List.getElem?_eq_some_iff.mp hq).1
    have e : adr (s.heap.size, s.heap, D, (fun k => if k < 10 then at1 k else if k < 30 then adK (k - 10) else if k < 50 then adV (k - 30) else if k = 50 then fa else b), L, fun j => (xs j).toInt) (1010 + i) = adK i := by
      unfold adr
      rw [if_neg (by omega), show 1010 + i - 1000 = 10 + i by omega]
      show (if 10 + i < 10 then _ else _) = _
      rw [if_neg (by omega), if_pos (by omega), show 10 + i - 10 = i by omega]
    rw [e]
    have h1 := of_decide_eq_true (List.all_eq_true.mp ck_str i (List.mem_range.mpr hi))
    have e2 : txq.getD i (0, "", []) = q := by rw [List.getD_eq_getElem?_getD, hq]; rfl
    have h2 := hev i hi
    unfold tTq at h2
    rw [e2] at h1 h2
    exact vk_R.of (hts _ h1) h2
  · have e1 : (fun i => adr (s.heap.size, s.heap, D, (fun k => if k < 10 then at1 k else if k < 30 then adK (k - 10) else if k < 50 then adV (k - 30) else if k = 50 then fa else b), L, fun j => (xs j).toInt) (1010 + i)) = fun i => if i < 20 then adK i else adr (s.heap.size, s.heap, D, (fun k => if k < 10 then at1 k else if k < 30 then adK (k - 10) else if k < 50 then adV (k - 30) else if k = 50 then fa else b), L, fun j => (xs j).toInt) (1010 + i) := by
      funext i
      by_cases hi : i < 20
      · rw [if_pos hi]
        unfold adr
        rw [if_neg (by omega), show 1010 + i - 1000 = 10 + i by omega]
        show (if 10 + i < 10 then _ else _) = _
        rw [if_neg (by omega), if_pos (by omega), show 10 + i - 10 = i by omega]
      · rw [if_neg hi]
    have eK : ∀ i, i < 13 → adr (s.heap.size, s.heap, D, (fun k => if k < 10 then at1 k else if k < 30 then adK (k - 10) else if k < 50 then adV (k - 30) else if k = 50 then fa else b), L, fun j => (xs j).toInt) (1010 + i) = adK i := fun i hi => by
      have := congrFun e1 i
      rw [if_pos (by omega)] at this
      exact this
    have eV : ∀ i, i < 13 → adr (s.heap.size, s.heap, D, (fun k => if k < 10 then at1 k else if k < 30 then adK (k - 10) else if k < 50 then adV (k - 30) else if k = 50 then fa else b), L, fun j => (xs j).toInt) (1030 + i) = adV i := fun i hi => by
      unfold adr
      rw [if_neg (by omega), show 1030 + i - 1000 = 30 + i by omega]
      show (if 30 + i < 10 then _ else _) = _
      rw [if_neg (by omega), if_neg (by omega), if_pos (by omega), show 30 + i - 30 = i by omega]
    refine ⟨fun i hi => ?_, fun i j hi hj h => ?_⟩
    · have := hS.1 i hi
      rw [← eK i hi, ← eV i hi] at this
      exact this
    · have h : adr _ (1010 + i) = adr _ (1010 + j) := h
      rw [eK i hi, eK j hj] at h
      exact hS.2 i j hi hj h
  · rcases hfa with h | h
    · exact ⟨none, h⟩
    · refine ⟨some 1050, ?_⟩
      have e : crf (s.heap.size, s.heap, D, (fun k => if k < 10 then at1 k else if k < 30 then adK (k - 10) else if k < 50 then adV (k - 30) else if k = 50 then fa else b), L, fun j => (xs j).toInt) (some 1050) = .ref fa := by
        show Value.ref (adr _ 1050) = _
        unfold adr
        rw [if_neg (by decide)]
        rfl
      rw [e]
      exact h
  · obtain ⟨scr, g1, g2, g3, g4, g5⟩ := hX
    have e : adr (s.heap.size, s.heap, D, (fun k => if k < 10 then at1 k else if k < 30 then adK (k - 10) else if k < 50 then adV (k - 30) else if k = 50 then fa else b), L, fun j => (xs j).toInt) 1060 = b := by
      unfold adr
      rw [if_neg (by decide)]
      rfl
    rw [e]
    refine ⟨scr, g1, g2, g3, by rw [g4]; exact Nat.le_refl _, by rw [g4], fun j hj => ?_, Nat.not_le.mpr hb⟩
    rw [g5 j hj]
    show _ = some (Value.int (Int32.ofInt (xs j).toInt))
    rw [Int32.ofInt_toInt]
  · exact va_Nw.of rfl (hts _ (of_decide_eq_true (List.all_eq_true.mp ck_nst q hq)))
  · exact hts _ hO2.2.2.2.2
  · rfl
/-- the law's run in the own machine -/
def LawRun : Prop := ∀ (l : Launch) (G : GC), G.2.2.2.2.1 ≤ 3584 → (∀ j, rgi (G.2.2.2.2.2 j)) → RunX l G M_L_law room_1 0 [some (vr 1060)] [] (0, fun _ _ => none, fun _ _ => 0) 0 0 (fun r _ => r = some (vi 1))
