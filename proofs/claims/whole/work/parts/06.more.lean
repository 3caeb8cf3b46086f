/-! constants, texts, the script; what is made -/
section XS
variable {l : Launch} {G : GC} {M : MI} {R : Room} {pc nx tg : Nat} {L : List (Option AV)} {st : List AV} {S : WS} {ca sl : Nat} {Q : Option AV → WS → Prop}
theorem o_nat (n : Nat) : Int32.ofNat n = Int32.ofInt (n : Int) := Int32.ofInt_eq_ofNat.symm
/-- a constant's cell lies below the base -/
theorem x_below {U : State} {H : Heap} (hi : Invq G S U H) {a : Nat} {cell : Cell} (h : G.2.1[a]? = some cell) (ha : ¬ G.1 ≤ a) : H[a]? = some cell := by rw [hi.2.1 a (Nat.not_le.mp ha)]; exact h
theorem x_gets {i idx : Nat} {q : String × String × List Int} (hd : dok M.2.1 (pc, .getstatic idx, 3, nx, tg)) (hq : stq[i]? = some q) (hlk : Cond.fieldLink M.1.cls idx q.1 q.2.1 "[I" ∈ tbG) (kk : RunX l G M R nx L (vr (1000 + i) :: st) S ca sl Q) : RunX l G M R pc L st S ca sl Q := by
  intro p e s m args below meth c H locs Z ls hc hn hks hr hi hlo hl
  obtain ⟨hd1, hd2, hd3⟩ := hd
  dsimp only at hd1 hd2 hd3
  subst hd2
  obtain ⟨⟨cf, kf, fi, f, a, cell, h1, h2, h3, h4, h5, h6, h7, h8⟩, -⟩ := hks.2.1 i q hq
  exact W.gets hc.1 hc.2.1 hc.2.2.2.1 (hc.2.2.2.2 _ hlk) h1 h2 h3 h4 (x_below hi h5 h8) (fun e => by rw [e] at h6; cases h6) h7 rfl hd1 (kk p e s m args below meth c H locs Z ls hc hn hks hr hi hlo hl)
theorem x_getsZ {idx : Nat} (hd : dok M.2.1 (pc, .getstatic idx, 3, nx, tg)) (hlk : Cond.fieldLink M.1.cls idx "java/lang/String" "COMPACT_STRINGS" "Z" ∈ tbG) (kk : RunX l G M R nx L (vi 1 :: st) S ca sl Q) : RunX l G M R pc L st S ca sl Q := by
  intro p e s m args below meth c H locs Z ls hc hn hks hr hi hlo hl
  obtain ⟨hd1, hd2, hd3⟩ := hd
  dsimp only at hd1 hd2 hd3
  subst hd2
  obtain ⟨cf, kf, fi, f, a, cell, h1, h2, h3, h4, h5, h6, h7, h8⟩ := hks.2.2.2.2.1
  exact W.gets hc.1 hc.2.1 hc.2.2.2.1 (hc.2.2.2.2 _ hlk) h1 h2 h3 h4 (x_below hi h5 h8) (fun e => by rw [e] at h6; cases h6) h7 rfl hd1 (kk p e s m args below meth c H locs Z ls hc hn hks hr hi hlo hl)
theorem x_getsF {idx : Nat} (hd : dok M.2.1 (pc, .getstatic idx, 3, nx, tg)) (hlk : Cond.fieldLink M.1.cls idx "jdk/internal/util/Preconditions" "SIOOBE_FORMATTER" sfmt ∈ tbG) (kk : ∀ r : Option Nat, RunX l G M R nx L (.inr (.inr r) :: st) S ca sl Q) : RunX l G M R pc L st S ca sl Q := by
  intro p e s m args below meth c H locs Z ls hc hn hks hr hi hlo hl
  obtain ⟨hd1, hd2, hd3⟩ := hd
  dsimp only at hd1 hd2 hd3
  subst hd2
  obtain ⟨r, cf, kf, fi, f, a, cell, h1, h2, h3, h4, h5, h6, h7, h8⟩ := hks.2.2.2.2.2.1
  exact W.gets hc.1 hc.2.1 hc.2.2.2.1 (hc.2.2.2.2 _ hlk) h1 h2 h3 h4 (x_below hi h5 h8) (fun e => by rw [e] at h6; cases h6) h7 rfl hd1 (kk r p e s m args below meth c H locs Z ls hc hn hks hr hi hlo hl)
theorem x_Tin {i : Int} {N n : Nat} (h : 0 ≤ i ∧ i < N) (hN : N ≤ n) (hs : N < 2147483648) : ¬ (Int32.ofInt i < 0 ∨ n ≤ (Int32.ofInt i).toNatClampNeg) := by
  rw [o32_0, o32_lt (by omega) (by decide), o32_ix h.1 (by omega)]
  omega
/-- a static array is read -/
theorem x_ialdS {i : Nat} {z : Int} {q : String × String × List Int} (hd : dok M.2.1 (pc, .iaload, 1, nx, tg)) (hq : stq[i]? = some q) (hz : 0 ≤ z ∧ z < q.2.2.length) (hln : q.2.2.length < 100) (kk : RunX l G M R nx L (vi (q.2.2.getD z.toNat 0) :: st) S ca sl Q) : RunX l G M R pc L (vi z :: vr (1000 + i) :: st) S ca sl Q := by
  intro p e s m args below meth c H locs Z ls hc hn hks hr hi hlo hl
  obtain ⟨hd1, hd2, hd3⟩ := hd
  dsimp only at hd1 hd2 hd3
  subst hd2
  obtain ⟨-, cell, h1, h2, h3, h4, h5, h6, h7⟩ := hks.2.1 i q hq
  refine W.iald (v := .int (Int32.ofInt (q.2.2.getD z.toNat 0))) hc.1 hc.2.1 (x_below hi h1 h7) h2 h3 (x_Tin hz h4 (by omega)) ?_ rfl rfl hd1 (kk p e s m args below meth c H locs Z ls hc hn hks hr hi hlo hl)
  rw [o32_ix hz.1 (by omega)]
  exact h6 _ (by omega)
/-- the script is read -/
theorem x_sld {z : Int} (hd : dok M.2.1 (pc, .iaload, 1, nx, tg)) (hz : 0 ≤ z ∧ z < G.2.2.2.2.1) (hln : G.2.2.2.2.1 < 100000) (kk : RunX l G M R nx L (vi (G.2.2.2.2.2 z.toNat) :: st) S ca sl Q) : RunX l G M R pc L (vi z :: vr 1060 :: st) S ca sl Q := by
  intro p e s m args below meth c H locs Z ls hc hn hks hr hi hlo hl
  obtain ⟨hd1, hd2, hd3⟩ := hd
  dsimp only at hd1 hd2 hd3
  subst hd2
  obtain ⟨cell, h1, h2, h3, h4, h5, h6, h7⟩ := hks.2.2.2.2.2.2.1
  refine W.iald (v := .int (Int32.ofInt (G.2.2.2.2.2 z.toNat))) hc.1 hc.2.1 (x_below hi h1 h7) h2 h3 (x_Tin hz h4 (by omega)) ?_ rfl rfl hd1 (kk p e s m args below meth c H locs Z ls hc hn hks hr hi hlo hl)
  rw [o32_ix hz.1 (by omega)]
  exact h6 _ (by omega)
theorem x_slen (hd : dok M.2.1 (pc, .arraylength, 1, nx, tg)) (kk : RunX l G M R nx L (vi G.2.2.2.2.1 :: st) S ca sl Q) : RunX l G M R pc L (vr 1060 :: st) S ca sl Q := by
  intro p e s m args below meth c H locs Z ls hc hn hks hr hi hlo hl
  obtain ⟨hd1, hd2, hd3⟩ := hd
  dsimp only at hd1 hd2 hd3
  subst hd2
  obtain ⟨cell, h1, h2, h3, h4, h5, h6, h7⟩ := hks.2.2.2.2.2.2.1
  exact W.alen (n := Int32.ofInt G.2.2.2.2.1) hc.1 hc.2.1 (x_below hi h1 h7) h2 (by rw [h5, o_nat]) rfl rfl hd1 (kk p e s m args below meth c H locs Z ls hc hn hks hr hi hlo hl)
/-- a text constant -/
theorem x_ldcS {i : Nat} {q : Nat × String × List Int32} (hd : dok M.2.1 (pc, .ldc q.1, 2, nx, tg)) (hM : M.1.cls = "WharfPapers$Reader") (hq : txq[i]? = some q) (kk : RunX l G M R nx L (vr (1010 + i) :: st) S ca sl Q) : RunX l G M R pc L st S ca sl Q := by
  intro p e s m args below meth c H locs Z ls hc hn hks hr hi hlo hl
  obtain ⟨hd1, hd2, hd3⟩ := hd
  dsimp only at hd1 hd2 hd3
  subst hd2
  have ho := hc.2.2.2.1
  rw [hM] at ho
  exact va_ldcS hc.1 hc.2.1 ho (hks.2.2.1 i q hq) hd1 (kk p e s m args below meth c H locs Z ls hc hn hks hr hi hlo hl)
theorem x_strV {i idx : Nat} (hd : dok M.2.1 (pc, .getfield idx, 3, nx, tg)) (hi9 : i < 13) (hlk : Cond.fieldLink M.1.cls idx "java/lang/String" "value" "[B" ∈ tbG) (kk : RunX l G M R nx L (vr (1030 + i) :: st) S ca sl Q) : RunX l G M R pc L (vr (1010 + i) :: st) S ca sl Q := by
  intro p e s m args below meth c H locs Z ls hc hn hks hr hi hlo hl
  obtain ⟨hd1, hd2, hd3⟩ := hd
  dsimp only at hd1 hd2 hd3
  subst hd2
  obtain ⟨cf, k, fi, f, cell, h1, h2, h3, h4, h5, h6⟩ := (hks.2.2.2.1.1 i hi9).2.2.1
  exact W.getf hc.1 hc.2.1 hc.2.2.2.1 (hc.2.2.2.2 _ hlk) h1 h2 (x_below hi h3 h6) h4 h5 rfl rfl hd1 (kk p e s m args below meth c H locs Z ls hc hn hks hr hi hlo hl)
theorem x_strC {i idx : Nat} (hd : dok M.2.1 (pc, .getfield idx, 3, nx, tg)) (hi9 : i < 13) (hlk : Cond.fieldLink M.1.cls idx "java/lang/String" "coder" "B" ∈ tbG) (kk : RunX l G M R nx L (vi 0 :: st) S ca sl Q) : RunX l G M R pc L (vr (1010 + i) :: st) S ca sl Q := by
  intro p e s m args below meth c H locs Z ls hc hn hks hr hi hlo hl
  obtain ⟨hd1, hd2, hd3⟩ := hd
  dsimp only at hd1 hd2 hd3
  subst hd2
  obtain ⟨cf, k, fi, f, cell, h1, h2, h3, h4, h5, h6⟩ := (hks.2.2.2.1.1 i hi9).2.1
  exact W.getf hc.1 hc.2.1 hc.2.2.2.1 (hc.2.2.2.2 _ hlk) h1 h2 (x_below hi h3 h6) h4 h5 rfl rfl hd1 (kk p e s m args below meth c H locs Z ls hc hn hks hr hi hlo hl)
theorem x_strL {i n : Nat} (hd : dok M.2.1 (pc, .arraylength, 1, nx, tg)) (hi9 : i < 13) (hn9 : lenq.getD i 0 = n) (kk : RunX l G M R nx L (vi n :: st) S ca sl Q) : RunX l G M R pc L (vr (1030 + i) :: st) S ca sl Q := by
  intro p e s m args below meth c H locs Z ls hc hn hks hr hi hlo hl
  obtain ⟨hd1, hd2, hd3⟩ := hd
  dsimp only at hd1 hd2 hd3
  subst hd2
  subst hn9
  obtain ⟨cell, h1, h2, h3, h4, h5, h6, h7⟩ := (hks.2.2.2.1.1 i hi9).2.2.2
  exact W.alen (n := Int32.ofInt (lenq.getD i 0)) hc.1 hc.2.1 (x_below hi h1 h7) h2 (by rw [h5, o_nat]) rfl rfl hd1 (kk p e s m args below meth c H locs Z ls hc hn hks hr hi hlo hl)
theorem x_strB {i : Nat} {z v : Int} (hd : dok M.2.1 (pc, .baload, 1, nx, tg)) (hi9 : i < 13) (hz : 0 ≤ z ∧ z < lenq.getD i 0) (hln : lenq.getD i 0 < 100) (hv : (bytq.getD i []).getD z.toNat 0 = Int32.ofInt v) (kk : RunX l G M R nx L (vi v :: st) S ca sl Q) : RunX l G M R pc L (vi z :: vr (1030 + i) :: st) S ca sl Q := by
  intro p e s m args below meth c H locs Z ls hc hn hks hr hi hlo hl
  obtain ⟨hd1, hd2, hd3⟩ := hd
  dsimp only at hd1 hd2 hd3
  subst hd2
  obtain ⟨cell, h1, h2, h3, h4, h5, h6, h7⟩ := (hks.2.2.2.1.1 i hi9).2.2.2
  refine W.bald (v := .int (Int32.ofInt v)) hc.1 hc.2.1 (x_below hi h1 h7) h2 h3 (x_Tin hz h4 (by omega)) ?_ rfl rfl hd1 (kk p e s m args below meth c H locs Z ls hc hn hks hr hi hlo hl)
  rw [o32_ix hz.1 (by omega), ← hv]
  exact h6 _ (by omega)
theorem x_i2c {z : Int} (hd : dok M.2.1 (pc, .i2c, 1, nx, tg)) (hz : 0 ≤ z ∧ z < 65536) (kk : RunX l G M R nx L (vi z :: st) S ca sl Q) : RunX l G M R pc L (vi z :: st) S ca sl Q := by
  intro p e s m args below meth c H locs Z ls hc hn hks hr hi hlo hl
  obtain ⟨hd1, hd2, hd3⟩ := hd
  dsimp only at hd1 hd2 hd3
  subst hd2
  refine lv_i2c hc.1 hc.2.1 hd1 (v := Int32.ofInt z) ?_ (kk p e s m args below meth c H locs Z ls hc hn hks hr hi hlo hl)
  rw [pk_char, show (Int32.ofInt z).toBitVec.toNat = z.toNat by
    rw [show Int32.ofInt z = nI z.toNat by unfold nI; rw [← Int32.ofInt_eq_ofNat, Int.toNat_of_nonneg hz.1]]
    exact pk_tn (by omega), Nat.mod_eq_of_lt (by omega)]
  unfold nI
  rw [← Int32.ofInt_eq_ofNat, Int.toNat_of_nonneg hz.1]
theorem x_ldcw {z : Int} {v : Int32} {idx : Nat} (hd : dok M.2.1 (pc, .ldc_w idx, 3, nx, tg)) (hw : Jvm.Cond.constant M.1.cls idx v ∈ tbG) (hz : v = Int32.ofInt z) (kk : RunX l G M R nx L (vi z :: st) S ca sl Q) : RunX l G M R pc L st S ca sl Q := by
  intro p e s m args below meth c H locs Z ls hc hn hks hr hi hlo hl
  obtain ⟨hd1, hd2, hd3⟩ := hd
  dsimp only at hd1 hd2 hd3
  subst hd2
  refine lv_ldcw hc.1 hc.2.1 hc.2.2.2.1 (hc.2.2.2.2 _ hw) hd1 ?_
  rw [hz]
  exact kk p e s m args below meth c H locs Z ls hc hn hks hr hi hlo hl
theorem x_lret {z : Int} (hd : dok M.2.1 (pc, .lreturn, 1, nx, tg)) (hok : rokq M.2.2.2 (some (vl z))) (hq : Q (some (vl z)) S) : RunX l G M R pc L [vl z] S 0 0 Q := x_ret (r := some (vl z)) hd hok (Nat.zero_le _) (Nat.zero_le _) hq
theorem x_popr {r : Option Nat} (hd : dok M.2.1 (pc, .pop, 1, nx, tg)) (kk : RunX l G M R nx L st S ca sl Q) : RunX l G M R pc L (.inr (.inr r) :: st) S ca sl Q := by
  intro p e s m args below meth c H locs Z ls hc hn hks hr hi hlo hl
  obtain ⟨hd1, hd2, hd3⟩ := hd
  dsimp only at hd1 hd2 hd3
  subst hd2
  exact lv_pop hc.1 hc.2.1 hd1 (by cases r <;> rfl) (kk p e s m args below meth c H locs Z ls hc hn hks hr hi hlo hl)
/-- a method of a text constant is called -/
theorem x_callVS {K : MI} {d n idx i : Nat} {As rest : List AV} {Q1 : Option AV → WS → Prop} (hd : dok M.2.1 (pc, .invokevirtual idx, 3, nx, tg)) (hlk : Cond.methodLink M.1.cls idx K.1 ∈ tbG) (hm : mvq K n) (hi9 : i < 13) (hK : K.1.cls = "java/lang/String") (hct : Ct l G K d 0 0 (vr (1010 + i) :: As) S Q1) (hR : d + 1 ≤ R.frames ∧ 8 + (K.2.2.1 + 11) + 40 * d ≤ R.locals) (hca : ca + 0 ≤ R.cells ∧ sl + 0 ≤ R.slots) (hst : st = As.reverse ++ vr (1010 + i) :: rest) (hn : As.length = n) (hcat : catq rest ≤ 8)
    (kk : ∀ (r : Option AV) (S' : WS), Q1 r S' → RunX l G M R nx L (r.toList ++ rest) S' ca sl Q) : RunX l G M R pc L st S ca sl Q := by
  intro p e s m args below meth c H locs Z ls hc hnm hks hr hi hlo hl
  obtain ⟨hd1, hd2, hd3⟩ := hd
  dsimp only at hd1 hd2 hd3
  subst hd2
  subst hst
  obtain ⟨⟨m1, m2, m3⟩, m4, m5⟩ := hm
  have hT : GoodIn tbG (wsV M.1.cls idx K.1.cls K.1 (Cwq K)) := by
    intro w hw
    rcases List.mem_append.mp hw with h | h
    · simp only [List.mem_cons, List.not_mem_nil, or_false] at h
      rcases h with rfl | rfl | rfl | rfl
      · exact good_in hlk
      · exact good_in m4
      · exact good_in m5
      · exact good_in m2
    · exact Cwq_good m1 w h
  obtain ⟨cell, q1, q2, q3, q4⟩ := (hks.2.2.2.1.1 i hi9).1
  refine x_back (rest := rest) (hrun := va_runV (As := As.map (cvl G)) hc hct (cwV (bytes := K.2.1) (maxL := K.2.2.1) (ret := K.2.2.2) n hc.2.2.2.2 hT rfl rfl rfl ⟨rfl, m3⟩ hR) (b := adr G (1010 + i)) ⟨Invq.blind, ⟨cell, x_below hi q1 q4, q2, by rw [hK]; exact q3⟩, fun U hU hW => ⟨rfl, by rw [hU]; exact hi.moved hW.alike, hks.warm hW⟩⟩ rfl (by rw [List.length_map]; exact hn) hl.1 (by show List.map (cvl G) (As.reverse ++ vr (1010 + i) :: rest) = _; rw [List.map_append, List.map_reverse]; rfl) (lv_room (by rw [catq_sum]; exact hcat)) hd1 hca) hlo ?_
  intro r S' H1 locs1 hq hI hlo1
  exact kk r S' hq p e s m args below meth c H1 locs1 Z ls hc hnm hks hr hI hlo1 hl
end XS
