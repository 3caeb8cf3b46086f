/-! pairs: go, lot, room, move, fault, weigh, unpaid, due, coin -/
variable {l : Launch} {G : GC} {σ : Nat → Int → Int}
theorem RLots.later {now now' nl ml : Int} {c2 c3 c4 c5 c6 m2 m3 m4 m5 m6 : Int → Int} (h : RLots now nl ml c2 c3 c4 c5 c6 m2 m3 m4 m5 m6) (hn : now ≤ now') : RLots now' nl ml c2 c3 c4 c5 c6 m2 m3 m4 m5 m6 := by
  obtain ⟨a, b, c, d⟩ := h
  refine ⟨a, b, c, fun i h1 h2 => ?_⟩
  obtain ⟨q1, q2, q3, q4, q5⟩ := d i h1 h2
  exact ⟨q1, q2, q3, q4, by omega⟩
theorem LineOk.later {now now' nl nl' : Int} {kd dy td tg pp qq nn : Int → Int} {i : Int} (h : LineOk now nl kd dy td tg pp qq nn i) (hn : now ≤ now') (hl : nl ≤ nl') : LineOk now' nl' kd dy td tg pp qq nn i := by
  obtain ⟨a, b, c, d⟩ := h
  exact ⟨a, by omega, fun q => by have := c q; omega, d⟩
theorem RLines.later {now now' nl nl' n mn : Int} {kd dy td tg pp qq nn mkd mdy mtd mtg mpp mqq mnn ord : Int → Int} (h : RLines now nl n mn kd dy td tg pp qq nn mkd mdy mtd mtg mpp mqq mnn ord) (hn : now ≤ now') (hl : nl ≤ nl') : RLines now' nl' n mn kd dy td tg pp qq nn mkd mdy mtd mtg mpp mqq mnn ord := by
  obtain ⟨a, b, c, d, e⟩ := h
  exact ⟨a, b, c, fun i h1 h2 => (d i h1 h2).later hn hl, e⟩
theorem RWeigh.later {nl nl' nw mw : Int} {a b c d ma mb mc md : Int → Int} (h : RWeigh nl nw mw a b c d ma mb mc md) (hl : nl ≤ nl') : RWeigh nl' nw mw a b c d ma mb mc md := by
  obtain ⟨q1, q2, q3, q4⟩ := h
  refine ⟨q1, q2, q3, fun i h1 h2 => ?_⟩
  obtain ⟨w1, w2, w3, w4⟩ := q4 i h1 h2
  exact ⟨by omega, w2, w3, w4⟩
theorem pair_go {n : Int} (hR : RR σ) (hn : rgi n) : Pair l G M_X10_go 1 M_X11_go 1 [vi n] σ := by
  have hR0 := hR
  obtain ⟨⟨e0, h0⟩, r2, r3, r4, r5⟩ := hR
  refine ⟨_, c_X10_go hn h0, fun z τ h => ?_⟩
  obtain ⟨rfl, rfl⟩ := h
  refine ⟨by omega, ?_⟩
  by_cases a : (0 ≤ n ∧ n ≤ 999) ∧ σ 0 0 + n ≤ 2000
  · rw [if_pos a]
    refine CI_mono (c_X11_go hn (show 0 ≤ σ 114 0 ∧ σ 114 0 ≤ 2000 by omega)) (fun z τ h => ?_)
    have h : z = (if ¬ (0 ≤ n ∧ n ≤ 999) then -1002 else if 2000 < σ 114 0 + n then -1003 else σ 114 0 + n) ∧ τ = if (0 ≤ n ∧ n ≤ 999) ∧ σ 114 0 + n ≤ 2000 then upq (upq σ 0 0 (σ 0 0 + n)) 114 0 (σ 114 0 + n) else upq σ 0 0 (σ 0 0 + n) := h
    rw [e0, if_pos a] at h
    obtain ⟨rfl, rfl⟩ := h
    refine ⟨rfl, ⟨rfl, show 0 ≤ σ 0 0 + n ∧ σ 0 0 + n ≤ 2000 by omega⟩, ?_, r3, ?_, r5⟩
    · exact r2.later (now' := σ 0 0 + n) (by omega)
    · exact r4.later (now' := σ 0 0 + n) (by omega) (Int.le_refl _)
  · rw [if_neg a]
    refine CI_mono (c_X11_go hn (by omega)) (fun z τ h => ?_)
    rw [e0, if_neg a] at h
    obtain ⟨rfl, rfl⟩ := h
    exact ⟨rfl, hR0⟩
theorem pair_room {f v : Int} (hR : RR σ) (hf : rgi f) (hv : rgi v) : Pair l G M_X10_room 2 M_X11_room 2 [vi f, vi v] σ := by
  have hR0 := hR
  obtain ⟨r1, r2, ⟨e0, h0⟩, r4⟩ := hR
  refine ⟨_, c_X10_room hf hv, fun z τ h => ?_⟩
  obtain ⟨rfl, rfl⟩ := h
  refine ⟨by
    by_cases a : 0 ≤ f ∧ f ≤ 5
    · have := h0 f (by omega) (by omega); omega
    · omega, ?_⟩
  by_cases a : (0 ≤ f ∧ f ≤ 5) ∧ 0 ≤ v ∧ v ≤ 999
  · rw [if_pos a]
    refine CI_mono (c_X11_room hf hv) (fun z τ h => ?_)
    rw [if_pos a] at h
    have h : z = (if ¬ (0 ≤ f ∧ f ≤ 5) then -1001 else if ¬ (0 ≤ v ∧ v ≤ 999) then -1002 else σ 121 f) ∧ τ = upq (upq σ 105 f v) 121 f v := h
    rw [e0] at h
    obtain ⟨rfl, rfl⟩ := h
    refine ⟨rfl, r1, r2, ⟨?_, fun g h1 h2 => ?_⟩, r4⟩
    · show (fun b => if b = f then v else σ 121 b) = fun b => if b = f then v else σ 105 b
      rw [e0]
    · show 0 ≤ (if g = f then v else σ 105 g) ∧ (if g = f then v else σ 105 g) ≤ 999
      have := h0 g h1 h2
      split <;> omega
  · rw [if_neg a]
    refine CI_mono (c_X11_room hf hv) (fun z τ h => ?_)
    rw [e0, if_neg a] at h
    obtain ⟨rfl, rfl⟩ := h
    exact ⟨rfl, hR0⟩
theorem pair_coin {h v : Int} (hR : RR σ) (hh : rgi h) (hv : rgi v) : Pair l G M_X10_coin 2 M_X11_coin 2 [vi h, vi v] σ := by
  have hR0 := hR
  obtain ⟨r1, r2, r3, r4, r5, r6, r7, r8, r9, ⟨d1, d2, ⟨d3, d4, d5, e0⟩, d6, h0⟩, r11⟩ := hR
  refine ⟨_, c_X10_coin hh hv, fun z τ q => ?_⟩
  obtain ⟨rfl, rfl⟩ := q
  refine ⟨by
    by_cases a : 0 ≤ h ∧ h ≤ 7
    · have := h0 h (by omega) (by omega); omega
    · omega, ?_⟩
  by_cases a : (0 ≤ h ∧ h ≤ 7) ∧ 0 ≤ v ∧ v ≤ 9999
  · rw [if_pos a]
    refine CI_mono (c_X11_coin hh hv) (fun z τ q => ?_)
    rw [if_pos a] at q
    have q : z = (if ¬ (0 ≤ h ∧ h ≤ 7) then -1001 else if ¬ (0 ≤ v ∧ v ≤ 9999) then -1002 else σ 167 h) ∧ τ = upq (upq σ 101 h v) 167 h v := q
    rw [e0] at q
    obtain ⟨rfl, rfl⟩ := q
    refine ⟨rfl, r1, r2, r3, r4, r5, r6, r7, r8, r9, ⟨d1, d2, ⟨d3, d4, d5, ?_⟩, d6, fun g h1 h2 => ?_⟩, r11⟩
    · show (fun b => if b = h then v else σ 167 b) = fun b => if b = h then v else σ 101 b
      rw [e0]
    · show 0 ≤ (if g = h then v else σ 101 g) ∧ (if g = h then v else σ 101 g) ≤ 9999
      have := h0 g h1 h2
      split <;> omega
  · rw [if_neg a]
    refine CI_mono (c_X11_coin hh hv) (fun z τ q => ?_)
    rw [e0, if_neg a] at q
    obtain ⟨rfl, rfl⟩ := q
    exact ⟨rfl, hR0⟩
theorem pair_fault (hR : RR σ) : Pair l G M_X10_fault 0 M_X11_fault 0 [] σ := by
  have hR0 := hR
  obtain ⟨r1, r2, r3, r4, r5, ⟨t1, t2, t3, t4, e0, h0⟩, r7⟩ := hR
  refine ⟨_, c_X10_fault, fun z τ q => ?_⟩
  rw [if_pos trivial] at q
  obtain ⟨rfl, rfl⟩ := q
  refine ⟨by omega, CI_mono c_X11_fault (fun z τ q => ?_)⟩
  rw [if_pos trivial, e0] at q
  obtain ⟨rfl, rfl⟩ := q
  exact ⟨rfl, hR0⟩
theorem pair_move {i f : Int} (hR : RR σ) (hi : rgi i) (hf : rgi f) : Pair l G M_X10_move 2 M_X11_move 2 [vi i, vi f] σ := by
  have hR0 := hR
  obtain ⟨r1, ⟨e1, h1, ⟨m2, m3, m4, e5, m6⟩, ok⟩, r3⟩ := hR
  have hfl : ∀ i, 0 ≤ i → i < σ 1 5 → 0 ≤ σ 5 i ∧ σ 5 i ≤ 5 := fun i a b => (ok i a b).2.2.2.1
  refine ⟨_, c_X10_move hi hf h1 hfl, fun z τ q => ?_⟩
  obtain ⟨rfl, rfl⟩ := q
  refine ⟨by
    by_cases a : 0 ≤ i ∧ i < σ 1 5
    · have := hfl i (by omega) (by omega); omega
    · omega, ?_⟩
  by_cases a : ((0 ≤ i ∧ i < σ 1 5) ∧ 0 ≤ f ∧ f ≤ 5) ∧ σ 5 i ≠ f
  · rw [if_pos a]
    refine CI_mono (c_X11_move hi hf (show 0 ≤ σ 114 1 ∧ σ 114 1 ≤ 12 by omega) (show ∀ i, 0 ≤ i → i < σ 114 1 → 0 ≤ σ 119 i ∧ σ 119 i ≤ 5 by rw [e1, e5]; exact hfl)) (fun z τ q => ?_)
    have q : z = (if ¬ ((0 ≤ i ∧ i < σ 114 1) ∧ 0 ≤ f ∧ f ≤ 5) then -1001 else if σ 119 i = f then -1003 else σ 119 i) ∧ τ = if ((0 ≤ i ∧ i < σ 114 1) ∧ 0 ≤ f ∧ f ≤ 5) ∧ σ 119 i ≠ f then upq (upq σ 5 i f) 119 i f else upq σ 5 i f := q
    rw [e1, e5, if_pos a] at q
    obtain ⟨rfl, rfl⟩ := q
    refine ⟨rfl, r1, ⟨e1, h1, ⟨m2, m3, m4, ?_, m6⟩, fun g h2 h3 => ?_⟩, r3⟩
    · show (fun b => if b = i then f else σ 119 b) = fun b => if b = i then f else σ 5 b
      rw [e5]
    · obtain ⟨w1, w2, w3, w4, w5⟩ := ok g h2 h3
      refine ⟨w1, w2, w3, ?_, w5⟩
      show 0 ≤ (if g = i then f else σ 5 g) ∧ (if g = i then f else σ 5 g) ≤ 5
      split <;> omega
  · rw [if_neg a]
    refine CI_mono (c_X11_move hi hf (by omega) (by rw [e1, e5]; exact hfl)) (fun z τ q => ?_)
    rw [e1, e5, if_neg a] at q
    obtain ⟨rfl, rfl⟩ := q
    exact ⟨rfl, hR0⟩
theorem fn_up {a b : Int → Int} {i j v : Int} (h : a = b) (hi : i = j) : (fun k => if k = i then v else a k) = fun k => if k = j then v else b k := by rw [h, hi]
theorem pair_lot {so n w h f : Int} (hR : RR σ) (hso : rgi so) (hn : rgi n) (hw : rgi w) (hh : rgi h) (hf : rgi f) : Pair l G M_X10_lot 2 M_X11_lot 2 [vi so, vi n, vi w, vi h, vi f] σ := by
  have hR0 := hR
  obtain ⟨⟨e0, h0⟩, ⟨e1, h1, ⟨m2, m3, m4, m5, m6⟩, ok⟩, r3, r4, r5, r6, r7, r8⟩ := hR
  refine ⟨_, c_X10_lot hso hn hw hh hf h1, fun z τ q => ?_⟩
  obtain ⟨rfl, rfl⟩ := q
  refine ⟨by omega, ?_⟩
  by_cases a : ((0 ≤ h ∧ h ≤ 7) ∧ 0 ≤ f ∧ f ≤ 5) ∧ ((0 ≤ so ∧ so ≤ 3) ∧ (1 ≤ n ∧ n ≤ 200) ∧ 1 ≤ w ∧ w ≤ 999) ∧ σ 1 5 < 12
  · rw [if_pos a]
    refine CI_mono (c_X11_lot hso hn hw hh hf (show 0 ≤ σ 114 1 ∧ σ 114 1 ≤ 12 by omega)) (fun z τ q => ?_)
    have q1 : z = (if ¬ ((0 ≤ h ∧ h ≤ 7) ∧ 0 ≤ f ∧ f ≤ 5) then -1001 else if ¬ ((0 ≤ so ∧ so ≤ 3) ∧ (1 ≤ n ∧ n ≤ 200) ∧ 1 ≤ w ∧ w ≤ 999) then -1002 else if 12 ≤ σ 114 1 then -1004 else σ 114 1) := q.1
    have q2 := q.2.trans (if_pos (show ((0 ≤ h ∧ h ≤ 7) ∧ 0 ≤ f ∧ f ≤ 5) ∧ ((0 ≤ so ∧ so ≤ 3) ∧ (1 ≤ n ∧ n ≤ 200) ∧ 1 ≤ w ∧ w ≤ 999) ∧ σ 114 1 < 12 by rw [e1]; exact a))
    rw [e1] at q1
    subst q1 q2
    refine ⟨rfl, ⟨e0, h0⟩, ⟨?_, show 0 ≤ σ 1 5 + 1 ∧ σ 1 5 + 1 ≤ 12 by omega, ⟨fn_up m2 e1, fn_up m3 e1, fn_up m4 e1, fn_up m5 e1, ?_⟩, fun i h2 h3 => ?_⟩, r3, r4.later (Int.le_refl _) (show σ 1 5 ≤ σ 1 5 + 1 by omega), r5, r6, r7.later (show σ 1 5 ≤ σ 1 5 + 1 by omega), r8⟩
    · show σ 114 1 + 1 = σ 1 5 + 1
      rw [e1]
    · show (fun b => if b = σ 114 1 then σ 114 0 else σ 120 b) = fun b => if b = σ 1 5 then σ 0 0 else σ 6 b
      rw [e1, e0, m6]
    · have h3 : i < σ 1 5 + 1 := h3
      show ((0 ≤ (if i = σ 1 5 then so else σ 2 i) ∧ (if i = σ 1 5 then so else σ 2 i) ≤ 3) ∧ (1 ≤ (if i = σ 1 5 then n else σ 3 i) ∧ (if i = σ 1 5 then n else σ 3 i) ≤ 200) ∧ (1 ≤ (if i = σ 1 5 then w else σ 4 i) ∧ (if i = σ 1 5 then w else σ 4 i) ≤ 999) ∧ (0 ≤ (if i = σ 1 5 then f else σ 5 i) ∧ (if i = σ 1 5 then f else σ 5 i) ≤ 5) ∧ (0 ≤ (if i = σ 1 5 then σ 0 0 else σ 6 i) ∧ (if i = σ 1 5 then σ 0 0 else σ 6 i) ≤ σ 0 0))
      by_cases e : i = σ 1 5
      · simp only [if_pos e]; omega
      · simp only [if_neg e]
        exact ok i h2 (by omega)
  · rw [if_neg a]
    refine CI_mono (c_X11_lot hso hn hw hh hf (by omega)) (fun z τ q => ?_)
    rw [e1, if_neg a] at q
    obtain ⟨rfl, rfl⟩ := q
    exact ⟨rfl, hR0⟩
theorem pair_weigh {i n w : Int} (hR : RR σ) (hi : rgi i) (hn : rgi n) (hw : rgi w) : Pair l G M_X10_weigh 1 M_X11_weigh 2 [vi i, vi n, vi w] σ := by
  have hR0 := hR
  obtain ⟨⟨e0, h0⟩, r2, r3, r4, r5, r6, ⟨e7, h7, ⟨m1, m2, m3, m4⟩, ok⟩, r8⟩ := hR
  have r2' := r2
  obtain ⟨e1, h1, -⟩ := r2
  refine ⟨_, c_X10_weigh hi hn hw h1 h7, fun z τ q => ?_⟩
  obtain ⟨rfl, rfl⟩ := q
  refine ⟨by omega, ?_⟩
  by_cases a : (0 ≤ i ∧ i < σ 1 5) ∧ ((1 ≤ n ∧ n ≤ 200) ∧ 0 ≤ w ∧ w ≤ 199999) ∧ σ 74 4 < 40
  · rw [if_pos a]
    refine CI_mono (c_X11_weigh hi hn hw (show 0 ≤ σ 114 1 ∧ σ 114 1 ≤ 12 by omega) (show 0 ≤ σ 114 54 ∧ σ 114 54 ≤ 40 by omega)) (fun z τ q => ?_)
    have q1 : z = (if ¬ (0 ≤ i ∧ i < σ 114 1) then -1001 else if ¬ ((1 ≤ n ∧ n ≤ 200) ∧ 0 ≤ w ∧ w ≤ 199999) then -1002 else if 40 ≤ σ 114 54 then -1004 else σ 114 54 + 1) := q.1
    have q2 := q.2.trans (if_pos (show (0 ≤ i ∧ i < σ 114 1) ∧ ((1 ≤ n ∧ n ≤ 200) ∧ 0 ≤ w ∧ w ≤ 199999) ∧ σ 114 54 < 40 by rw [e1, e7]; exact a))
    rw [e1, e7] at q1
    subst q1 q2
    refine ⟨rfl, ⟨e0, h0⟩, r2', r3, r4, r5, r6, ⟨?_, show 0 ≤ σ 74 4 + 1 ∧ σ 74 4 + 1 ≤ 40 by omega, ⟨fn_up m1 e7, fn_up m2 e7, fn_up m3 e7, ?_⟩, fun j h2 h3 => ?_⟩, r8⟩
    · show σ 114 54 + 1 = σ 74 4 + 1
      rw [e7]
    · show (fun b => if b = σ 114 54 then σ 114 0 else σ 158 b) = fun b => if b = σ 74 4 then σ 0 0 else σ 78 b
      rw [e7, e0, m4]
    · have h3 : j < σ 74 4 + 1 := h3
      show (0 ≤ (if j = σ 74 4 then i else σ 75 j) ∧ (if j = σ 74 4 then i else σ 75 j) < σ 1 5) ∧ (1 ≤ (if j = σ 74 4 then n else σ 76 j) ∧ (if j = σ 74 4 then n else σ 76 j) ≤ 200) ∧ (0 ≤ (if j = σ 74 4 then w else σ 77 j) ∧ (if j = σ 74 4 then w else σ 77 j) ≤ 199999) ∧ (0 ≤ (if j = σ 74 4 then σ 0 0 else σ 78 j) ∧ (if j = σ 74 4 then σ 0 0 else σ 78 j) ≤ 2000)
      by_cases e : j = σ 74 4
      · simp only [if_pos e]; omega
      · simp only [if_neg e]
        exact ok j h2 (by omega)
  · rw [if_neg a]
    refine CI_mono (c_X11_weigh hi hn hw (by omega) (by omega)) (fun z τ q => ?_)
    rw [e1, e7, if_neg a] at q
    obtain ⟨rfl, rfl⟩ := q
    exact ⟨rfl, hR0⟩
theorem pair_due {a b v : Int} (hR : RR σ) (ha : rgi a) (hb : rgi b) (hv : rgi v) : Pair l G M_X10_due 2 M_X11_due 2 [vi a, vi b, vi v] σ := by
  have hR0 := hR
  obtain ⟨r1, r2, r3, r4, r5, r6, r7, r8, r9, ⟨e1, h1, ⟨m1, m2, m3, m4⟩, ok, hc⟩, r11⟩ := hR
  refine ⟨_, c_X10_due ha hb hv h1, fun z τ q => ?_⟩
  obtain ⟨rfl, rfl⟩ := q
  refine ⟨by omega, ?_⟩
  by_cases c : ((0 ≤ a ∧ a ≤ 7) ∧ 0 ≤ b ∧ b ≤ 7) ∧ (a ≠ b ∧ 1 ≤ v ∧ v ≤ 9999) ∧ σ 96 4 < 24
  · rw [if_pos c]
    refine CI_mono (c_X11_due ha hb hv (show 0 ≤ σ 114 63 ∧ σ 114 63 ≤ 24 by omega)) (fun z τ q => ?_)
    have q1 : z = (if ¬ ((0 ≤ a ∧ a ≤ 7) ∧ 0 ≤ b ∧ b ≤ 7) then -1001 else if ¬ (a ≠ b ∧ 1 ≤ v ∧ v ≤ 9999) then -1002 else if 24 ≤ σ 114 63 then -1004 else σ 114 63 + 1) := q.1
    have q2 := q.2.trans (if_pos (show ((0 ≤ a ∧ a ≤ 7) ∧ 0 ≤ b ∧ b ≤ 7) ∧ (a ≠ b ∧ 1 ≤ v ∧ v ≤ 9999) ∧ σ 114 63 < 24 by rw [e1]; exact c))
    rw [e1] at q1
    subst q1 q2
    refine ⟨rfl, r1, r2, r3, r4, r5, r6, r7, r8, r9, ⟨?_, show 0 ≤ σ 96 4 + 1 ∧ σ 96 4 + 1 ≤ 24 by omega, ⟨fn_up m1 e1, fn_up m2 e1, fn_up m3 e1, m4⟩, fun j h2 h3 => ?_, hc⟩, r11⟩
    · show σ 114 63 + 1 = σ 96 4 + 1
      rw [e1]
    · have h3 : j < σ 96 4 + 1 := h3
      show (0 ≤ (if j = σ 96 4 then a else σ 97 j) ∧ (if j = σ 96 4 then a else σ 97 j) ≤ 7) ∧ (0 ≤ (if j = σ 96 4 then b else σ 98 j) ∧ (if j = σ 96 4 then b else σ 98 j) ≤ 7) ∧ (1 ≤ (if j = σ 96 4 then v else σ 99 j) ∧ (if j = σ 96 4 then v else σ 99 j) ≤ 9999)
      by_cases e : j = σ 96 4
      · simp only [if_pos e]; omega
      · simp only [if_neg e]
        exact ok j h2 (by omega)
  · rw [if_neg c]
    refine CI_mono (c_X11_due ha hb hv (by omega)) (fun z τ q => ?_)
    rw [e1, if_neg c] at q
    obtain ⟨rfl, rfl⟩ := q
    exact ⟨rfl, hR0⟩
theorem upaq_up {h i v h' i' : Int} (h0 : 0 ≤ h ∧ h < 8) (h1 : 0 ≤ h' ∧ h' < 8) : upaq (upq σ (80 + h.toNat) i v) h' i' = if h' = h ∧ i' = i then v else upaq σ h' i' := by
  rw [← upaq_at (σ := upq σ (80 + h.toNat) i v) h1, ← upaq_at (σ := σ) h1]
  by_cases eh : h' = h
  · subst eh
    rw [upq_eq]
    by_cases ei : i' = i
    · rw [if_pos ei, if_pos ⟨rfl, ei⟩]
    · rw [if_neg ei, if_neg (fun q => ei q.2)]
  · rw [upq_ne (by omega), if_neg (fun q => eh q.1)]
theorem pair_unpaid {h i v : Int} (hR : RR σ) (hh : rgi h) (hi : rgi i) (hv : rgi v) : Pair l G M_X10_unpaid 2 M_X11_unpaid 2 [vi h, vi i, vi v] σ := by
  have hR0 := hR
  obtain ⟨r1, r2, r3, r4, r5, r6, r7, r8, r9⟩ := hR
  have r2' := r2
  obtain ⟨e1, h1, -⟩ := r2
  have hu : (0 ≤ h ∧ h ≤ 7) ∧ 0 ≤ i ∧ i < σ 1 5 → σ 159 (8 * i + h) = σ (80 + h.toNat) i ∧ 0 ≤ σ (80 + h.toNat) i ∧ σ (80 + h.toNat) i ≤ 9999 := fun a => by
    rw [upaq_at (σ := σ) (t := h) (by omega)]
    exact r8 h i (by omega) (by omega) (by omega) (by omega)
  refine ⟨_, c_X10_unpaid hh hi hv h1, fun z τ q => ?_⟩
  obtain ⟨rfl, rfl⟩ := q
  refine ⟨by
    by_cases a : (0 ≤ h ∧ h ≤ 7) ∧ 0 ≤ i ∧ i < σ 1 5
    · have := hu a
      omega
    · omega, ?_⟩
  by_cases a : ((0 ≤ h ∧ h ≤ 7) ∧ 0 ≤ i ∧ i < σ 1 5) ∧ 0 ≤ v ∧ v ≤ 9999
  · rw [if_pos a]
    have hua := hu a.1
    have hnew : ∀ h' i' : Int, 0 ≤ h' → h' < 8 → 0 ≤ i' → i' < 12 → (if 8 * i' + h' = 8 * i + h then v else σ 159 (8 * i' + h')) = (if h' = h ∧ i' = i then v else upaq σ h' i') ∧ 0 ≤ (if h' = h ∧ i' = i then v else upaq σ h' i') ∧ (if h' = h ∧ i' = i then v else upaq σ h' i') ≤ 9999 := by
      intro h' i' a1 a2 a3 a4
      have o := r8 h' i' a1 a2 a3 a4
      by_cases eh : h' = h ∧ i' = i
      · rw [if_pos eh, if_pos (by omega)]; omega
      · rw [if_neg eh, if_neg (by omega)]; exact o
    have h8 := eight (t := h) (by omega)
    rcases h8 with rfl | rfl | rfl | rfl | rfl | rfl | rfl | rfl
    · refine CI_mono (c_X11_unpaid hh hi hv (show 0 ≤ σ 114 1 ∧ σ 114 1 ≤ 12 by omega)) (fun z τ q => ?_)
      have q1 : z = (if ¬ ((0 ≤ (0 : Int) ∧ (0 : Int) ≤ 7) ∧ 0 ≤ i ∧ i < σ 114 1) then -1001 else if ¬ (0 ≤ v ∧ v ≤ 9999) then -1002 else σ 159 (8 * i + 0)) := q.1
      have q2 := q.2.trans (if_pos (show ((0 ≤ (0 : Int) ∧ (0 : Int) ≤ 7) ∧ 0 ≤ i ∧ i < σ 114 1) ∧ 0 ≤ v ∧ v ≤ 9999 by rw [e1]; exact a))
      rw [e1, hua.1] at q1
      subst q1 q2
      refine ⟨rfl, r1, r2', r3, r4, r5, r6, r7, fun h' i' a1 a2 a3 a4 => ?_, r9⟩
      have o := hnew h' i' a1 a2 a3 a4
      have e3 : upaq (upq (upq σ (80 + (0 : Int).toNat) i v) 159 (8 * i + 0) v) h' i' = if h' = 0 ∧ i' = i then v else upaq σ h' i' := upaq_up (h := 0) (by decide) ⟨a1, a2⟩
      rw [e3]
      exact o
    · refine CI_mono (c_X11_unpaid hh hi hv (show 0 ≤ σ 114 1 ∧ σ 114 1 ≤ 12 by omega)) (fun z τ q => ?_)
      have q1 : z = (if ¬ ((0 ≤ (1 : Int) ∧ (1 : Int) ≤ 7) ∧ 0 ≤ i ∧ i < σ 114 1) then -1001 else if ¬ (0 ≤ v ∧ v ≤ 9999) then -1002 else σ 159 (8 * i + 1)) := q.1
      have q2 := q.2.trans (if_pos (show ((0 ≤ (1 : Int) ∧ (1 : Int) ≤ 7) ∧ 0 ≤ i ∧ i < σ 114 1) ∧ 0 ≤ v ∧ v ≤ 9999 by rw [e1]; exact a))
      rw [e1, hua.1] at q1
      subst q1 q2
      refine ⟨rfl, r1, r2', r3, r4, r5, r6, r7, fun h' i' a1 a2 a3 a4 => ?_, r9⟩
      have o := hnew h' i' a1 a2 a3 a4
      have e3 : upaq (upq (upq σ (80 + (1 : Int).toNat) i v) 159 (8 * i + 1) v) h' i' = if h' = 1 ∧ i' = i then v else upaq σ h' i' := upaq_up (h := 1) (by decide) ⟨a1, a2⟩
      rw [e3]
      exact o
    · refine CI_mono (c_X11_unpaid hh hi hv (show 0 ≤ σ 114 1 ∧ σ 114 1 ≤ 12 by omega)) (fun z τ q => ?_)
      have q1 : z = (if ¬ ((0 ≤ (2 : Int) ∧ (2 : Int) ≤ 7) ∧ 0 ≤ i ∧ i < σ 114 1) then -1001 else if ¬ (0 ≤ v ∧ v ≤ 9999) then -1002 else σ 159 (8 * i + 2)) := q.1
      have q2 := q.2.trans (if_pos (show ((0 ≤ (2 : Int) ∧ (2 : Int) ≤ 7) ∧ 0 ≤ i ∧ i < σ 114 1) ∧ 0 ≤ v ∧ v ≤ 9999 by rw [e1]; exact a))
      rw [e1, hua.1] at q1
      subst q1 q2
      refine ⟨rfl, r1, r2', r3, r4, r5, r6, r7, fun h' i' a1 a2 a3 a4 => ?_, r9⟩
      have o := hnew h' i' a1 a2 a3 a4
      have e3 : upaq (upq (upq σ (80 + (2 : Int).toNat) i v) 159 (8 * i + 2) v) h' i' = if h' = 2 ∧ i' = i then v else upaq σ h' i' := upaq_up (h := 2) (by decide) ⟨a1, a2⟩
      rw [e3]
      exact o
    · refine CI_mono (c_X11_unpaid hh hi hv (show 0 ≤ σ 114 1 ∧ σ 114 1 ≤ 12 by omega)) (fun z τ q => ?_)
      have q1 : z = (if ¬ ((0 ≤ (3 : Int) ∧ (3 : Int) ≤ 7) ∧ 0 ≤ i ∧ i < σ 114 1) then -1001 else if ¬ (0 ≤ v ∧ v ≤ 9999) then -1002 else σ 159 (8 * i + 3)) := q.1
      have q2 := q.2.trans (if_pos (show ((0 ≤ (3 : Int) ∧ (3 : Int) ≤ 7) ∧ 0 ≤ i ∧ i < σ 114 1) ∧ 0 ≤ v ∧ v ≤ 9999 by rw [e1]; exact a))
      rw [e1, hua.1] at q1
      subst q1 q2
      refine ⟨rfl, r1, r2', r3, r4, r5, r6, r7, fun h' i' a1 a2 a3 a4 => ?_, r9⟩
      have o := hnew h' i' a1 a2 a3 a4
      have e3 : upaq (upq (upq σ (80 + (3 : Int).toNat) i v) 159 (8 * i + 3) v) h' i' = if h' = 3 ∧ i' = i then v else upaq σ h' i' := upaq_up (h := 3) (by decide) ⟨a1, a2⟩
      rw [e3]
      exact o
    · refine CI_mono (c_X11_unpaid hh hi hv (show 0 ≤ σ 114 1 ∧ σ 114 1 ≤ 12 by omega)) (fun z τ q => ?_)
      have q1 : z = (if ¬ ((0 ≤ (4 : Int) ∧ (4 : Int) ≤ 7) ∧ 0 ≤ i ∧ i < σ 114 1) then -1001 else if ¬ (0 ≤ v ∧ v ≤ 9999) then -1002 else σ 159 (8 * i + 4)) := q.1
      have q2 := q.2.trans (if_pos (show ((0 ≤ (4 : Int) ∧ (4 : Int) ≤ 7) ∧ 0 ≤ i ∧ i < σ 114 1) ∧ 0 ≤ v ∧ v ≤ 9999 by rw [e1]; exact a))
      rw [e1, hua.1] at q1
      subst q1 q2
      refine ⟨rfl, r1, r2', r3, r4, r5, r6, r7, fun h' i' a1 a2 a3 a4 => ?_, r9⟩
      have o := hnew h' i' a1 a2 a3 a4
      have e3 : upaq (upq (upq σ (80 + (4 : Int).toNat) i v) 159 (8 * i + 4) v) h' i' = if h' = 4 ∧ i' = i then v else upaq σ h' i' := upaq_up (h := 4) (by decide) ⟨a1, a2⟩
      rw [e3]
      exact o
    · refine CI_mono (c_X11_unpaid hh hi hv (show 0 ≤ σ 114 1 ∧ σ 114 1 ≤ 12 by omega)) (fun z τ q => ?_)
      have q1 : z = (if ¬ ((0 ≤ (5 : Int) ∧ (5 : Int) ≤ 7) ∧ 0 ≤ i ∧ i < σ 114 1) then -1001 else if ¬ (0 ≤ v ∧ v ≤ 9999) then -1002 else σ 159 (8 * i + 5)) := q.1
      have q2 := q.2.trans (if_pos (show ((0 ≤ (5 : Int) ∧ (5 : Int) ≤ 7) ∧ 0 ≤ i ∧ i < σ 114 1) ∧ 0 ≤ v ∧ v ≤ 9999 by rw [e1]; exact a))
      rw [e1, hua.1] at q1
      subst q1 q2
      refine ⟨rfl, r1, r2', r3, r4, r5, r6, r7, fun h' i' a1 a2 a3 a4 => ?_, r9⟩
      have o := hnew h' i' a1 a2 a3 a4
      have e3 : upaq (upq (upq σ (80 + (5 : Int).toNat) i v) 159 (8 * i + 5) v) h' i' = if h' = 5 ∧ i' = i then v else upaq σ h' i' := upaq_up (h := 5) (by decide) ⟨a1, a2⟩
      rw [e3]
      exact o
    · refine CI_mono (c_X11_unpaid hh hi hv (show 0 ≤ σ 114 1 ∧ σ 114 1 ≤ 12 by omega)) (fun z τ q => ?_)
      have q1 : z = (if ¬ ((0 ≤ (6 : Int) ∧ (6 : Int) ≤ 7) ∧ 0 ≤ i ∧ i < σ 114 1) then -1001 else if ¬ (0 ≤ v ∧ v ≤ 9999) then -1002 else σ 159 (8 * i + 6)) := q.1
      have q2 := q.2.trans (if_pos (show ((0 ≤ (6 : Int) ∧ (6 : Int) ≤ 7) ∧ 0 ≤ i ∧ i < σ 114 1) ∧ 0 ≤ v ∧ v ≤ 9999 by rw [e1]; exact a))
      rw [e1, hua.1] at q1
      subst q1 q2
      refine ⟨rfl, r1, r2', r3, r4, r5, r6, r7, fun h' i' a1 a2 a3 a4 => ?_, r9⟩
      have o := hnew h' i' a1 a2 a3 a4
      have e3 : upaq (upq (upq σ (80 + (6 : Int).toNat) i v) 159 (8 * i + 6) v) h' i' = if h' = 6 ∧ i' = i then v else upaq σ h' i' := upaq_up (h := 6) (by decide) ⟨a1, a2⟩
      rw [e3]
      exact o
    · refine CI_mono (c_X11_unpaid hh hi hv (show 0 ≤ σ 114 1 ∧ σ 114 1 ≤ 12 by omega)) (fun z τ q => ?_)
      have q1 : z = (if ¬ ((0 ≤ (7 : Int) ∧ (7 : Int) ≤ 7) ∧ 0 ≤ i ∧ i < σ 114 1) then -1001 else if ¬ (0 ≤ v ∧ v ≤ 9999) then -1002 else σ 159 (8 * i + 7)) := q.1
      have q2 := q.2.trans (if_pos (show ((0 ≤ (7 : Int) ∧ (7 : Int) ≤ 7) ∧ 0 ≤ i ∧ i < σ 114 1) ∧ 0 ≤ v ∧ v ≤ 9999 by rw [e1]; exact a))
      rw [e1, hua.1] at q1
      subst q1 q2
      refine ⟨rfl, r1, r2', r3, r4, r5, r6, r7, fun h' i' a1 a2 a3 a4 => ?_, r9⟩
      have o := hnew h' i' a1 a2 a3 a4
      have e3 : upaq (upq (upq σ (80 + (7 : Int).toNat) i v) 159 (8 * i + 7) v) h' i' = if h' = 7 ∧ i' = i then v else upaq σ h' i' := upaq_up (h := 7) (by decide) ⟨a1, a2⟩
      rw [e3]
      exact o
  · rw [if_neg a]
    refine CI_mono (c_X11_unpaid hh hi hv (by omega)) (fun z τ q => ?_)
    rw [e1, if_neg a] at q
    obtain ⟨rfl, q2⟩ := q
    refine ⟨?_, q2 ▸ hR0⟩
    by_cases b : (0 ≤ h ∧ h ≤ 7) ∧ 0 ≤ i ∧ i < σ 1 5
    · rw [(hu b).1]
    · rw [if_pos b, if_pos b]
