/-! the pair of line -/
variable {l : Launch} {G : GC} {σ : Nat → Int → Int}

set_option maxRecDepth 100000 in
theorem RR_lines {σ τ : Nat → Int → Int} (hR : RR σ) (hF : Fr [7, 8, 9, 10, 11, 12, 13, 14, 15, 114, 122, 123, 124, 125, 126, 127, 128] σ τ) (h7 : Fo 7 [9] σ τ) (h114 : Fo 114 [9] σ τ) (n3 : RLines (σ 0 0) (σ 1 5) (τ 7 9) (τ 114 9) (τ 8) (τ 9) (τ 10) (τ 11) (τ 12) (τ 13) (τ 14) (τ 122) (τ 123) (τ 124) (τ 125) (τ 126) (τ 127) (τ 128) (τ 15)) : RR τ := by
  obtain ⟨r0, r1, r2, -, r4, r5, r6, r7, r8, r9, r10, r11⟩ := hR
  have hS : RR (upq (upq (setc (setc (setc (setc (setc (setc (setc (setc (setc (setc (setc (setc (setc (setc (setc σ 8 (τ 8)) 9 (τ 9)) 10 (τ 10)) 11 (τ 11)) 12 (τ 12)) 13 (τ 13)) 14 (τ 14)) 15 (τ 15)) 122 (τ 122)) 123 (τ 123)) 124 (τ 124)) 125 (τ 125)) 126 (τ 126)) 127 (τ 127)) 128 (τ 128)) 7 9 (τ 7 9)) 114 9 (τ 114 9)) := ⟨r0, r1, r2, n3, r4, r5, r6, r7, r8, r9, r10, r11⟩
  exact RR_of hS (List.forall_mem_cons.mpr ⟨hF 2 (by decide), List.forall_mem_cons.mpr ⟨hF 3 (by decide), List.forall_mem_cons.mpr ⟨hF 4 (by decide), List.forall_mem_cons.mpr ⟨hF 5 (by decide), List.forall_mem_cons.mpr ⟨hF 6 (by decide), List.forall_mem_cons.mpr ⟨hF 115 (by decide), List.forall_mem_cons.mpr ⟨hF 116 (by decide), List.forall_mem_cons.mpr ⟨hF 117 (by decide), List.forall_mem_cons.mpr ⟨hF 119 (by decide), List.forall_mem_cons.mpr ⟨hF 120 (by decide), List.forall_mem_cons.mpr ⟨hF 105 (by decide), List.forall_mem_cons.mpr ⟨hF 121 (by decide), List.forall_mem_cons.mpr ⟨rfl, List.forall_mem_cons.mpr ⟨rfl, List.forall_mem_cons.mpr ⟨rfl, List.forall_mem_cons.mpr ⟨rfl, List.forall_mem_cons.mpr ⟨rfl, List.forall_mem_cons.mpr ⟨rfl, List.forall_mem_cons.mpr ⟨rfl, List.forall_mem_cons.mpr ⟨rfl, List.forall_mem_cons.mpr ⟨rfl, List.forall_mem_cons.mpr ⟨rfl, List.forall_mem_cons.mpr ⟨rfl, List.forall_mem_cons.mpr ⟨rfl, List.forall_mem_cons.mpr ⟨rfl, List.forall_mem_cons.mpr ⟨rfl, List.forall_mem_cons.mpr ⟨rfl, List.forall_mem_cons.mpr ⟨hF 18 (by decide), List.forall_mem_cons.mpr ⟨hF 19 (by decide), List.forall_mem_cons.mpr ⟨hF 133 (by decide), List.forall_mem_cons.mpr ⟨hF 134 (by decide), List.forall_mem_cons.mpr ⟨hF 21 (by decide), List.forall_mem_cons.mpr ⟨hF 22 (by decide), List.forall_mem_cons.mpr ⟨hF 23 (by decide), List.forall_mem_cons.mpr ⟨hF 24 (by decide), List.forall_mem_cons.mpr ⟨hF 25 (by decide), List.forall_mem_cons.mpr ⟨hF 26 (by decide), List.forall_mem_cons.mpr ⟨hF 27 (by decide), List.forall_mem_cons.mpr ⟨hF 28 (by decide), List.forall_mem_cons.mpr ⟨hF 30 (by decide), List.forall_mem_cons.mpr ⟨hF 31 (by decide), List.forall_mem_cons.mpr ⟨hF 32 (by decide), List.forall_mem_cons.mpr ⟨hF 33 (by decide), List.forall_mem_cons.mpr ⟨hF 34 (by decide), List.forall_mem_cons.mpr ⟨hF 35 (by decide), List.forall_mem_cons.mpr ⟨hF 36 (by decide), List.forall_mem_cons.mpr ⟨hF 37 (by decide), List.forall_mem_cons.mpr ⟨hF 135 (by decide), List.forall_mem_cons.mpr ⟨hF 136 (by decide), List.forall_mem_cons.mpr ⟨hF 137 (by decide), List.forall_mem_cons.mpr ⟨hF 38 (by decide), List.forall_mem_cons.mpr ⟨hF 42 (by decide), List.forall_mem_cons.mpr ⟨hF 138 (by decide), List.forall_mem_cons.mpr ⟨hF 75 (by decide), List.forall_mem_cons.mpr ⟨hF 76 (by decide), List.forall_mem_cons.mpr ⟨hF 77 (by decide), List.forall_mem_cons.mpr ⟨hF 78 (by decide), List.forall_mem_cons.mpr ⟨hF 155 (by decide), List.forall_mem_cons.mpr ⟨hF 156 (by decide), List.forall_mem_cons.mpr ⟨hF 157 (by decide), List.forall_mem_cons.mpr ⟨hF 158 (by decide), List.forall_mem_cons.mpr ⟨hF 80 (by decide), List.forall_mem_cons.mpr ⟨hF 81 (by decide), List.forall_mem_cons.mpr ⟨hF 82 (by decide), List.forall_mem_cons.mpr ⟨hF 83 (by decide), List.forall_mem_cons.mpr ⟨hF 84 (by decide), List.forall_mem_cons.mpr ⟨hF 85 (by decide), List.forall_mem_cons.mpr ⟨hF 86 (by decide), List.forall_mem_cons.mpr ⟨hF 87 (by decide), List.forall_mem_cons.mpr ⟨hF 159 (by decide), List.forall_mem_cons.mpr ⟨hF 89 (by decide), List.forall_mem_cons.mpr ⟨hF 90 (by decide), List.forall_mem_cons.mpr ⟨hF 91 (by decide), List.forall_mem_cons.mpr ⟨hF 92 (by decide), List.forall_mem_cons.mpr ⟨hF 160 (by decide), List.forall_mem_cons.mpr ⟨hF 97 (by decide), List.forall_mem_cons.mpr ⟨hF 98 (by decide), List.forall_mem_cons.mpr ⟨hF 99 (by decide), List.forall_mem_cons.mpr ⟨hF 162 (by decide), List.forall_mem_cons.mpr ⟨hF 163 (by decide), List.forall_mem_cons.mpr ⟨hF 164 (by decide), List.forall_mem_cons.mpr ⟨hF 101 (by decide), List.forall_mem_cons.mpr ⟨hF 167 (by decide), List.forall_mem_cons.mpr ⟨hF 106 (by decide), List.forall_mem_cons.mpr ⟨hF 168 (by decide), fun _ h => nomatch h⟩⟩⟩⟩⟩⟩⟩⟩⟩⟩⟩⟩⟩⟩⟩⟩⟩⟩⟩⟩⟩⟩⟩⟩⟩⟩⟩⟩⟩⟩⟩⟩⟩⟩⟩⟩⟩⟩⟩⟩⟩⟩⟩⟩⟩⟩⟩⟩⟩⟩⟩⟩⟩⟩⟩⟩⟩⟩⟩⟩⟩⟩⟩⟩⟩⟩⟩⟩⟩⟩⟩⟩⟩⟩⟩⟩⟩⟩⟩⟩⟩⟩⟩⟩⟩) (List.forall_mem_cons.mpr ⟨congrFun (hF 0 (by decide)) 0, List.forall_mem_cons.mpr ⟨h114 0 (by decide), List.forall_mem_cons.mpr ⟨congrFun (hF 1 (by decide)) 5, List.forall_mem_cons.mpr ⟨h114 1 (by decide), List.forall_mem_cons.mpr ⟨rfl, List.forall_mem_cons.mpr ⟨rfl, List.forall_mem_cons.mpr ⟨congrFun (hF 17 (by decide)) 8, List.forall_mem_cons.mpr ⟨h114 22 (by decide), List.forall_mem_cons.mpr ⟨congrFun (hF 41 (by decide)) 1, List.forall_mem_cons.mpr ⟨h114 29 (by decide), List.forall_mem_cons.mpr ⟨congrFun (hF 41 (by decide)) 6, List.forall_mem_cons.mpr ⟨h114 32 (by decide), List.forall_mem_cons.mpr ⟨congrFun (hF 74 (by decide)) 4, List.forall_mem_cons.mpr ⟨h114 54 (by decide), List.forall_mem_cons.mpr ⟨congrFun (hF 88 (by decide)) 7, List.forall_mem_cons.mpr ⟨h114 60 (by decide), List.forall_mem_cons.mpr ⟨congrFun (hF 96 (by decide)) 4, List.forall_mem_cons.mpr ⟨h114 63 (by decide), fun _ h => nomatch h⟩⟩⟩⟩⟩⟩⟩⟩⟩⟩⟩⟩⟩⟩⟩⟩⟩⟩) (by rw [show τ 17 7 = σ 17 7 from congrFun (hF 17 (by decide)) 7, show τ 40 = σ 40 from hF 40 (by decide)]; exact r11)

theorem LineOk.before {now nl n : Int} {kd dy td tg pp qq nn : Int → Int} {k d t p q m i x : Int} (h : LineOk now nl kd dy td tg pp qq nn i) (h0 : 0 ≤ i) (hi : i < n) : LineOk now nl (fun j => if j = n then k else kd j) (fun j => if j = n then d else dy j) (fun j => if j = n then x else td j) (fun j => if j = n then t else tg j) (fun j => if j = n then p else pp j) (fun j => if j = n then q else qq j) (fun j => if j = n then m else nn j) i := by
  have e : ¬ i = n := by omega
  obtain ⟨a1, a2, a3, a4, a5, a6⟩ := h
  unfold LineOk
  simp only [if_neg e]
  refine ⟨a1, a2, a3, a4, fun q => ?_, a6⟩
  obtain ⟨b1, b2, b3⟩ := a5 q
  rw [if_neg (show ¬ tg i = n by omega)]
  exact ⟨b1, b2, b3⟩
theorem LineOk.new {now nl n : Int} {kd dy td tg pp qq nn : Int → Int} {k d t p q m v5 v6 v7 : Int} (h0 : 0 ≤ n) (a0 : 0 ≤ k ∧ k ≤ 10) (a1 : tgtQ nl n kd k t ∧ ((k = 0 ∨ k = 1 ∨ k = 3 ∨ k = 5 ∨ k = 9) → 0 ≤ p ∧ p ≤ 7) ∧ (k = 1 → 0 ≤ q ∧ q ≤ 7)) (a2 : (0 ≤ d ∧ d ≤ now) ∧ ((k ≤ 3 ∨ k = 7 ∨ k = 8) → leastQ k ≤ m ∧ m ≤ mostNQ k)) (w5 : ((k = 0 ∨ k = 1 ∨ k = 3 ∨ k = 5 ∨ k = 9) ∧ v5 = p) ∨ (¬ (k = 0 ∨ k = 1 ∨ k = 3 ∨ k = 5 ∨ k = 9) ∧ v5 = -1)) (w6 : (k = 1 ∧ v6 = q) ∨ (k ≠ 1 ∧ v6 = -1)) (w7 : ((k ≤ 3 ∨ k = 7 ∨ k = 8) ∧ v7 = m) ∨ (¬ (k ≤ 3 ∨ k = 7 ∨ k = 8) ∧ v7 = -1)) : LineOk now nl (fun j => if j = n then k else kd j) (fun j => if j = n then d else dy j) (fun j => if j = n then now else td j) (fun j => if j = n then t else tg j) (fun j => if j = n then v5 else pp j) (fun j => if j = n then v6 else qq j) (fun j => if j = n then v7 else nn j) n := by
  unfold LineOk hasPq
  simp only [if_true]
  obtain ⟨t1, a3, a4⟩ := a1
  obtain ⟨a5, a6⟩ := a2
  have hlm := lm_cs (k := k)
  refine ⟨a0, ⟨a5.1, a5.2, Int.le_refl _⟩, fun q => ?_, fun q => ?_, fun q => ?_, fun q => ?_, fun q => ?_, fun q => ?_, fun q => ?_, fun q => ?_, fun q => ?_, fun q => ?_, fun q => ?_⟩
  · rcases t1 with t1 | t1 | t1
    · exact t1.2
    · omega
    · omega
  · rcases t1 with t1 | t1 | t1
    · omega
    · exact t1.2
    · omega
  · rcases t1 with t1 | t1 | ⟨t1, t2, t3⟩
    · omega
    · omega
    · rw [if_neg (show ¬ t = n by omega)]
      exact ⟨t2.1, t2.2, t3⟩
  all_goals omega
set_option maxHeartbeats 1000000 in
theorem pair_line {k d t p q n : Int} (hR : RR σ) (q1 : rgi k) (q2 : rgi d) (q3 : rgi t) (q4 : rgi p) (q5 : rgi q) (q6 : rgi n) : Pair l G M_X10_line 3 M_X11_line 3 [vi k, vi d, vi t, vi p, vi q, vi n] σ := by
  obtain ⟨v5, w5⟩ : ∃ v5 : Int, ((k = 0 ∨ k = 1 ∨ k = 3 ∨ k = 5 ∨ k = 9) ∧ v5 = p) ∨ (¬ (k = 0 ∨ k = 1 ∨ k = 3 ∨ k = 5 ∨ k = 9) ∧ v5 = -1) := by
    by_cases c : (k = 0 ∨ k = 1 ∨ k = 3 ∨ k = 5 ∨ k = 9)
    · exact ⟨p, Or.inl ⟨c, rfl⟩⟩
    · exact ⟨-1, Or.inr ⟨c, rfl⟩⟩
  obtain ⟨v6, w6⟩ : ∃ v6 : Int, (k = 1 ∧ v6 = q) ∨ (k ≠ 1 ∧ v6 = -1) := by
    by_cases c : k = 1
    · exact ⟨q, Or.inl ⟨c, rfl⟩⟩
    · exact ⟨-1, Or.inr ⟨c, rfl⟩⟩
  obtain ⟨v7, w7⟩ : ∃ v7 : Int, ((k ≤ 3 ∨ k = 7 ∨ k = 8) ∧ v7 = n) ∨ (¬ (k ≤ 3 ∨ k = 7 ∨ k = 8) ∧ v7 = -1) := by
    by_cases c : (k ≤ 3 ∨ k = 7 ∨ k = 8)
    · exact ⟨n, Or.inl ⟨c, rfl⟩⟩
    · exact ⟨-1, Or.inr ⟨c, rfl⟩⟩
  have hR0 := hR
  obtain ⟨⟨e0, h0⟩, ⟨e1, h1, -⟩, r3, ⟨e9, h9, ⟨m1, m2, m3, m4, m5, m6, m7⟩, ok, td9, ord⟩, r5⟩ := hR
  have hk : ∀ i, 0 ≤ i → i < σ 7 9 → 0 ≤ σ 8 i ∧ σ 8 i ≤ 10 := fun i a b => (ok i a b).1
  have hdy : ∀ i, 0 ≤ i → i < σ 7 9 → 0 ≤ σ 9 i ∧ σ 9 i ≤ 2000 := fun i a b => by have := (ok i a b).2.1; omega
  refine ⟨_, c_X10_line q1 q2 q3 q4 q5 q6 w5 w6 w7 h0 h1 h9 hk hdy ord, fun z τ c1 => ?_⟩
  have key : ∀ (s : Prop), LnP (0 ≤ k ∧ k ≤ 10) (tgtQ (σ 1 5) (σ 7 9) (σ 8) k t ∧ ((k = 0 ∨ k = 1 ∨ k = 3 ∨ k = 5 ∨ k = 9) → 0 ≤ p ∧ p ≤ 7) ∧ (k = 1 → 0 ≤ q ∧ q ≤ 7)) ((0 ≤ d ∧ d ≤ σ 0 0) ∧ ((k ≤ 3 ∨ k = 7 ∨ k = 8) → leastQ k ≤ n ∧ n ≤ mostNQ k)) (σ 7 9 < 120) (σ 7 9) (τ = σ) s z → rgi z := fun s c => by
    rcases c with c | c | c | c | c
    · have := c.2.1; omega
    · have := c.2.2.1; omega
    · have := c.2.2.2.1; omega
    · have := c.2.2.2.2.1; omega
    · have := c.2.2.2.2.1; omega
  refine ⟨key _ c1, ?_⟩
  have fr : Fr [7, 8, 9, 10, 11, 12, 13, 14, 15] σ τ := by
    rcases c1 with c | c | c | c | c
    · rw [c.2.2]; exact Fr.rf
    · rw [c.2.2.2]; exact Fr.rf
    · rw [c.2.2.2.2]; exact Fr.rf
    · rw [c.2.2.2.2.2]; exact Fr.rf
    · exact c.2.2.2.2.2.2.2.2.1
  have f114 : τ 114 = σ 114 := fr 114 (by decide)
  have f122 : τ 122 = σ 8 := (fr 122 (by decide)).trans m1
  refine CI_mono (c_X11_line q1 q2 q3 q4 q5 q6 w5 w6 w7 (by rw [f114, e0]; exact h0) (by rw [f114, e1]; exact h1) (by rw [f114, e9]; exact h9) (by rw [f114, e9, f122]; exact hk)) (fun z' υ c2 => ?_)
  rw [f114, e0, e1, e9, f122] at c2
  obtain ⟨ez, c3⟩ := LnP.two c1 c2
  refine ⟨ez, ?_⟩
  rcases c3 with ⟨s1, s2⟩ | ⟨a0, a1, a2, a3, ⟨⟨b1, b2, b3, b4, b5, b6, b7⟩, b8, b9, bF, bO⟩, ⟨d1, d2, d3, d4, d5, d6, d7⟩, d8, dF, dO⟩
  · rw [s2, s1]; exact hR0
  · rw [fr 123 (by decide), m2] at d2
    rw [fr 124 (by decide), m3] at d3
    rw [fr 125 (by decide), m4] at d4
    rw [fr 126 (by decide), m5] at d5
    rw [fr 127 (by decide), m6] at d6
    rw [fr 128 (by decide), m7] at d7
    refine RR_lines hR0 (Fr.trans bF dF (by decide) (by decide)) (Fo.trans bO (Fo.of dF (by decide)) (fun _ h => h) (fun _ h => h)) (Fo.trans (Fo.of bF (by decide)) dO (fun _ h => h) (fun _ h => h)) ?_
    rw [show υ 7 9 = σ 7 9 + 1 by rw [dF 7 (by decide), b8], d8, show υ 8 = τ 8 from dF 8 (by decide), show υ 9 = τ 9 from dF 9 (by decide), show υ 10 = τ 10 from dF 10 (by decide), show υ 11 = τ 11 from dF 11 (by decide), show υ 12 = τ 12 from dF 12 (by decide), show υ 13 = τ 13 from dF 13 (by decide), show υ 14 = τ 14 from dF 14 (by decide), show υ 15 = τ 15 from dF 15 (by decide), d1, d2, d3, d4, d5, d6, d7]
    refine ⟨rfl, by omega, ⟨b1.symm, b2.symm, b3.symm, b4.symm, b5.symm, b6.symm, b7.symm⟩, fun i g1 g2 => ?_, fun i j g1 g2 g3 => ?_, b9⟩
    · rw [b1, b2, b3, b4, b5, b6, b7]
      by_cases e : i = σ 7 9
      · subst e
        exact LineOk.new h9.1 a0 a1 a2 w5 w6 w7
      · exact (ok i g1 (by omega)).before g1 (by omega)
    · rw [b3]
      show (if i = σ 7 9 then σ 0 0 else σ 10 i) ≤ (if j = σ 7 9 then σ 0 0 else σ 10 j)
      by_cases e : j = σ 7 9
      · rw [if_pos e]
        by_cases e2 : i = σ 7 9
        · rw [if_pos e2]; exact Int.le_refl _
        · rw [if_neg e2]; exact (ok i g1 (by omega)).2.1.2.2
      · rw [if_neg e, if_neg (by omega)]
        exact td9 i j g1 g2 (by omega)

