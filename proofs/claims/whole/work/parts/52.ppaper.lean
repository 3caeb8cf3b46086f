/-! paper, goods, stock -/
variable {l : Launch} {G : GC} {σ τ : Nat → Int → Int}

/-- the answer of paper -/
def ppZ (y : Nat → Int → Int) (w q : Int) : Int := if y 1 w = 1 then (if q = 0 then y 4 w else if q = 1 then y 5 w else if q = 2 then y 6 w else if q = 3 then y 7 w else if q = 4 then y 8 w else if q = 5 then y 9 w else y 3 w) else -1003
set_option maxHeartbeats 1000000 in
theorem c_X10_paper {w d kn q : Int} (hR : RR σ) (q1 : rgi w) (q2 : rgi d) (q3 : rgi kn) (q4 : rgi q) : CI l G M_X10_paper 6 [vr 0, vi w, vi d, vi kn, vi q] σ (fun z υ => (¬ ((0 ≤ w ∧ w < σ 7 9) ∧ (σ 8 w = 0 ∨ σ 8 w = 2)) ∧ z = -1001 ∧ υ = σ) ∨ (((0 ≤ w ∧ w < σ 7 9) ∧ (σ 8 w = 0 ∨ σ 8 w = 2)) ∧ ¬ (((0 ≤ d ∧ d ≤ 2000) ∧ 0 ≤ kn ∧ kn ≤ σ 0 0) ∧ 0 ≤ q ∧ q ≤ 6) ∧ z = -1002 ∧ υ = σ) ∨ (((0 ≤ w ∧ w < σ 7 9) ∧ (σ 8 w = 0 ∨ σ 8 w = 2)) ∧ (((0 ≤ d ∧ d ≤ 2000) ∧ 0 ≤ kn ∧ kn ≤ σ 0 0) ∧ 0 ≤ q ∧ q ≤ 6) ∧ z = ppZ (Yq σ d kn) w q ∧ Sc σ υ ∧ RR υ)) := by
  have now := hR.now
  have nl12 := hR.lots
  have n120 := hR.n9
  refine Ct.of rfl (Nat.le_of_ble_eq_true rfl) ?_
  refine x_aload_n (E_X10_paper_0 0 rfl) rfl ?_
  refine x_getR (E_X10_paper_0 1 rfl) fl_X10_23 rfl (by decide) rfl ?_
  refine x_iload_n (E_X10_paper_0 2 rfl) rfl ?_
  refine z_callVi (E_X10_paper_0 3 rfl) ml_X10_232 mv_X2_isPaper rfl (by decide) (by decide) (c_X2_isPaper q1 (by omega) (fun i a b => (hR.line a b).1)) (by decide) rfl rfl (Nat.le_of_ble_eq_true rfl) (fun z9 τ9 h9 => ?_)
  obtain ⟨rfl, ⟨rfl, c1⟩ | ⟨rfl, c1⟩⟩ := h9
  · refine x_if_ne (E_X10_paper_0 4 rfl) (by decide) (fun _ => ?_) (fun c9 => absurd c9 (by decide))
    refine x_aload_n (E_X10_paper_0 7 rfl) rfl ?_
    refine x_iload_n (E_X10_paper_0 8 rfl) rfl ?_
    refine x_iload_n (E_X10_paper_0 9 rfl) rfl ?_
    refine z_callVi (E_X10_paper_0 10 rfl) ml_X10_235 mv_X10_isAsked rfl (by decide) (by decide) (c_X10_isAsked q2 q3 now) (by decide) rfl rfl (Nat.le_of_ble_eq_true rfl) (fun z9 τ9 h9 => ?_)
    obtain ⟨rfl, ⟨rfl, c2⟩ | ⟨rfl, c2⟩⟩ := h9
    · refine x_if_eq (E_X10_paper_0 11 rfl) (by decide) (fun c9 => absurd c9 (by decide)) (fun _ => ?_)
      refine x_iload (E_X10_paper_0 12 rfl) rfl ?_
      refine x_iconst (E_X10_paper_0 13 rfl) ?_
      refine x_bipush (z := 6) (E_X10_paper_0 14 rfl) (by decide) ?_
      refine z_callSi (E_X10_paper_0 15 rfl) ml_X10_100 ms_X10_within (c_X10_within (by omega) (by omega) (by omega)) (by decide) rfl rfl (Nat.le_of_ble_eq_true rfl) (fun z9 τ9 h9 => ?_)
      obtain ⟨rfl, ⟨rfl, c3⟩ | ⟨rfl, c3⟩⟩ := h9
      · refine x_if_ne (E_X10_paper_0 16 rfl) (by decide) (fun _ => ?_) (fun c9 => absurd c9 (by decide))
        refine x_aload_n (E_X10_paper_0 19 rfl) rfl ?_
        refine x_getR (E_X10_paper_0 20 rfl) fl_X10_46 rfl (by decide) rfl ?_
        refine x_iload_n (E_X10_paper_0 21 rfl) rfl ?_
        refine x_iload_n (E_X10_paper_0 22 rfl) rfl ?_
        refine z_callVv (E_X10_paper_0 23 rfl) ml_X10_174 mv_X7_tell rfl (by decide) (by decide) (tC hR q2 q3) (by decide) rfl rfl (Nat.le_of_ble_eq_true rfl) (fun τ9 h9 => ?_)
        have y1 := h9.1
        have hy : YOk (nq σ) (σ 1 5) (σ 3) (Yq σ d kn) := hR.yok
        have n9 := hR.n9
        have g1 : (Yq σ d kn) 1 w = τ9 46 w := by rw [← y1]; exact StG_1 (by omega)
        have g2 := (hy.1 w).1
        refine x_aload_n (E_X10_paper_0 24 rfl) rfl ?_
        refine x_getR (E_X10_paper_0 25 rfl) fl_X10_46 rfl (by decide) rfl ?_
        refine x_getR (E_X10_paper_0 26 rfl) fl_X10_238 rfl (by decide) rfl ?_
        refine x_iload_n (E_X10_paper_0 27 rfl) rfl ?_
        refine x_zalde (f := τ9 46) (E_X10_paper_0 28 rfl) rfl (by decide) (by omega) rfl ?_
        refine x_if_ne (E_X10_paper_0 29 rfl) (by omega) (fun c4 => ?_) (fun c4 => ?_)
        · have th : (Yq σ d kn) 1 w = 1 := by omega
          have yr := hy.2.1 w th
          obtain ⟨d1, d2, d3, d4, d5, d6, d7, d8, d9⟩ : (0 ≤ w ∧ w < ((nq σ : Nat) : Int)) ∧ τ9 46 w = 1 ∧ (Yq σ d kn) 3 w = τ9 48 w ∧ (Yq σ d kn) 4 w = τ9 49 w ∧ (Yq σ d kn) 5 w = τ9 50 w ∧ (Yq σ d kn) 6 w = τ9 51 w ∧ (Yq σ d kn) 7 w = τ9 52 w ∧ (Yq σ d kn) 8 w = τ9 53 w ∧ (Yq σ d kn) 9 w = τ9 54 w := by
            have := StG_rd (show SC 45 (nq σ) (σ 1 5) τ9 1 w = 1 by rw [y1]; exact th)
            rw [← y1]
            exact this
          refine x_iload (E_X10_paper_0 32 rfl) rfl ?_
          by_cases w0 : q = 0
          · subst w0
            refine x_tsw (t := 104) (E_X10_paper_0 33 rfl) (by decide) (by decide) (by decide) ?_
            refine x_aload_n (E_X10_paper_0 34 rfl) rfl ?_
            refine x_getR (E_X10_paper_0 35 rfl) fl_X10_46 rfl (by decide) rfl ?_
            refine x_getR (E_X10_paper_0 36 rfl) fl_X10_241 rfl (by decide) rfl ?_
            refine x_iload_n (E_X10_paper_0 37 rfl) rfl ?_
            refine x_ialde (f := τ9 49) (E_X10_paper_0 38 rfl) rfl (by decide) (by omega) rfl ?_
            refine z_iret (E_X10_paper_0 39 rfl) trivial ?_
            exact Or.inr (Or.inr ⟨by omega, by omega, d4.symm.trans (if_pos th).symm, h9.sc, h9.rr hR⟩)
          by_cases w1 : q = 1
          · subst w1
            refine x_tsw (t := 114) (E_X10_paper_0 33 rfl) (by decide) (by decide) (by decide) ?_
            refine x_aload_n (E_X10_paper_0 40 rfl) rfl ?_
            refine x_getR (E_X10_paper_0 41 rfl) fl_X10_46 rfl (by decide) rfl ?_
            refine x_getR (E_X10_paper_0 42 rfl) fl_X10_244 rfl (by decide) rfl ?_
            refine x_iload_n (E_X10_paper_0 43 rfl) rfl ?_
            refine x_ialde (f := τ9 50) (E_X10_paper_0 44 rfl) rfl (by decide) (by omega) rfl ?_
            refine z_iret (E_X10_paper_0 45 rfl) trivial ?_
            exact Or.inr (Or.inr ⟨by omega, by omega, d5.symm.trans (if_pos th).symm, h9.sc, h9.rr hR⟩)
          by_cases w2 : q = 2
          · subst w2
            refine x_tsw (t := 124) (E_X10_paper_0 33 rfl) (by decide) (by decide) (by decide) ?_
            refine x_aload_n (E_X10_paper_0 46 rfl) rfl ?_
            refine x_getR (E_X10_paper_0 47 rfl) fl_X10_46 rfl (by decide) rfl ?_
            refine x_getR (E_X10_paper_0 48 rfl) fl_X10_247 rfl (by decide) rfl ?_
            refine x_iload_n (E_X10_paper_0 49 rfl) rfl ?_
            refine x_ialde (f := τ9 51) (E_X10_paper_0 50 rfl) rfl (by decide) (by omega) rfl ?_
            refine z_iret (E_X10_paper_0 51 rfl) trivial ?_
            exact Or.inr (Or.inr ⟨by omega, by omega, d6.symm.trans (if_pos th).symm, h9.sc, h9.rr hR⟩)
          by_cases w3 : q = 3
          · subst w3
            refine x_tsw (t := 134) (E_X10_paper_0 33 rfl) (by decide) (by decide) (by decide) ?_
            refine x_aload_n (E_X10_paper_0 52 rfl) rfl ?_
            refine x_getR (E_X10_paper_0 53 rfl) fl_X10_46 rfl (by decide) rfl ?_
            refine x_getR (E_X10_paper_0 54 rfl) fl_X10_250 rfl (by decide) rfl ?_
            refine x_iload_n (E_X10_paper_0 55 rfl) rfl ?_
            refine x_ialde (f := τ9 52) (E_X10_paper_0 56 rfl) rfl (by decide) (by omega) rfl ?_
            refine z_iret (E_X10_paper_0 57 rfl) trivial ?_
            exact Or.inr (Or.inr ⟨by omega, by omega, d7.symm.trans (if_pos th).symm, h9.sc, h9.rr hR⟩)
          by_cases w4 : q = 4
          · subst w4
            refine x_tsw (t := 144) (E_X10_paper_0 33 rfl) (by decide) (by decide) (by decide) ?_
            refine x_aload_n (E_X10_paper_0 58 rfl) rfl ?_
            refine x_getR (E_X10_paper_0 59 rfl) fl_X10_46 rfl (by decide) rfl ?_
            refine x_getR (E_X10_paper_1 0 rfl) fl_X10_253 rfl (by decide) rfl ?_
            refine x_iload_n (E_X10_paper_1 1 rfl) rfl ?_
            refine x_ialde (f := τ9 53) (E_X10_paper_1 2 rfl) rfl (by decide) (by omega) rfl ?_
            refine z_iret (E_X10_paper_1 3 rfl) trivial ?_
            exact Or.inr (Or.inr ⟨by omega, by omega, d8.symm.trans (if_pos th).symm, h9.sc, h9.rr hR⟩)
          by_cases w5 : q = 5
          · subst w5
            refine x_tsw (t := 154) (E_X10_paper_0 33 rfl) (by decide) (by decide) (by decide) ?_
            refine x_aload_n (E_X10_paper_1 4 rfl) rfl ?_
            refine x_getR (E_X10_paper_1 5 rfl) fl_X10_46 rfl (by decide) rfl ?_
            refine x_getR (E_X10_paper_1 6 rfl) fl_X10_256 rfl (by decide) rfl ?_
            refine x_iload_n (E_X10_paper_1 7 rfl) rfl ?_
            refine x_ialde (f := τ9 54) (E_X10_paper_1 8 rfl) rfl (by decide) (by omega) rfl ?_
            refine z_iret (E_X10_paper_1 9 rfl) trivial ?_
            exact Or.inr (Or.inr ⟨by omega, by omega, d9.symm.trans (if_pos th).symm, h9.sc, h9.rr hR⟩)
          refine x_tswD (t := 164) (E_X10_paper_0 33 rfl) (by omega) (by omega) (by decide) ?_
          refine x_aload_n (E_X10_paper_1 10 rfl) rfl ?_
          refine x_getR (E_X10_paper_1 11 rfl) fl_X10_46 rfl (by decide) rfl ?_
          refine x_getR (E_X10_paper_1 12 rfl) fl_X10_259 rfl (by decide) rfl ?_
          refine x_iload_n (E_X10_paper_1 13 rfl) rfl ?_
          refine x_ialde (f := τ9 48) (E_X10_paper_1 14 rfl) rfl (by decide) (by omega) rfl ?_
          refine z_iret (E_X10_paper_1 15 rfl) trivial ?_
          have z9 : ppZ (Yq σ d kn) w q = (Yq σ d kn) 3 w := (if_pos th).trans (by rw [if_neg (by omega), if_neg (by omega), if_neg (by omega), if_neg (by omega), if_neg (by omega), if_neg (by omega)])
          exact Or.inr (Or.inr ⟨by omega, by omega, d3.symm.trans z9.symm, h9.sc, h9.rr hR⟩)
        · refine x_sipush (z := (-1003)) (E_X10_paper_0 30 rfl) (by decide) ?_
          refine z_iret (E_X10_paper_0 31 rfl) trivial ?_
          exact Or.inr (Or.inr ⟨by omega, by omega, (if_neg (by omega)).symm, h9.sc, h9.rr hR⟩)
      · refine x_if_ne (E_X10_paper_0 16 rfl) (by decide) (fun c9 => absurd c9 (by decide)) (fun _ => ?_)
        refine x_sipush (z := (-1002)) (E_X10_paper_0 17 rfl) (by decide) ?_
        refine z_iret (E_X10_paper_0 18 rfl) trivial ?_
        exact Or.inr (Or.inl ⟨by omega, by omega, rfl, rfl⟩)
    · refine x_if_eq (E_X10_paper_0 11 rfl) (by decide) (fun _ => ?_) (fun c9 => absurd (by decide) c9)
      refine x_sipush (z := (-1002)) (E_X10_paper_0 17 rfl) (by decide) ?_
      refine z_iret (E_X10_paper_0 18 rfl) trivial ?_
      exact Or.inr (Or.inl ⟨by omega, by omega, rfl, rfl⟩)
  · refine x_if_ne (E_X10_paper_0 4 rfl) (by decide) (fun c9 => absurd c9 (by decide)) (fun _ => ?_)
    refine x_sipush (z := (-1001)) (E_X10_paper_0 5 rfl) (by decide) ?_
    refine z_iret (E_X10_paper_0 6 rfl) trivial ?_
    exact Or.inl ⟨by omega, rfl, rfl⟩
set_option maxHeartbeats 1000000 in
theorem c_X11_whyNot {w d kn q m : Int} (hR : RR σ) (sc : Sc σ τ) (q1 : rgi w) (q2 : rgi d) (q3 : rgi kn) (q4 : rgi q) (q5 : rgi m) : CI l G M_X11_whyNot 4 [vr 114, vi w, vi d, vi kn, vi q, vi m] τ (fun z υ => (¬ ((0 ≤ w ∧ w < σ 7 9) ∧ (σ 8 w = 0 ∨ σ 8 w = 2)) ∧ z = -1001 ∧ υ = τ) ∨ (((0 ≤ w ∧ w < σ 7 9) ∧ (σ 8 w = 0 ∨ σ 8 w = 2)) ∧ ¬ (((0 ≤ d ∧ d ≤ 2000) ∧ 0 ≤ kn ∧ kn ≤ σ 0 0) ∧ 0 ≤ q ∧ q ≤ m) ∧ z = -1002 ∧ υ = τ) ∨ (((0 ≤ w ∧ w < σ 7 9) ∧ (σ 8 w = 0 ∨ σ 8 w = 2)) ∧ (((0 ≤ d ∧ d ≤ 2000) ∧ 0 ≤ kn ∧ kn ≤ σ 0 0) ∧ 0 ≤ q ∧ q ≤ m) ∧ ((z = 0 ∧ (Yq σ d kn) 1 w = 1) ∨ (z = -1003 ∧ (Yq σ d kn) 1 w ≠ 1)) ∧ TmP σ d kn τ υ)) := by
  have f0 : τ 114 0 = σ 0 0 := (sc.2 (114, 0) (by decide)).trans hR.1.1
  have f1 : τ 114 1 = σ 1 5 := (sc.2 (114, 1) (by decide)).trans hR.2.1.1
  have f9 : τ 114 9 = σ 7 9 := (sc.2 (114, 9) (by decide)).trans hR.2.2.2.1.1
  have f122 : τ 122 = σ 8 := (sc.1 122 (by decide)).trans hR.2.2.2.1.2.2.1.1
  have now := hR.now
  have nl12 := hR.lots
  have n120 := hR.n9
  have e122 := congrFun f122 w
  refine Ct.of rfl (Nat.le_of_ble_eq_true rfl) ?_
  refine x_aload_n (E_X11_whyNot_0 0 rfl) rfl ?_
  refine x_iload_n (E_X11_whyNot_0 1 rfl) rfl ?_
  refine z_callVi (E_X11_whyNot_0 2 rfl) ml_X11_233 mv_X11_isPaper rfl (by decide) (by decide) (c_X11_isPaper q1 (by omega) (by rw [f9, f122]; exact fun i a b => (hR.line a b).1)) (by decide) rfl rfl (Nat.le_of_ble_eq_true rfl) (fun z9 τ9 h9 => ?_)
  obtain ⟨rfl, ⟨rfl, c1⟩ | ⟨rfl, c1⟩⟩ := h9
  · refine x_if_ne (E_X11_whyNot_0 3 rfl) (by decide) (fun _ => ?_) (fun c9 => absurd c9 (by decide))
    refine x_iload_n (E_X11_whyNot_0 6 rfl) rfl ?_
    refine z_callSi (E_X11_whyNot_0 7 rfl) ml_X11_326 ms_X11_isDay (c_X11_isDay (by omega)) (by decide) rfl rfl (Nat.le_of_ble_eq_true rfl) (fun z9 τ9 h9 => ?_)
    obtain ⟨rfl, ⟨rfl, c2⟩ | ⟨rfl, c2⟩⟩ := h9
    · refine x_if_eq (E_X11_whyNot_0 8 rfl) (by decide) (fun c9 => absurd c9 (by decide)) (fun _ => ?_)
      refine x_aload_n (E_X11_whyNot_0 9 rfl) rfl ?_
      refine x_iload_n (E_X11_whyNot_0 10 rfl) rfl ?_
      refine z_callVi (E_X11_whyNot_0 11 rfl) ml_X11_245 mv_X11_isKnown rfl (by decide) (by decide) (c_X11_isKnown q3 (by omega)) (by decide) rfl rfl (Nat.le_of_ble_eq_true rfl) (fun z9 τ9 h9 => ?_)
      obtain ⟨rfl, ⟨rfl, c3⟩ | ⟨rfl, c3⟩⟩ := h9
      · refine x_if_eq (E_X11_whyNot_0 12 rfl) (by decide) (fun c9 => absurd c9 (by decide)) (fun _ => ?_)
        refine x_iload (E_X11_whyNot_0 13 rfl) rfl ?_
        refine x_i2l (E_X11_whyNot_0 14 rfl) (by omega) ?_
        refine x_lconst (z := 0) (E_X11_whyNot_0 15 rfl) rfl ?_
        refine x_iload (E_X11_whyNot_0 16 rfl) rfl ?_
        refine x_i2l (E_X11_whyNot_0 17 rfl) (by omega) ?_
        refine z_callSi (E_X11_whyNot_0 18 rfl) ml_X11_197 ms_X11_in (c_X11_in (by omega) (by omega) (by omega)) (by decide) rfl rfl (Nat.le_of_ble_eq_true rfl) (fun z9 τ9 h9 => ?_)
        obtain ⟨rfl, ⟨rfl, c4⟩ | ⟨rfl, c4⟩⟩ := h9
        · refine x_if_ne (E_X11_whyNot_0 19 rfl) (by decide) (fun _ => ?_) (fun c9 => absurd c9 (by decide))
          refine x_aload_n (E_X11_whyNot_0 22 rfl) rfl ?_
          refine x_iload_n (E_X11_whyNot_0 23 rfl) rfl ?_
          refine x_iload_n (E_X11_whyNot_0 24 rfl) rfl ?_
          refine z_callVv (E_X11_whyNot_0 25 rfl) ml_X11_378 mv_X11_tell rfl (by decide) (by decide) (tM hR sc q2 q3) (by decide) rfl rfl (Nat.le_of_ble_eq_true rfl) (fun τ9 h9 => ?_)
          have y1 := h9.1
          have hy : YOk (nq σ) (σ 1 5) (σ 3) (Yq σ d kn) := hR.yok
          have n9 := hR.n9
          have g1 : (Yq σ d kn) 1 w = τ9 142 w := by rw [← y1]; exact StG_1 (by omega)
          have g2 := (hy.1 w).1
          refine x_aload_n (E_X11_whyNot_0 26 rfl) rfl ?_
          refine x_getR (E_X11_whyNot_0 27 rfl) fl_X11_96 rfl (by decide) rfl ?_
          refine x_iload_n (E_X11_whyNot_0 28 rfl) rfl ?_
          refine x_zalde (f := τ9 142) (E_X11_whyNot_0 29 rfl) rfl (by decide) (by omega) rfl ?_
          refine x_if_eq (E_X11_whyNot_0 30 rfl) (by omega) (fun c5 => ?_) (fun c5 => ?_)
          · refine x_sipush (z := (-1003)) (E_X11_whyNot_0 33 rfl) (by decide) ?_
            refine z_iret (E_X11_whyNot_0 34 rfl) trivial ?_
            exact Or.inr (Or.inr ⟨by omega, by omega, Or.inr ⟨rfl, by omega⟩, h9⟩)
          · refine x_iconst (E_X11_whyNot_0 31 rfl) ?_
            refine x_goto (E_X11_whyNot_0 32 rfl) ?_
            refine z_iret (E_X11_whyNot_0 34 rfl) trivial ?_
            exact Or.inr (Or.inr ⟨by omega, by omega, Or.inl ⟨rfl, by omega⟩, h9⟩)
        · refine x_if_ne (E_X11_whyNot_0 19 rfl) (by decide) (fun c9 => absurd c9 (by decide)) (fun _ => ?_)
          refine x_sipush (z := (-1002)) (E_X11_whyNot_0 20 rfl) (by decide) ?_
          refine z_iret (E_X11_whyNot_0 21 rfl) trivial ?_
          exact Or.inr (Or.inl ⟨by omega, by omega, rfl, rfl⟩)
      · refine x_if_eq (E_X11_whyNot_0 12 rfl) (by decide) (fun _ => ?_) (fun c9 => absurd (by decide) c9)
        refine x_sipush (z := (-1002)) (E_X11_whyNot_0 20 rfl) (by decide) ?_
        refine z_iret (E_X11_whyNot_0 21 rfl) trivial ?_
        exact Or.inr (Or.inl ⟨by omega, by omega, rfl, rfl⟩)
    · refine x_if_eq (E_X11_whyNot_0 8 rfl) (by decide) (fun _ => ?_) (fun c9 => absurd (by decide) c9)
      refine x_sipush (z := (-1002)) (E_X11_whyNot_0 20 rfl) (by decide) ?_
      refine z_iret (E_X11_whyNot_0 21 rfl) trivial ?_
      exact Or.inr (Or.inl ⟨by omega, by omega, rfl, rfl⟩)
  · refine x_if_ne (E_X11_whyNot_0 3 rfl) (by decide) (fun c9 => absurd c9 (by decide)) (fun _ => ?_)
    refine x_sipush (z := (-1001)) (E_X11_whyNot_0 4 rfl) (by decide) ?_
    refine z_iret (E_X11_whyNot_0 5 rfl) trivial ?_
    exact Or.inl ⟨by omega, rfl, rfl⟩
set_option maxHeartbeats 1000000 in
theorem c_X11_paper {w d kn q : Int} (hR : RR σ) (sc : Sc σ τ) (q1 : rgi w) (q2 : rgi d) (q3 : rgi kn) (q4 : rgi q) : CI l G M_X11_paper 5 [vr 114, vi w, vi d, vi kn, vi q] τ (fun z υ => (¬ ((0 ≤ w ∧ w < σ 7 9) ∧ (σ 8 w = 0 ∨ σ 8 w = 2)) ∧ z = -1001 ∧ υ = τ) ∨ (((0 ≤ w ∧ w < σ 7 9) ∧ (σ 8 w = 0 ∨ σ 8 w = 2)) ∧ ¬ (((0 ≤ d ∧ d ≤ 2000) ∧ 0 ≤ kn ∧ kn ≤ σ 0 0) ∧ 0 ≤ q ∧ q ≤ 6) ∧ z = -1002 ∧ υ = τ) ∨ (((0 ≤ w ∧ w < σ 7 9) ∧ (σ 8 w = 0 ∨ σ 8 w = 2)) ∧ (((0 ≤ d ∧ d ≤ 2000) ∧ 0 ≤ kn ∧ kn ≤ σ 0 0) ∧ 0 ≤ q ∧ q ≤ 6) ∧ z = ppZ (Yq σ d kn) w q ∧ Sd τ υ)) := by
  have f0 : τ 114 0 = σ 0 0 := (sc.2 (114, 0) (by decide)).trans hR.1.1
  have f1 : τ 114 1 = σ 1 5 := (sc.2 (114, 1) (by decide)).trans hR.2.1.1
  have f9 : τ 114 9 = σ 7 9 := (sc.2 (114, 9) (by decide)).trans hR.2.2.2.1.1
  have f122 : τ 122 = σ 8 := (sc.1 122 (by decide)).trans hR.2.2.2.1.2.2.1.1
  have now := hR.now
  have nl12 := hR.lots
  have n120 := hR.n9
  refine Ct.of rfl (Nat.le_of_ble_eq_true rfl) ?_
  refine x_aload_n (E_X11_paper_0 0 rfl) rfl ?_
  refine x_iload_n (E_X11_paper_0 1 rfl) rfl ?_
  refine x_iload_n (E_X11_paper_0 2 rfl) rfl ?_
  refine x_iload_n (E_X11_paper_0 3 rfl) rfl ?_
  refine x_iload (E_X11_paper_0 4 rfl) rfl ?_
  refine x_bipush (z := 6) (E_X11_paper_0 5 rfl) (by decide) ?_
  refine z_callVi (E_X11_paper_0 6 rfl) ml_X11_396 mv_X11_whyNot rfl (by decide) (by decide) (c_X11_whyNot hR sc q1 q2 q3 q4 (by omega)) (by decide) rfl rfl (Nat.le_of_ble_eq_true rfl) (fun z9 τ9 k9 => ?_)
  have zr : rgi z9 := by
    rcases k9 with ⟨_, rfl, _⟩ | ⟨_, _, rfl, _⟩ | ⟨_, _, h, _⟩
    · omega
    · omega
    · omega
  refine x_istore (E_X11_paper_0 7 rfl) rfl ?_
  refine x_iload (E_X11_paper_0 8 rfl) rfl ?_
  refine x_if_eq (E_X11_paper_0 9 rfl) (by omega) (fun c1 => ?_) (fun c1 => ?_)
  · obtain ⟨a1, a2, a3, h9⟩ : ((0 ≤ w ∧ w < σ 7 9) ∧ (σ 8 w = 0 ∨ σ 8 w = 2)) ∧ (((0 ≤ d ∧ d ≤ 2000) ∧ 0 ≤ kn ∧ kn ≤ σ 0 0) ∧ 0 ≤ q ∧ q ≤ 6) ∧ (Yq σ d kn) 1 w = 1 ∧ TmP σ d kn τ τ9 := by
      rcases k9 with ⟨_, h, _⟩ | ⟨_, _, h, _⟩ | ⟨p1, p2, h, p4⟩
      · omega
      · omega
      · rcases h with ⟨_, h⟩ | ⟨h, _⟩
        · exact ⟨p1, p2, h, p4⟩
        · omega
    have y1 := h9.1
    have hy : YOk (nq σ) (σ 1 5) (σ 3) (Yq σ d kn) := hR.yok
    have n9 := hR.n9
    have g1 : (Yq σ d kn) 1 w = τ9 142 w := by rw [← y1]; exact StG_1 (by omega)
    have g2 := (hy.1 w).1
    have th : (Yq σ d kn) 1 w = 1 := by omega
    have yr := hy.2.1 w th
    obtain ⟨d1, d2, d3, d4, d5, d6, d7, d8, d9⟩ : (0 ≤ w ∧ w < ((nq σ : Nat) : Int)) ∧ τ9 142 w = 1 ∧ (Yq σ d kn) 3 w = τ9 143 w ∧ (Yq σ d kn) 4 w = τ9 144 w ∧ (Yq σ d kn) 5 w = τ9 145 w ∧ (Yq σ d kn) 6 w = τ9 146 w ∧ (Yq σ d kn) 7 w = τ9 147 w ∧ (Yq σ d kn) 8 w = τ9 148 w ∧ (Yq σ d kn) 9 w = τ9 149 w := by
      have := StG_rd (show SM (nq σ) (σ 1 5) τ9 1 w = 1 by rw [y1]; exact th)
      rw [← y1]
      exact this
    refine x_iload (E_X11_paper_0 12 rfl) rfl ?_
    by_cases w0 : q = 0
    · subst w0
      refine x_tsw (t := 60) (E_X11_paper_0 13 rfl) (by decide) (by decide) (by decide) ?_
      refine x_aload_n (E_X11_paper_0 14 rfl) rfl ?_
      refine x_getR (E_X11_paper_0 15 rfl) fl_X11_102 rfl (by decide) rfl ?_
      refine x_iload_n (E_X11_paper_0 16 rfl) rfl ?_
      refine x_ialde (f := τ9 144) (E_X11_paper_0 17 rfl) rfl (by decide) (by omega) rfl ?_
      refine z_iret (E_X11_paper_0 18 rfl) trivial ?_
      exact Or.inr (Or.inr ⟨by omega, by omega, d4.symm.trans (if_pos th).symm, h9.sd⟩)
    by_cases w1 : q = 1
    · subst w1
      refine x_tsw (t := 67) (E_X11_paper_0 13 rfl) (by decide) (by decide) (by decide) ?_
      refine x_aload_n (E_X11_paper_0 19 rfl) rfl ?_
      refine x_getR (E_X11_paper_0 20 rfl) fl_X11_105 rfl (by decide) rfl ?_
      refine x_iload_n (E_X11_paper_0 21 rfl) rfl ?_
      refine x_ialde (f := τ9 145) (E_X11_paper_0 22 rfl) rfl (by decide) (by omega) rfl ?_
      refine z_iret (E_X11_paper_0 23 rfl) trivial ?_
      exact Or.inr (Or.inr ⟨by omega, by omega, d5.symm.trans (if_pos th).symm, h9.sd⟩)
    by_cases w2 : q = 2
    · subst w2
      refine x_tsw (t := 74) (E_X11_paper_0 13 rfl) (by decide) (by decide) (by decide) ?_
      refine x_aload_n (E_X11_paper_0 24 rfl) rfl ?_
      refine x_getR (E_X11_paper_0 25 rfl) fl_X11_108 rfl (by decide) rfl ?_
      refine x_iload_n (E_X11_paper_0 26 rfl) rfl ?_
      refine x_ialde (f := τ9 146) (E_X11_paper_0 27 rfl) rfl (by decide) (by omega) rfl ?_
      refine z_iret (E_X11_paper_0 28 rfl) trivial ?_
      exact Or.inr (Or.inr ⟨by omega, by omega, d6.symm.trans (if_pos th).symm, h9.sd⟩)
    by_cases w3 : q = 3
    · subst w3
      refine x_tsw (t := 81) (E_X11_paper_0 13 rfl) (by decide) (by decide) (by decide) ?_
      refine x_aload_n (E_X11_paper_0 29 rfl) rfl ?_
      refine x_getR (E_X11_paper_0 30 rfl) fl_X11_111 rfl (by decide) rfl ?_
      refine x_iload_n (E_X11_paper_0 31 rfl) rfl ?_
      refine x_ialde (f := τ9 147) (E_X11_paper_0 32 rfl) rfl (by decide) (by omega) rfl ?_
      refine z_iret (E_X11_paper_0 33 rfl) trivial ?_
      exact Or.inr (Or.inr ⟨by omega, by omega, d7.symm.trans (if_pos th).symm, h9.sd⟩)
    by_cases w4 : q = 4
    · subst w4
      refine x_tsw (t := 88) (E_X11_paper_0 13 rfl) (by decide) (by decide) (by decide) ?_
      refine x_aload_n (E_X11_paper_0 34 rfl) rfl ?_
      refine x_getR (E_X11_paper_0 35 rfl) fl_X11_114 rfl (by decide) rfl ?_
      refine x_iload_n (E_X11_paper_0 36 rfl) rfl ?_
      refine x_ialde (f := τ9 148) (E_X11_paper_0 37 rfl) rfl (by decide) (by omega) rfl ?_
      refine z_iret (E_X11_paper_0 38 rfl) trivial ?_
      exact Or.inr (Or.inr ⟨by omega, by omega, d8.symm.trans (if_pos th).symm, h9.sd⟩)
    by_cases w5 : q = 5
    · subst w5
      refine x_tsw (t := 95) (E_X11_paper_0 13 rfl) (by decide) (by decide) (by decide) ?_
      refine x_aload_n (E_X11_paper_0 39 rfl) rfl ?_
      refine x_getR (E_X11_paper_0 40 rfl) fl_X11_117 rfl (by decide) rfl ?_
      refine x_iload_n (E_X11_paper_0 41 rfl) rfl ?_
      refine x_ialde (f := τ9 149) (E_X11_paper_0 42 rfl) rfl (by decide) (by omega) rfl ?_
      refine z_iret (E_X11_paper_0 43 rfl) trivial ?_
      exact Or.inr (Or.inr ⟨by omega, by omega, d9.symm.trans (if_pos th).symm, h9.sd⟩)
    refine x_tswD (t := 102) (E_X11_paper_0 13 rfl) (by omega) (by omega) (by decide) ?_
    refine x_aload_n (E_X11_paper_0 44 rfl) rfl ?_
    refine x_getR (E_X11_paper_0 45 rfl) fl_X11_99 rfl (by decide) rfl ?_
    refine x_iload_n (E_X11_paper_0 46 rfl) rfl ?_
    refine x_ialde (f := τ9 143) (E_X11_paper_0 47 rfl) rfl (by decide) (by omega) rfl ?_
    refine z_iret (E_X11_paper_0 48 rfl) trivial ?_
    have z9 : ppZ (Yq σ d kn) w q = (Yq σ d kn) 3 w := (if_pos th).trans (by rw [if_neg (by omega), if_neg (by omega), if_neg (by omega), if_neg (by omega), if_neg (by omega), if_neg (by omega)])
    exact Or.inr (Or.inr ⟨by omega, by omega, d3.symm.trans z9.symm, h9.sd⟩)
  · 
    refine x_iload (E_X11_paper_0 10 rfl) rfl ?_
    refine z_iret (E_X11_paper_0 11 rfl) trivial ?_
    rcases k9 with ⟨a, rfl, rfl⟩ | ⟨a, b, rfl, rfl⟩ | ⟨a, b, h, c⟩
    · exact Or.inl ⟨a, rfl, rfl⟩
    · exact Or.inr (Or.inl ⟨a, b, rfl, rfl⟩)
    · rcases h with ⟨h, _⟩ | ⟨rfl, h⟩
      · omega
      · exact Or.inr (Or.inr ⟨a, b, (if_neg h).symm, c.sd⟩)
theorem pp_rg {n nl : Int} {ck : Int → Int} {y : Nat → Int → Int} {w q : Int} (hy : YOk n nl ck y) (hn : nl ≤ 12) : rgi (ppZ y w q) := by
  unfold ppZ
  by_cases th : y 1 w = 1
  · have := hy.2.1 w th
    rw [if_pos th]
    repeat' split
    all_goals omega
  · rw [if_neg th]; omega
theorem pair_paper {w d kn q : Int} (hR : RR σ) (q1 : rgi w) (q2 : rgi d) (q3 : rgi kn) (q4 : rgi q) : Pair l G M_X10_paper 6 M_X11_paper 5 [vi w, vi d, vi kn, vi q] σ := pair3 hR (c_X10_paper hR q1 q2 q3 q4) (fun _ _ => pp_rg hR.yok hR.lots.2) (fun τ sc => c_X11_paper hR sc q1 q2 q3 q4)

/-- the answer of goods -/
def gdZ (ck : Int → Int) (y : Nat → Int → Int) (n : Nat) (x q : Int) : Int := if q = 0 then thS ck y x else if q = 1 then y 10 x else if q = 2 then y 11 x else if q = 3 then onS y n x else if q = 4 then max 0 (onS y n x - thS ck y x) else sumS (fun w => if y 1 w = 1 ∧ 0 < y 4 w ∧ (x = -1 ∨ y 3 w = x) then 1 else 0) n
set_option maxHeartbeats 1000000 in
theorem c_X10_goods {x d kn q : Int} (hR : RR σ) (q1 : rgi x) (q2 : rgi d) (q3 : rgi kn) (q4 : rgi q) : CI l G M_X10_goods 6 [vr 0, vi x, vi d, vi kn, vi q] σ (fun z υ => (¬ (0 ≤ x ∧ x < σ 1 5) ∧ z = -1001 ∧ υ = σ) ∨ ((0 ≤ x ∧ x < σ 1 5) ∧ ¬ (((0 ≤ d ∧ d ≤ 2000) ∧ 0 ≤ kn ∧ kn ≤ σ 0 0) ∧ 0 ≤ q ∧ q ≤ 5) ∧ z = -1002 ∧ υ = σ) ∨ ((0 ≤ x ∧ x < σ 1 5) ∧ (((0 ≤ d ∧ d ≤ 2000) ∧ 0 ≤ kn ∧ kn ≤ σ 0 0) ∧ 0 ≤ q ∧ q ≤ 5) ∧ z = gdZ (σ 3) (Yq σ d kn) (nq σ) x q ∧ Sc σ υ ∧ RR υ)) := by
  have now := hR.now
  have nl12 := hR.lots
  have n120 := hR.n9
  refine Ct.of rfl (Nat.le_of_ble_eq_true rfl) ?_
  refine x_aload_n (E_X10_goods_0 0 rfl) rfl ?_
  refine x_getR (E_X10_goods_0 1 rfl) fl_X10_16 rfl (by decide) rfl ?_
  refine x_iload_n (E_X10_goods_0 2 rfl) rfl ?_
  refine z_callVi (E_X10_goods_0 3 rfl) ml_X10_121 mv_X3_has rfl (by decide) (by decide) (c_X3_has q1 nl12) (by decide) rfl rfl (Nat.le_of_ble_eq_true rfl) (fun z9 τ9 h9 => ?_)
  obtain ⟨rfl, ⟨rfl, c1⟩ | ⟨rfl, c1⟩⟩ := h9
  · refine x_if_ne (E_X10_goods_0 4 rfl) (by decide) (fun _ => ?_) (fun c9 => absurd c9 (by decide))
    refine x_aload_n (E_X10_goods_0 7 rfl) rfl ?_
    refine x_iload_n (E_X10_goods_0 8 rfl) rfl ?_
    refine x_iload_n (E_X10_goods_0 9 rfl) rfl ?_
    refine z_callVi (E_X10_goods_0 10 rfl) ml_X10_235 mv_X10_isAsked rfl (by decide) (by decide) (c_X10_isAsked q2 q3 now) (by decide) rfl rfl (Nat.le_of_ble_eq_true rfl) (fun z9 τ9 h9 => ?_)
    obtain ⟨rfl, ⟨rfl, c2⟩ | ⟨rfl, c2⟩⟩ := h9
    · refine x_if_eq (E_X10_goods_0 11 rfl) (by decide) (fun c9 => absurd c9 (by decide)) (fun _ => ?_)
      refine x_iload (E_X10_goods_0 12 rfl) rfl ?_
      refine x_iconst (E_X10_goods_0 13 rfl) ?_
      refine x_iconst (E_X10_goods_0 14 rfl) ?_
      refine z_callSi (E_X10_goods_0 15 rfl) ml_X10_100 ms_X10_within (c_X10_within (by omega) (by omega) (by omega)) (by decide) rfl rfl (Nat.le_of_ble_eq_true rfl) (fun z9 τ9 h9 => ?_)
      obtain ⟨rfl, ⟨rfl, c3⟩ | ⟨rfl, c3⟩⟩ := h9
      · refine x_if_ne (E_X10_goods_0 16 rfl) (by decide) (fun _ => ?_) (fun c9 => absurd c9 (by decide))
        refine x_aload_n (E_X10_goods_0 19 rfl) rfl ?_
        refine x_getR (E_X10_goods_0 20 rfl) fl_X10_46 rfl (by decide) rfl ?_
        refine x_iload_n (E_X10_goods_0 21 rfl) rfl ?_
        refine x_iload_n (E_X10_goods_0 22 rfl) rfl ?_
        refine z_callVv (E_X10_goods_0 23 rfl) ml_X10_174 mv_X7_tell rfl (by decide) (by decide) (tC hR q2 q3) (by decide) rfl rfl (Nat.le_of_ble_eq_true rfl) (fun τ9 h9 => ?_)
        have y1 := h9.1
        have hx : 0 ≤ x ∧ x < σ 1 5 := by omega
        have t10 : (Yq σ d kn) 10 x = τ9 55 x := by rw [← y1]; exact StG_10 hx
        have t11 : (Yq σ d kn) 11 x = τ9 56 x := by rw [← y1]; exact StG_11 hx
        refine x_iload (E_X10_goods_0 24 rfl) rfl ?_
        by_cases w0 : q = 0
        · subst w0
          refine x_tsw (t := 84) (E_X10_goods_0 25 rfl) (by decide) (by decide) (by decide) ?_
          refine x_aload_n (E_X10_goods_0 26 rfl) rfl ?_
          refine x_getR (E_X10_goods_0 27 rfl) fl_X10_46 rfl (by decide) rfl ?_
          refine x_iload_n (E_X10_goods_0 28 rfl) rfl ?_
          refine z_callVi (E_X10_goods_0 29 rfl) ml_X10_262 mv_X7_thereOf rfl (by decide) (by decide) (c_X7_thereOf_45 hx h9.2.2.1 hR.dok) (by decide) rfl rfl (Nat.le_of_ble_eq_true rfl) (fun z8 τ8 k8 => ?_)
          obtain ⟨z8, rfl⟩ := k8
          rw [y1] at z8
          refine z_iret (E_X10_goods_0 30 rfl) trivial ?_
          exact Or.inr (Or.inr ⟨by omega, by omega, z8, h9.sc, h9.rr hR⟩)
        by_cases w1 : q = 1
        · subst w1
          refine x_tsw (t := 93) (E_X10_goods_0 25 rfl) (by decide) (by decide) (by decide) ?_
          refine x_aload_n (E_X10_goods_0 31 rfl) rfl ?_
          refine x_getR (E_X10_goods_0 32 rfl) fl_X10_46 rfl (by decide) rfl ?_
          refine x_getR (E_X10_goods_0 33 rfl) fl_X10_265 rfl (by decide) rfl ?_
          refine x_iload_n (E_X10_goods_0 34 rfl) rfl ?_
          refine x_ialde (f := τ9 55) (E_X10_goods_0 35 rfl) rfl (by decide) (by omega) rfl ?_
          refine z_iret (E_X10_goods_0 36 rfl) trivial ?_
          exact Or.inr (Or.inr ⟨by omega, by omega, t10.symm, h9.sc, h9.rr hR⟩)
        by_cases w2 : q = 2
        · subst w2
          refine x_tsw (t := 103) (E_X10_goods_0 25 rfl) (by decide) (by decide) (by decide) ?_
          refine x_aload_n (E_X10_goods_0 37 rfl) rfl ?_
          refine x_getR (E_X10_goods_0 38 rfl) fl_X10_46 rfl (by decide) rfl ?_
          refine x_getR (E_X10_goods_0 39 rfl) fl_X10_268 rfl (by decide) rfl ?_
          refine x_iload_n (E_X10_goods_0 40 rfl) rfl ?_
          refine x_ialde (f := τ9 56) (E_X10_goods_0 41 rfl) rfl (by decide) (by omega) rfl ?_
          refine z_iret (E_X10_goods_0 42 rfl) trivial ?_
          exact Or.inr (Or.inr ⟨by omega, by omega, t11.symm, h9.sc, h9.rr hR⟩)
        by_cases w3 : q = 3
        · subst w3
          refine x_tsw (t := 113) (E_X10_goods_0 25 rfl) (by decide) (by decide) (by decide) ?_
          refine x_aload_n (E_X10_goods_0 43 rfl) rfl ?_
          refine x_getR (E_X10_goods_0 44 rfl) fl_X10_46 rfl (by decide) rfl ?_
          refine x_getR (E_X10_goods_0 45 rfl) fl_X10_271 rfl (by decide) rfl ?_
          refine x_iload_n (E_X10_goods_0 46 rfl) rfl ?_
          refine x_ialde (f := τ9 57) (E_X10_goods_0 47 rfl) rfl (by decide) (by omega) rfl ?_
          refine z_iret (E_X10_goods_0 48 rfl) trivial ?_
          exact Or.inr (Or.inr ⟨by omega, by omega, h9.2.1 x (by omega) (by omega), h9.sc, h9.rr hR⟩)
        by_cases w4 : q = 4
        · subst w4
          refine x_tsw (t := 123) (E_X10_goods_0 25 rfl) (by decide) (by decide) (by decide) ?_
          refine x_aload_n (E_X10_goods_0 49 rfl) rfl ?_
          refine x_getR (E_X10_goods_0 50 rfl) fl_X10_46 rfl (by decide) rfl ?_
          refine x_iload_n (E_X10_goods_0 51 rfl) rfl ?_
          refine z_callVi (E_X10_goods_0 52 rfl) ml_X10_274 mv_X7_overOf rfl (by decide) (by decide) (c_X7_overOf_45 hx h9.2.2.1 hR.dok (by rw [h9.1]; exact hR.yok) (by rw [h9.1]; exact h9.2.1)) (by decide) rfl rfl (Nat.le_of_ble_eq_true rfl) (fun z8 τ8 k8 => ?_)
          obtain ⟨z8, rfl⟩ := k8
          rw [y1] at z8
          refine z_iret (E_X10_goods_0 53 rfl) trivial ?_
          exact Or.inr (Or.inr ⟨by omega, by omega, z8, h9.sc, h9.rr hR⟩)
        refine x_tswD (t := 132) (E_X10_goods_0 25 rfl) (by omega) (by omega) (by decide) ?_
        refine x_aload_n (E_X10_goods_0 54 rfl) rfl ?_
        refine x_getR (E_X10_goods_0 55 rfl) fl_X10_46 rfl (by decide) rfl ?_
        refine x_iload_n (E_X10_goods_0 56 rfl) rfl ?_
        refine z_callVi (E_X10_goods_0 57 rfl) ml_X10_192 mv_X7_papersWithCasks rfl (by decide) (by decide) (c_X7_papersWithCasks q1 h9.2.2.1 hR.dok (by rw [h9.1]; exact hR.yok)) (by decide) rfl rfl (Nat.le_of_ble_eq_true rfl) (fun z8 τ8 k8 => ?_)
        obtain ⟨z8, rfl⟩ := k8
        rw [y1] at z8
        refine z_iret (E_X10_goods_0 58 rfl) trivial ?_
        have z7 : gdZ (σ 3) (Yq σ d kn) (nq σ) x q = sumS (fun w => if (Yq σ d kn) 1 w = 1 ∧ 0 < (Yq σ d kn) 4 w ∧ (x = -1 ∨ (Yq σ d kn) 3 w = x) then 1 else 0) (nq σ) := by
          unfold gdZ
          rw [if_neg (by omega), if_neg (by omega), if_neg (by omega), if_neg (by omega), if_neg (by omega)]
        exact Or.inr (Or.inr ⟨by omega, by omega, z8.trans z7.symm, h9.sc, h9.rr hR⟩)
      · refine x_if_ne (E_X10_goods_0 16 rfl) (by decide) (fun c9 => absurd c9 (by decide)) (fun _ => ?_)
        refine x_sipush (z := (-1002)) (E_X10_goods_0 17 rfl) (by decide) ?_
        refine z_iret (E_X10_goods_0 18 rfl) trivial ?_
        exact Or.inr (Or.inl ⟨by omega, by omega, rfl, rfl⟩)
    · refine x_if_eq (E_X10_goods_0 11 rfl) (by decide) (fun _ => ?_) (fun c9 => absurd (by decide) c9)
      refine x_sipush (z := (-1002)) (E_X10_goods_0 17 rfl) (by decide) ?_
      refine z_iret (E_X10_goods_0 18 rfl) trivial ?_
      exact Or.inr (Or.inl ⟨by omega, by omega, rfl, rfl⟩)
  · refine x_if_ne (E_X10_goods_0 4 rfl) (by decide) (fun c9 => absurd c9 (by decide)) (fun _ => ?_)
    refine x_sipush (z := (-1001)) (E_X10_goods_0 5 rfl) (by decide) ?_
    refine z_iret (E_X10_goods_0 6 rfl) trivial ?_
    exact Or.inl ⟨by omega, rfl, rfl⟩
theorem c_X11_over {dt : Nat → Int → Int} {hd : Int → Int → Int} {n : Nat} {nl x : Int} (hx : 0 ≤ x ∧ x < nl) (hL : LM dt hd n nl σ) (hD : DOk dt hd n nl) (hy : YOk n nl (dt 6) (SM n nl σ)) : CI l G M_X11_over 1 [vr 114, vi x] σ (IP (max 0 (onS (SM n nl σ) n x - thS (dt 6) (SM n nl σ) x)) σ) := by
  have o2 := onS_rg hy (l := x)
  have o3 := thM_rg hx hD hy
  have n120 := hD.1
  have nl12 := hD.2.1
  refine Ct.of rfl (Nat.le_of_ble_eq_true rfl) ?_
  refine x_aload_n (E_X11_over_0 0 rfl) rfl ?_
  refine x_iload_n (E_X11_over_0 1 rfl) rfl ?_
  refine z_callVi (E_X11_over_0 2 rfl) ml_X11_351 mv_X11_onPapers rfl (by decide) (by decide) (c_X11_onPapers (by omega) hL hD hy) (by decide) rfl rfl (Nat.le_of_ble_eq_true rfl) (fun z9 τ9 h9 => ?_)
  obtain ⟨rfl, rfl⟩ := h9
  refine x_aload_n (E_X11_over_0 3 rfl) rfl ?_
  refine x_iload_n (E_X11_over_0 4 rfl) rfl ?_
  refine z_callVi (E_X11_over_0 5 rfl) ml_X11_348 mv_X11_there rfl (by decide) (by decide) (c_X11_there hx hL hD) (by decide) rfl rfl (Nat.le_of_ble_eq_true rfl) (fun z9 τ9 h9 => ?_)
  obtain ⟨rfl, rfl⟩ := h9
  refine x_isub (E_X11_over_0 6 rfl) ?_
  refine x_istore_n (E_X11_over_0 7 rfl) rfl ?_
  refine x_iload_n (E_X11_over_0 8 rfl) rfl ?_
  refine x_if_ge (E_X11_over_0 9 rfl) (by omega) (fun c1 => ?_) (fun c1 => ?_)
  · refine x_iload_n (E_X11_over_0 12 rfl) rfl ?_
    refine z_iret (E_X11_over_0 13 rfl) trivial ?_
    exact ⟨by first | rfl | omega, rfl⟩
  · refine x_iconst (E_X11_over_0 10 rfl) ?_
    refine x_goto (E_X11_over_0 11 rfl) ?_
    refine z_iret (E_X11_over_0 13 rfl) trivial ?_
    exact ⟨by first | rfl | omega, rfl⟩
set_option maxHeartbeats 1000000 in
theorem c_X11_goods {x d kn q : Int} (hR : RR σ) (sc : Sc σ τ) (q1 : rgi x) (q2 : rgi d) (q3 : rgi kn) (q4 : rgi q) : CI l G M_X11_goods 4 [vr 114, vi x, vi d, vi kn, vi q] τ (fun z υ => (¬ (0 ≤ x ∧ x < σ 1 5) ∧ z = -1001 ∧ υ = τ) ∨ ((0 ≤ x ∧ x < σ 1 5) ∧ ¬ (((0 ≤ d ∧ d ≤ 2000) ∧ 0 ≤ kn ∧ kn ≤ σ 0 0) ∧ 0 ≤ q ∧ q ≤ 5) ∧ z = -1002 ∧ υ = τ) ∨ ((0 ≤ x ∧ x < σ 1 5) ∧ (((0 ≤ d ∧ d ≤ 2000) ∧ 0 ≤ kn ∧ kn ≤ σ 0 0) ∧ 0 ≤ q ∧ q ≤ 5) ∧ z = gdZ (σ 3) (Yq σ d kn) (nq σ) x q ∧ Sd τ υ)) := by
  have f0 : τ 114 0 = σ 0 0 := (sc.2 (114, 0) (by decide)).trans hR.1.1
  have f1 : τ 114 1 = σ 1 5 := (sc.2 (114, 1) (by decide)).trans hR.2.1.1
  have f9 : τ 114 9 = σ 7 9 := (sc.2 (114, 9) (by decide)).trans hR.2.2.2.1.1
  have f122 : τ 122 = σ 8 := (sc.1 122 (by decide)).trans hR.2.2.2.1.2.2.1.1
  have now := hR.now
  have nl12 := hR.lots
  have n120 := hR.n9
  refine Ct.of rfl (Nat.le_of_ble_eq_true rfl) ?_
  have loop : ∀ (υ : Nat → Int → Int), (0 ≤ x ∧ x < σ 1 5) → (((0 ≤ d ∧ d ≤ 2000) ∧ 0 ≤ kn ∧ kn ≤ σ 0 0) ∧ 0 ≤ q ∧ q ≤ 5) → TmP σ d kn τ υ → ∀ (k : Nat) (i s : Int), i = σ 7 9 - k → k ≤ (σ 7 9).toNat → s = sumS (fun w => if (Yq σ d kn) 1 w = 1 ∧ 0 < (Yq σ d kn) 4 w ∧ (x = -1 ∨ (Yq σ d kn) 3 w = x) then 1 else 0) i.toNat → XI l G M_X11_goods 4 56 [some (vr 114), some (vi x), some (vi d), some (vi kn), some (vi q), some (vi s), some (vi i)] [] υ (fun z υ => (¬ (0 ≤ x ∧ x < σ 1 5) ∧ z = -1001 ∧ υ = τ) ∨ ((0 ≤ x ∧ x < σ 1 5) ∧ ¬ (((0 ≤ d ∧ d ≤ 2000) ∧ 0 ≤ kn ∧ kn ≤ σ 0 0) ∧ 0 ≤ q ∧ q ≤ 5) ∧ z = -1002 ∧ υ = τ) ∨ ((0 ≤ x ∧ x < σ 1 5) ∧ (((0 ≤ d ∧ d ≤ 2000) ∧ 0 ≤ kn ∧ kn ≤ σ 0 0) ∧ 0 ≤ q ∧ q ≤ 5) ∧ z = gdZ (σ 3) (Yq σ d kn) (nq σ) x q ∧ Sd τ υ)) := by
    intro υ a1 a2 h9 k
    have y1 := h9.1
    have hy : YOk (nq σ) (σ 1 5) (σ 3) (Yq σ d kn) := hR.yok
    have e9 : υ 114 9 = σ 7 9 := (h9.2.2.2.2.2 9 (by decide)).trans f9
    induction k using Nat.strongRecOn with
    | _ k ih =>
    intro i s hi hk hs
    refine x_iload (E_X11_goods_0 29 rfl) rfl ?_
    refine x_aload_n (E_X11_goods_0 30 rfl) rfl ?_
    refine x_getIe (v := υ 114 9) (E_X11_goods_0 31 rfl) fl_X11_227 rfl (by decide) rfl ?_
    refine x_icmp_ge (E_X11_goods_0 32 rfl) (by omega) (by omega) (fun c1 => ?_) (fun c1 => ?_)
    · have hx : 0 ≤ x ∧ x < σ 1 5 := a1
      have hs8 : s = sumS (fun w => if (Yq σ d kn) 1 w = 1 ∧ 0 < (Yq σ d kn) 4 w ∧ (x = -1 ∨ (Yq σ d kn) 3 w = x) then 1 else 0) (nq σ) := by rw [hs, show i = σ 7 9 by omega]; rfl
      have t10 : (Yq σ d kn) 10 x = υ 150 x := by rw [← y1]; exact StG_10 hx
      have t11 : (Yq σ d kn) 11 x = υ 151 x := by rw [← y1]; exact StG_11 hx
      have hyM : YOk (nq σ) (σ 1 5) (dtq σ 6) (SM (nq σ) (σ 1 5) υ) := by rw [y1]; exact hR.yok
      refine x_iload (E_X11_goods_0 58 rfl) rfl ?_
      refine x_if_ne (E_X11_goods_0 59 rfl) (by omega) (fun c2 => ?_) (fun c2 => ?_)
      · refine x_iload (E_X11_goods_1 4 rfl) rfl ?_
        refine x_iconst (E_X11_goods_1 5 rfl) ?_
        refine x_icmp_ne (E_X11_goods_1 6 rfl) (by omega) (by decide) (fun c3 => ?_) (fun c3 => ?_)
        · refine x_iload (E_X11_goods_1 12 rfl) rfl ?_
          refine x_iconst (E_X11_goods_1 13 rfl) ?_
          refine x_icmp_ne (E_X11_goods_1 14 rfl) (by omega) (by decide) (fun c4 => ?_) (fun c4 => ?_)
          · refine x_iload (E_X11_goods_1 20 rfl) rfl ?_
            refine x_iconst (E_X11_goods_1 21 rfl) ?_
            refine x_icmp_ne (E_X11_goods_1 22 rfl) (by omega) (by decide) (fun c5 => ?_) (fun c5 => ?_)
            · refine x_iload (E_X11_goods_1 27 rfl) rfl ?_
              refine x_iconst (E_X11_goods_1 28 rfl) ?_
              refine x_icmp_ne (E_X11_goods_1 29 rfl) (by omega) (by decide) (fun c6 => ?_) (fun c6 => ?_)
              · refine x_iload (E_X11_goods_1 34 rfl) rfl ?_
                refine z_iret (E_X11_goods_1 35 rfl) trivial ?_
                have z7 : gdZ (σ 3) (Yq σ d kn) (nq σ) x q = sumS (fun w => if (Yq σ d kn) 1 w = 1 ∧ 0 < (Yq σ d kn) 4 w ∧ (x = -1 ∨ (Yq σ d kn) 3 w = x) then 1 else 0) (nq σ) := by
                  unfold gdZ
                  rw [if_neg (by omega), if_neg (by omega), if_neg (by omega), if_neg (by omega), if_neg (by omega)]
                exact Or.inr (Or.inr ⟨by omega, by omega, hs8.trans z7.symm, h9.sd⟩)
              · refine x_aload_n (E_X11_goods_1 30 rfl) rfl ?_
                refine x_iload_n (E_X11_goods_1 31 rfl) rfl ?_
                refine z_callVi (E_X11_goods_1 32 rfl) ml_X11_400 mv_X11_over rfl (by decide) (by decide) (c_X11_over hx h9.2.2.2.1 hR.dok hyM) (by decide) rfl rfl (Nat.le_of_ble_eq_true rfl) (fun z8 τ8 k8 => ?_)
                obtain ⟨z8, rfl⟩ := k8
                rw [y1] at z8
                refine x_goto (E_X11_goods_1 33 rfl) ?_
                refine z_iret (E_X11_goods_1 35 rfl) trivial ?_
                have z7 : gdZ (σ 3) (Yq σ d kn) (nq σ) x q = max 0 (onS (Yq σ d kn) (nq σ) x - thS (σ 3) (Yq σ d kn) x) := by
                  unfold gdZ
                  rw [if_neg (by omega), if_neg (by omega), if_neg (by omega), if_neg (by omega), if_pos (by omega)]
                exact Or.inr (Or.inr ⟨by omega, by omega, z8.trans z7.symm, h9.sd⟩)
            · refine x_aload_n (E_X11_goods_1 23 rfl) rfl ?_
              refine x_iload_n (E_X11_goods_1 24 rfl) rfl ?_
              refine z_callVi (E_X11_goods_1 25 rfl) ml_X11_351 mv_X11_onPapers rfl (by decide) (by decide) (c_X11_onPapers q1 h9.2.2.2.1 hR.dok hyM) (by decide) rfl rfl (Nat.le_of_ble_eq_true rfl) (fun z8 τ8 k8 => ?_)
              obtain ⟨z8, rfl⟩ := k8
              rw [y1] at z8
              refine x_goto (E_X11_goods_1 26 rfl) ?_
              refine z_iret (E_X11_goods_1 35 rfl) trivial ?_
              have z7 : gdZ (σ 3) (Yq σ d kn) (nq σ) x q = onS (Yq σ d kn) (nq σ) x := by
                unfold gdZ
                rw [if_neg (by omega), if_neg (by omega), if_neg (by omega), if_pos (by omega)]
              exact Or.inr (Or.inr ⟨by omega, by omega, z8.trans z7.symm, h9.sd⟩)
          · refine x_aload_n (E_X11_goods_1 15 rfl) rfl ?_
            refine x_getR (E_X11_goods_1 16 rfl) fl_X11_123 rfl (by decide) rfl ?_
            refine x_iload_n (E_X11_goods_1 17 rfl) rfl ?_
            refine x_ialde (f := υ 151) (E_X11_goods_1 18 rfl) rfl (by decide) (by omega) rfl ?_
            refine x_goto (E_X11_goods_1 19 rfl) ?_
            refine z_iret (E_X11_goods_1 35 rfl) trivial ?_
            have z7 : gdZ (σ 3) (Yq σ d kn) (nq σ) x q = (Yq σ d kn) 11 x := by
              unfold gdZ
              rw [if_neg (by omega), if_neg (by omega), if_pos (by omega)]
            exact Or.inr (Or.inr ⟨by omega, by omega, t11.symm.trans z7.symm, h9.sd⟩)
        · refine x_aload_n (E_X11_goods_1 7 rfl) rfl ?_
          refine x_getR (E_X11_goods_1 8 rfl) fl_X11_120 rfl (by decide) rfl ?_
          refine x_iload_n (E_X11_goods_1 9 rfl) rfl ?_
          refine x_ialde (f := υ 150) (E_X11_goods_1 10 rfl) rfl (by decide) (by omega) rfl ?_
          refine x_goto (E_X11_goods_1 11 rfl) ?_
          refine z_iret (E_X11_goods_1 35 rfl) trivial ?_
          have z7 : gdZ (σ 3) (Yq σ d kn) (nq σ) x q = (Yq σ d kn) 10 x := by
            unfold gdZ
            rw [if_neg (by omega), if_pos (by omega)]
          exact Or.inr (Or.inr ⟨by omega, by omega, t10.symm.trans z7.symm, h9.sd⟩)
      · refine x_aload_n (E_X11_goods_1 0 rfl) rfl ?_
        refine x_iload_n (E_X11_goods_1 1 rfl) rfl ?_
        refine z_callVi (E_X11_goods_1 2 rfl) ml_X11_348 mv_X11_there rfl (by decide) (by decide) (c_X11_there hx h9.2.2.2.1 hR.dok) (by decide) rfl rfl (Nat.le_of_ble_eq_true rfl) (fun z8 τ8 k8 => ?_)
        obtain ⟨z8, rfl⟩ := k8
        rw [y1] at z8
        refine x_goto (E_X11_goods_1 3 rfl) ?_
        refine z_iret (E_X11_goods_1 35 rfl) trivial ?_
        have z7 : gdZ (σ 3) (Yq σ d kn) (nq σ) x q = thS (σ 3) (Yq σ d kn) x := by
          unfold gdZ
          rw [if_pos (by omega)]
        exact Or.inr (Or.inr ⟨by omega, by omega, z8.trans z7.symm, h9.sd⟩)
    · have g1 : (Yq σ d kn) 1 i = υ 142 i := by rw [← y1]; exact StG_1 (by omega)
      have g2 := (hy.1 i).1
      refine x_iload (E_X11_goods_0 33 rfl) rfl ?_
      refine x_aload_n (E_X11_goods_0 34 rfl) rfl ?_
      refine x_getR (E_X11_goods_0 35 rfl) fl_X11_96 rfl (by decide) rfl ?_
      refine x_iload (E_X11_goods_0 36 rfl) rfl ?_
      refine x_zalde (f := υ 142) (E_X11_goods_0 37 rfl) rfl (by decide) (by omega) rfl ?_
      refine x_if_eq (E_X11_goods_0 38 rfl) (by omega) (fun c7 => ?_) (fun c7 => ?_)
      · refine x_iconst (E_X11_goods_0 52 rfl) ?_
        refine z_callSi (E_X11_goods_0 53 rfl) ml_X11_307 ms_X11_one (c_X11_one (by omega)) (by decide) rfl rfl (Nat.le_of_ble_eq_true rfl) (fun z9 τ9 h9 => ?_)
        obtain ⟨rfl, rfl⟩ := h9
        refine x_iadd (E_X11_goods_0 54 rfl) ?_
        refine x_istore (E_X11_goods_0 55 rfl) rfl ?_
        refine x_iinc (E_X11_goods_0 56 rfl) rfl rfl ?_
        refine x_goto (E_X11_goods_0 57 rfl) ?_
        refine ih (k - 1) (by omega) _ _ (by omega) (by omega) ?_
        rw [sumS_i (by omega), ← hs]
        first | (rw [if_pos (by omega)]) | (rw [if_neg (by omega)])
      · have th : (Yq σ d kn) 1 i = 1 := by omega
        have yr := hy.2.1 i th
        obtain ⟨d1, d2, d3, d4, d5, d6, d7, d8, d9⟩ : (0 ≤ i ∧ i < ((nq σ : Nat) : Int)) ∧ υ 142 i = 1 ∧ (Yq σ d kn) 3 i = υ 143 i ∧ (Yq σ d kn) 4 i = υ 144 i ∧ (Yq σ d kn) 5 i = υ 145 i ∧ (Yq σ d kn) 6 i = υ 146 i ∧ (Yq σ d kn) 7 i = υ 147 i ∧ (Yq σ d kn) 8 i = υ 148 i ∧ (Yq σ d kn) 9 i = υ 149 i := by
          have := StG_rd (show SM (nq σ) (σ 1 5) υ 1 i = 1 by rw [y1]; exact th)
          rw [← y1]
          exact this
        refine x_aload_n (E_X11_goods_0 39 rfl) rfl ?_
        refine x_getR (E_X11_goods_0 40 rfl) fl_X11_99 rfl (by decide) rfl ?_
        refine x_iload (E_X11_goods_0 41 rfl) rfl ?_
        refine x_ialde (f := υ 143) (E_X11_goods_0 42 rfl) rfl (by decide) (by omega) rfl ?_
        refine x_iload_n (E_X11_goods_0 43 rfl) rfl ?_
        refine x_icmp_ne (E_X11_goods_0 44 rfl) (by omega) (by omega) (fun c8 => ?_) (fun c8 => ?_)
        · refine x_iconst (E_X11_goods_0 52 rfl) ?_
          refine z_callSi (E_X11_goods_0 53 rfl) ml_X11_307 ms_X11_one (c_X11_one (by omega)) (by decide) rfl rfl (Nat.le_of_ble_eq_true rfl) (fun z9 τ9 h9 => ?_)
          obtain ⟨rfl, rfl⟩ := h9
          refine x_iadd (E_X11_goods_0 54 rfl) ?_
          refine x_istore (E_X11_goods_0 55 rfl) rfl ?_
          refine x_iinc (E_X11_goods_0 56 rfl) rfl rfl ?_
          refine x_goto (E_X11_goods_0 57 rfl) ?_
          refine ih (k - 1) (by omega) _ _ (by omega) (by omega) ?_
          rw [sumS_i (by omega), ← hs]
          first | (rw [if_pos (by omega)]) | (rw [if_neg (by omega)])
        · refine x_aload_n (E_X11_goods_0 45 rfl) rfl ?_
          refine x_getR (E_X11_goods_0 46 rfl) fl_X11_102 rfl (by decide) rfl ?_
          refine x_iload (E_X11_goods_0 47 rfl) rfl ?_
          refine x_ialde (f := υ 144) (E_X11_goods_0 48 rfl) rfl (by decide) (by omega) rfl ?_
          refine x_if_le (E_X11_goods_0 49 rfl) (by omega) (fun c9 => ?_) (fun c9 => ?_)
          · refine x_iconst (E_X11_goods_0 52 rfl) ?_
            refine z_callSi (E_X11_goods_0 53 rfl) ml_X11_307 ms_X11_one (c_X11_one (by omega)) (by decide) rfl rfl (Nat.le_of_ble_eq_true rfl) (fun z9 τ9 h9 => ?_)
            obtain ⟨rfl, rfl⟩ := h9
            refine x_iadd (E_X11_goods_0 54 rfl) ?_
            refine x_istore (E_X11_goods_0 55 rfl) rfl ?_
            refine x_iinc (E_X11_goods_0 56 rfl) rfl rfl ?_
            refine x_goto (E_X11_goods_0 57 rfl) ?_
            refine ih (k - 1) (by omega) _ _ (by omega) (by omega) ?_
            rw [sumS_i (by omega), ← hs]
            first | (rw [if_pos (by omega)]) | (rw [if_neg (by omega)])
          · refine x_iconst (E_X11_goods_0 50 rfl) ?_
            refine x_goto (E_X11_goods_0 51 rfl) ?_
            refine z_callSi (E_X11_goods_0 53 rfl) ml_X11_307 ms_X11_one (c_X11_one (by omega)) (by decide) rfl rfl (Nat.le_of_ble_eq_true rfl) (fun z9 τ9 h9 => ?_)
            obtain ⟨rfl, rfl⟩ := h9
            refine x_iadd (E_X11_goods_0 54 rfl) ?_
            refine x_istore (E_X11_goods_0 55 rfl) rfl ?_
            refine x_iinc (E_X11_goods_0 56 rfl) rfl rfl ?_
            refine x_goto (E_X11_goods_0 57 rfl) ?_
            refine ih (k - 1) (by omega) _ _ (by omega) (by omega) ?_
            rw [sumS_i (by omega), ← hs]
            first | (rw [if_pos (by omega)]) | (rw [if_neg (by omega)])
  refine x_aload_n (E_X11_goods_0 0 rfl) rfl ?_
  refine x_iload_n (E_X11_goods_0 1 rfl) rfl ?_
  refine z_callVi (E_X11_goods_0 2 rfl) ml_X11_224 mv_X11_noLot rfl (by decide) (by decide) (c_X11_noLot q1 (by omega)) (by decide) rfl rfl (Nat.le_of_ble_eq_true rfl) (fun z9 τ9 h9 => ?_)
  obtain ⟨rfl, ⟨rfl, c1⟩ | ⟨rfl, c1⟩⟩ := h9
  · refine x_if_eq (E_X11_goods_0 3 rfl) (by decide) (fun c9 => absurd c9 (by decide)) (fun _ => ?_)
    refine x_sipush (z := (-1001)) (E_X11_goods_0 4 rfl) (by decide) ?_
    refine z_iret (E_X11_goods_0 5 rfl) trivial ?_
    exact Or.inl ⟨by omega, rfl, rfl⟩
  · refine x_if_eq (E_X11_goods_0 3 rfl) (by decide) (fun _ => ?_) (fun c9 => absurd (by decide) c9)
    refine x_iload_n (E_X11_goods_0 6 rfl) rfl ?_
    refine z_callSi (E_X11_goods_0 7 rfl) ml_X11_326 ms_X11_isDay (c_X11_isDay (by omega)) (by decide) rfl rfl (Nat.le_of_ble_eq_true rfl) (fun z9 τ9 h9 => ?_)
    obtain ⟨rfl, ⟨rfl, c2⟩ | ⟨rfl, c2⟩⟩ := h9
    · refine x_if_eq (E_X11_goods_0 8 rfl) (by decide) (fun c9 => absurd c9 (by decide)) (fun _ => ?_)
      refine x_aload_n (E_X11_goods_0 9 rfl) rfl ?_
      refine x_iload_n (E_X11_goods_0 10 rfl) rfl ?_
      refine z_callVi (E_X11_goods_0 11 rfl) ml_X11_245 mv_X11_isKnown rfl (by decide) (by decide) (c_X11_isKnown q3 (by omega)) (by decide) rfl rfl (Nat.le_of_ble_eq_true rfl) (fun z9 τ9 h9 => ?_)
      obtain ⟨rfl, ⟨rfl, c3⟩ | ⟨rfl, c3⟩⟩ := h9
      · refine x_if_eq (E_X11_goods_0 12 rfl) (by decide) (fun c9 => absurd c9 (by decide)) (fun _ => ?_)
        refine x_iload (E_X11_goods_0 13 rfl) rfl ?_
        refine x_i2l (E_X11_goods_0 14 rfl) (by omega) ?_
        refine x_lconst (z := 0) (E_X11_goods_0 15 rfl) rfl ?_
        refine x_ldc2 (z := 5) (E_X11_goods_0 16 rfl) kc_X11_201 (by decide) ?_
        refine z_callSi (E_X11_goods_0 17 rfl) ml_X11_197 ms_X11_in (c_X11_in (by omega) (by omega) (by omega)) (by decide) rfl rfl (Nat.le_of_ble_eq_true rfl) (fun z9 τ9 h9 => ?_)
        obtain ⟨rfl, ⟨rfl, c4⟩ | ⟨rfl, c4⟩⟩ := h9
        · refine x_if_ne (E_X11_goods_0 18 rfl) (by decide) (fun _ => ?_) (fun c9 => absurd c9 (by decide))
          refine x_aload_n (E_X11_goods_0 21 rfl) rfl ?_
          refine x_iload_n (E_X11_goods_0 22 rfl) rfl ?_
          refine x_iload_n (E_X11_goods_0 23 rfl) rfl ?_
          refine z_callVv (E_X11_goods_0 24 rfl) ml_X11_378 mv_X11_tell rfl (by decide) (by decide) (tM hR sc q2 q3) (by decide) rfl rfl (Nat.le_of_ble_eq_true rfl) (fun τ9 h9 => ?_)
          refine x_iconst (E_X11_goods_0 25 rfl) ?_
          refine x_istore (E_X11_goods_0 26 rfl) rfl ?_
          refine x_iconst (E_X11_goods_0 27 rfl) ?_
          refine x_istore (E_X11_goods_0 28 rfl) rfl ?_
          exact loop τ9 (by omega) (by omega) h9 (σ 7 9).toNat 0 0 (by omega) (Nat.le_refl _) rfl
        · refine x_if_ne (E_X11_goods_0 18 rfl) (by decide) (fun c9 => absurd c9 (by decide)) (fun _ => ?_)
          refine x_sipush (z := (-1002)) (E_X11_goods_0 19 rfl) (by decide) ?_
          refine z_iret (E_X11_goods_0 20 rfl) trivial ?_
          exact Or.inr (Or.inl ⟨by omega, by omega, rfl, rfl⟩)
      · refine x_if_eq (E_X11_goods_0 12 rfl) (by decide) (fun _ => ?_) (fun c9 => absurd (by decide) c9)
        refine x_sipush (z := (-1002)) (E_X11_goods_0 19 rfl) (by decide) ?_
        refine z_iret (E_X11_goods_0 20 rfl) trivial ?_
        exact Or.inr (Or.inl ⟨by omega, by omega, rfl, rfl⟩)
    · refine x_if_eq (E_X11_goods_0 8 rfl) (by decide) (fun _ => ?_) (fun c9 => absurd (by decide) c9)
      refine x_sipush (z := (-1002)) (E_X11_goods_0 19 rfl) (by decide) ?_
      refine z_iret (E_X11_goods_0 20 rfl) trivial ?_
      exact Or.inr (Or.inl ⟨by omega, by omega, rfl, rfl⟩)
theorem gd_rg {n : Nat} {nl x q : Int} {ck : Int → Int} {y : Nat → Int → Int} (hy : YOk n nl ck y) (hx : 0 ≤ x ∧ x < nl) (hn : n ≤ 120) (hc : ck x ≤ 200) : rgi (gdZ ck y n x q) := by
  have a := hy.2.2 x
  have a' := a.2.2 hx.1 hx.2
  have b := onS_rg hy (l := x)
  have c := sumS_rg (f := fun w => if y 1 w = 1 ∧ 0 < y 4 w ∧ (x = -1 ∨ y 3 w = x) then 1 else 0) (B := 1) (n := n) (fun j _ _ => by split <;> omega)
  have t : 0 ≤ thS ck y x ∧ thS ck y x ≤ 200 := by unfold thS; omega
  unfold gdZ
  repeat' split
  all_goals omega
theorem pair_goods {x d kn q : Int} (hR : RR σ) (q1 : rgi x) (q2 : rgi d) (q3 : rgi kn) (q4 : rgi q) : Pair l G M_X10_goods 6 M_X11_goods 4 [vi x, vi d, vi kn, vi q] σ := pair3 hR (c_X10_goods hR q1 q2 q3 q4) (fun a _ => gd_rg hR.yok a hR.dok.1 (hR.dok.2.2.2.1 x a.1 a.2).2) (fun τ sc => c_X11_goods hR sc q1 q2 q3 q4)

set_option maxHeartbeats 1000000 in
theorem c_X10_stock {h so q : Int} (hR : RR σ) (q1 : rgi h) (q2 : rgi so) (q3 : rgi q) : CI l G M_X10_stock 6 [vr 0, vi h, vi so, vi q] σ (fun z υ => (¬ (0 ≤ h ∧ h ≤ 7) ∧ z = -1001 ∧ υ = σ) ∨ ((0 ≤ h ∧ h ≤ 7) ∧ ¬ ((0 ≤ so ∧ so ≤ 3) ∧ 0 ≤ q ∧ q ≤ 1) ∧ z = -1002 ∧ υ = σ) ∨ ((0 ≤ h ∧ h ≤ 7) ∧ ((0 ≤ so ∧ so ≤ 3) ∧ 0 ≤ q ∧ q ≤ 1) ∧ z = sumS (fun w => if (Yq σ (σ 0 0) (σ 0 0)) 1 w = 1 ∧ σ 2 ((Yq σ (σ 0 0) (σ 0 0)) 3 w) = so ∧ (if q = 0 then (Yq σ (σ 0 0) (σ 0 0)) 6 w else (Yq σ (σ 0 0) (σ 0 0)) 5 w) = h then (Yq σ (σ 0 0) (σ 0 0)) 4 w else 0) (nq σ) ∧ Sc σ υ ∧ RR υ)) := by
  have now := hR.now
  have nl12 := hR.lots
  have n120 := hR.n9
  refine Ct.of rfl (Nat.le_of_ble_eq_true rfl) ?_
  refine x_iload_n (E_X10_stock_0 0 rfl) rfl ?_
  refine z_callSi (E_X10_stock_0 1 rfl) ml_X10_104 ms_X10_isHouse (c_X10_isHouse (by omega)) (by decide) rfl rfl (Nat.le_of_ble_eq_true rfl) (fun z9 τ9 h9 => ?_)
  obtain ⟨rfl, ⟨rfl, c1⟩ | ⟨rfl, c1⟩⟩ := h9
  · refine x_if_ne (E_X10_stock_0 2 rfl) (by decide) (fun _ => ?_) (fun c9 => absurd c9 (by decide))
    refine x_iload_n (E_X10_stock_0 5 rfl) rfl ?_
    refine z_callSi (E_X10_stock_0 6 rfl) ml_X10_111 ms_X10_isSort (c_X10_isSort (by omega)) (by decide) rfl rfl (Nat.le_of_ble_eq_true rfl) (fun z9 τ9 h9 => ?_)
    obtain ⟨rfl, ⟨rfl, c2⟩ | ⟨rfl, c2⟩⟩ := h9
    · refine x_if_eq (E_X10_stock_0 7 rfl) (by decide) (fun c9 => absurd c9 (by decide)) (fun _ => ?_)
      refine x_iload_n (E_X10_stock_0 8 rfl) rfl ?_
      refine x_iconst (E_X10_stock_0 9 rfl) ?_
      refine x_iconst (E_X10_stock_0 10 rfl) ?_
      refine z_callSi (E_X10_stock_0 11 rfl) ml_X10_100 ms_X10_within (c_X10_within (by omega) (by omega) (by omega)) (by decide) rfl rfl (Nat.le_of_ble_eq_true rfl) (fun z9 τ9 h9 => ?_)
      obtain ⟨rfl, ⟨rfl, c3⟩ | ⟨rfl, c3⟩⟩ := h9
      · refine x_if_ne (E_X10_stock_0 12 rfl) (by decide) (fun _ => ?_) (fun c9 => absurd c9 (by decide))
        refine x_aload_n (E_X10_stock_0 15 rfl) rfl ?_
        refine x_getR (E_X10_stock_0 16 rfl) fl_X10_46 rfl (by decide) rfl ?_
        refine x_aload_n (E_X10_stock_0 17 rfl) rfl ?_
        refine x_getIe (v := σ 0 0) (E_X10_stock_0 18 rfl) fl_X10_7 rfl (by decide) rfl ?_
        refine x_aload_n (E_X10_stock_0 19 rfl) rfl ?_
        refine x_getIe (v := σ 0 0) (E_X10_stock_0 20 rfl) fl_X10_7 rfl (by decide) rfl ?_
        refine z_callVv (E_X10_stock_0 21 rfl) ml_X10_174 mv_X7_tell rfl (by decide) (by decide) (tC hR (by omega) (by omega)) (by decide) rfl rfl (Nat.le_of_ble_eq_true rfl) (fun τ9 h9 => ?_)
        have y1 := h9.1
        have e2 : τ9 2 = σ 2 := h9.2.2.2.1 2 (by decide)
        refine x_aload_n (E_X10_stock_0 22 rfl) rfl ?_
        refine x_getR (E_X10_stock_0 23 rfl) fl_X10_46 rfl (by decide) rfl ?_
        refine x_iload_n (E_X10_stock_0 24 rfl) rfl ?_
        refine x_iload_n (E_X10_stock_0 25 rfl) rfl ?_
        refine x_iload_n (E_X10_stock_0 26 rfl) rfl ?_
        refine x_if_ne (E_X10_stock_0 27 rfl) (by omega) (fun c4 => ?_) (fun c4 => ?_)
        · refine x_iconst (E_X10_stock_0 30 rfl) ?_
          refine z_callVi (E_X10_stock_0 31 rfl) ml_X10_289 mv_X7_casksOf rfl (by decide) (by decide) (c_X7_casksOf q1 q2 (by omega) (by rw [e2]; exact fun x a b => (hR.2.1.2.2.2 x a b).1) h9.2.2.1 hR.dok (by rw [h9.1]; exact hR.yok)) (by decide) rfl rfl (Nat.le_of_ble_eq_true rfl) (fun z8 τ8 k8 => ?_)
          obtain ⟨z8, rfl⟩ := k8
          rw [y1, e2] at z8
          refine z_iret (E_X10_stock_0 32 rfl) trivial ?_
          have zz : sumS (fun w => if (Yq σ (σ 0 0) (σ 0 0)) 1 w = 1 ∧ σ 2 ((Yq σ (σ 0 0) (σ 0 0)) 3 w) = so ∧ (if (0 : Int) = 1 then (Yq σ (σ 0 0) (σ 0 0)) 6 w else (Yq σ (σ 0 0) (σ 0 0)) 5 w) = h then (Yq σ (σ 0 0) (σ 0 0)) 4 w else 0) (nq σ) = sumS (fun w => if (Yq σ (σ 0 0) (σ 0 0)) 1 w = 1 ∧ σ 2 ((Yq σ (σ 0 0) (σ 0 0)) 3 w) = so ∧ (if q = 0 then (Yq σ (σ 0 0) (σ 0 0)) 6 w else (Yq σ (σ 0 0) (σ 0 0)) 5 w) = h then (Yq σ (σ 0 0) (σ 0 0)) 4 w else 0) (nq σ) := sumS_cong (fun j _ _ => by rw [if_neg (by decide : ¬ (0 : Int) = 1), if_neg (by omega : ¬ q = 0)])
          exact Or.inr (Or.inr ⟨by omega, by omega, z8.trans zz, h9.sc, h9.rr hR⟩)
        · refine x_iconst (E_X10_stock_0 28 rfl) ?_
          refine x_goto (E_X10_stock_0 29 rfl) ?_
          refine z_callVi (E_X10_stock_0 31 rfl) ml_X10_289 mv_X7_casksOf rfl (by decide) (by decide) (c_X7_casksOf q1 q2 (by omega) (by rw [e2]; exact fun x a b => (hR.2.1.2.2.2 x a b).1) h9.2.2.1 hR.dok (by rw [h9.1]; exact hR.yok)) (by decide) rfl rfl (Nat.le_of_ble_eq_true rfl) (fun z8 τ8 k8 => ?_)
          obtain ⟨z8, rfl⟩ := k8
          rw [y1, e2] at z8
          refine z_iret (E_X10_stock_0 32 rfl) trivial ?_
          have zz : sumS (fun w => if (Yq σ (σ 0 0) (σ 0 0)) 1 w = 1 ∧ σ 2 ((Yq σ (σ 0 0) (σ 0 0)) 3 w) = so ∧ (if (1 : Int) = 1 then (Yq σ (σ 0 0) (σ 0 0)) 6 w else (Yq σ (σ 0 0) (σ 0 0)) 5 w) = h then (Yq σ (σ 0 0) (σ 0 0)) 4 w else 0) (nq σ) = sumS (fun w => if (Yq σ (σ 0 0) (σ 0 0)) 1 w = 1 ∧ σ 2 ((Yq σ (σ 0 0) (σ 0 0)) 3 w) = so ∧ (if q = 0 then (Yq σ (σ 0 0) (σ 0 0)) 6 w else (Yq σ (σ 0 0) (σ 0 0)) 5 w) = h then (Yq σ (σ 0 0) (σ 0 0)) 4 w else 0) (nq σ) := sumS_cong (fun j _ _ => by rw [if_pos (by decide : (1 : Int) = 1), if_pos (by omega : q = 0)])
          exact Or.inr (Or.inr ⟨by omega, by omega, z8.trans zz, h9.sc, h9.rr hR⟩)
      · refine x_if_ne (E_X10_stock_0 12 rfl) (by decide) (fun c9 => absurd c9 (by decide)) (fun _ => ?_)
        refine x_sipush (z := (-1002)) (E_X10_stock_0 13 rfl) (by decide) ?_
        refine z_iret (E_X10_stock_0 14 rfl) trivial ?_
        exact Or.inr (Or.inl ⟨by omega, by omega, rfl, rfl⟩)
    · refine x_if_eq (E_X10_stock_0 7 rfl) (by decide) (fun _ => ?_) (fun c9 => absurd (by decide) c9)
      refine x_sipush (z := (-1002)) (E_X10_stock_0 13 rfl) (by decide) ?_
      refine z_iret (E_X10_stock_0 14 rfl) trivial ?_
      exact Or.inr (Or.inl ⟨by omega, by omega, rfl, rfl⟩)
  · refine x_if_ne (E_X10_stock_0 2 rfl) (by decide) (fun c9 => absurd c9 (by decide)) (fun _ => ?_)
    refine x_sipush (z := (-1001)) (E_X10_stock_0 3 rfl) (by decide) ?_
    refine z_iret (E_X10_stock_0 4 rfl) trivial ?_
    exact Or.inl ⟨by omega, rfl, rfl⟩
set_option maxHeartbeats 1000000 in
theorem c_X11_stock {h so q : Int} (hR : RR σ) (sc : Sc σ τ) (q1 : rgi h) (q2 : rgi so) (q3 : rgi q) : CI l G M_X11_stock 4 [vr 114, vi h, vi so, vi q] τ (fun z υ => (¬ (0 ≤ h ∧ h ≤ 7) ∧ z = -1001 ∧ υ = τ) ∨ ((0 ≤ h ∧ h ≤ 7) ∧ ¬ ((0 ≤ so ∧ so ≤ 3) ∧ 0 ≤ q ∧ q ≤ 1) ∧ z = -1002 ∧ υ = τ) ∨ ((0 ≤ h ∧ h ≤ 7) ∧ ((0 ≤ so ∧ so ≤ 3) ∧ 0 ≤ q ∧ q ≤ 1) ∧ z = sumS (fun w => if (Yq σ (σ 0 0) (σ 0 0)) 1 w = 1 ∧ σ 2 ((Yq σ (σ 0 0) (σ 0 0)) 3 w) = so ∧ (if q = 0 then (Yq σ (σ 0 0) (σ 0 0)) 6 w else (Yq σ (σ 0 0) (σ 0 0)) 5 w) = h then (Yq σ (σ 0 0) (σ 0 0)) 4 w else 0) (nq σ) ∧ Sd τ υ)) := by
  have f0 : τ 114 0 = σ 0 0 := (sc.2 (114, 0) (by decide)).trans hR.1.1
  have f1 : τ 114 1 = σ 1 5 := (sc.2 (114, 1) (by decide)).trans hR.2.1.1
  have f9 : τ 114 9 = σ 7 9 := (sc.2 (114, 9) (by decide)).trans hR.2.2.2.1.1
  have f122 : τ 122 = σ 8 := (sc.1 122 (by decide)).trans hR.2.2.2.1.2.2.1.1
  have now := hR.now
  have nl12 := hR.lots
  have n120 := hR.n9
  have f115 : τ 115 = σ 2 := (sc.1 115 (by decide)).trans hR.2.1.2.2.1.1
  refine Ct.of rfl (Nat.le_of_ble_eq_true rfl) ?_
  have loop : ∀ (υ : Nat → Int → Int), (0 ≤ h ∧ h ≤ 7) → ((0 ≤ so ∧ so ≤ 3) ∧ 0 ≤ q ∧ q ≤ 1) → TmP σ (σ 0 0) (σ 0 0) τ υ → ∀ (k : Nat) (i s : Int) (o : Option AV), i = σ 7 9 - k → k ≤ (σ 7 9).toNat → s = sumS (fun w => if (Yq σ (σ 0 0) (σ 0 0)) 1 w = 1 ∧ σ 2 ((Yq σ (σ 0 0) (σ 0 0)) 3 w) = so ∧ (if q = 0 then (Yq σ (σ 0 0) (σ 0 0)) 6 w else (Yq σ (σ 0 0) (σ 0 0)) 5 w) = h then (Yq σ (σ 0 0) (σ 0 0)) 4 w else 0) i.toNat → XI l G M_X11_stock 4 55 [some (vr 114), some (vi h), some (vi so), some (vi q), some (vi s), some (vi i), o] [] υ (fun z υ => (¬ (0 ≤ h ∧ h ≤ 7) ∧ z = -1001 ∧ υ = τ) ∨ ((0 ≤ h ∧ h ≤ 7) ∧ ¬ ((0 ≤ so ∧ so ≤ 3) ∧ 0 ≤ q ∧ q ≤ 1) ∧ z = -1002 ∧ υ = τ) ∨ ((0 ≤ h ∧ h ≤ 7) ∧ ((0 ≤ so ∧ so ≤ 3) ∧ 0 ≤ q ∧ q ≤ 1) ∧ z = sumS (fun w => if (Yq σ (σ 0 0) (σ 0 0)) 1 w = 1 ∧ σ 2 ((Yq σ (σ 0 0) (σ 0 0)) 3 w) = so ∧ (if q = 0 then (Yq σ (σ 0 0) (σ 0 0)) 6 w else (Yq σ (σ 0 0) (σ 0 0)) 5 w) = h then (Yq σ (σ 0 0) (σ 0 0)) 4 w else 0) (nq σ) ∧ Sd τ υ)) := by
    intro υ a1 a2 h9 k
    have y1 := h9.1
    have hy : YOk (nq σ) (σ 1 5) (σ 3) (Yq σ (σ 0 0) (σ 0 0)) := hR.yok
    have e9 : υ 114 9 = σ 7 9 := (h9.2.2.2.2.2 9 (by decide)).trans f9
    have e115 : υ 115 = σ 2 := (h9.2.2.2.2.1 115 (by decide)).trans f115
    induction k using Nat.strongRecOn with
    | _ k ih =>
    intro i s o hi hk hs
    have j122 : ∀ b, ((b = 1 ∧ ((Yq σ (σ 0 0) (σ 0 0)) 1 i = 1 ∧ σ 2 ((Yq σ (σ 0 0) (σ 0 0)) 3 i) = so ∧ (if q = 0 then (Yq σ (σ 0 0) (σ 0 0)) 6 i else (Yq σ (σ 0 0) (σ 0 0)) 5 i) = h) ∧ (Yq σ (σ 0 0) (σ 0 0)) 4 i = υ 144 i) ∨ (b = 0 ∧ ¬ ((Yq σ (σ 0 0) (σ 0 0)) 1 i = 1 ∧ σ 2 ((Yq σ (σ 0 0) (σ 0 0)) 3 i) = so ∧ (if q = 0 then (Yq σ (σ 0 0) (σ 0 0)) 6 i else (Yq σ (σ 0 0) (σ 0 0)) 5 i) = h))) → 0 ≤ i → i < σ 7 9 → XI l G M_X11_stock 4 122 [some (vr 114), some (vi h), some (vi so), some (vi q), some (vi s), some (vi i), some (vi b)] [] υ (fun z υ => (¬ (0 ≤ h ∧ h ≤ 7) ∧ z = -1001 ∧ υ = τ) ∨ ((0 ≤ h ∧ h ≤ 7) ∧ ¬ ((0 ≤ so ∧ so ≤ 3) ∧ 0 ≤ q ∧ q ≤ 1) ∧ z = -1002 ∧ υ = τ) ∨ ((0 ≤ h ∧ h ≤ 7) ∧ ((0 ≤ so ∧ so ≤ 3) ∧ 0 ≤ q ∧ q ≤ 1) ∧ z = sumS (fun w => if (Yq σ (σ 0 0) (σ 0 0)) 1 w = 1 ∧ σ 2 ((Yq σ (σ 0 0) (σ 0 0)) 3 w) = so ∧ (if q = 0 then (Yq σ (σ 0 0) (σ 0 0)) 6 w else (Yq σ (σ 0 0) (σ 0 0)) 5 w) = h then (Yq σ (σ 0 0) (σ 0 0)) 4 w else 0) (nq σ) ∧ Sd τ υ)) := by
      intro b hb i0 i1
      refine x_iload (E_X11_stock_1 4 rfl) rfl ?_
      refine x_iload (E_X11_stock_1 5 rfl) rfl ?_
      refine x_if_eq (E_X11_stock_1 6 rfl) (by omega) (fun c1 => ?_) (fun c1 => ?_)
      · refine x_iconst (E_X11_stock_1 12 rfl) ?_
        refine x_iadd (E_X11_stock_1 13 rfl) ?_
        refine x_istore (E_X11_stock_1 14 rfl) rfl ?_
        refine x_iinc (E_X11_stock_1 15 rfl) rfl rfl ?_
        refine x_goto (E_X11_stock_1 16 rfl) ?_
        refine ih (k - 1) (by omega) _ _ _ (by omega) (by omega) ?_
        rw [sumS_i (by omega), ← hs]
        rcases hb with ⟨b1, b2, b3⟩ | ⟨b1, b2⟩
        · exfalso; omega
        · rw [if_neg b2]
      · refine x_aload_n (E_X11_stock_1 7 rfl) rfl ?_
        refine x_getR (E_X11_stock_1 8 rfl) fl_X11_102 rfl (by decide) rfl ?_
        refine x_iload (E_X11_stock_1 9 rfl) rfl ?_
        refine x_ialde (f := υ 144) (E_X11_stock_1 10 rfl) rfl (by decide) (by omega) rfl ?_
        refine x_goto (E_X11_stock_1 11 rfl) ?_
        refine x_iadd (E_X11_stock_1 13 rfl) ?_
        refine x_istore (E_X11_stock_1 14 rfl) rfl ?_
        refine x_iinc (E_X11_stock_1 15 rfl) rfl rfl ?_
        refine x_goto (E_X11_stock_1 16 rfl) ?_
        refine ih (k - 1) (by omega) _ _ _ (by omega) (by omega) ?_
        rw [sumS_i (by omega), ← hs]
        rcases hb with ⟨b1, b2, b3⟩ | ⟨b1, b2⟩
        · rw [if_pos b2, b3]
        · exfalso; omega
    refine x_iload (E_X11_stock_0 29 rfl) rfl ?_
    refine x_aload_n (E_X11_stock_0 30 rfl) rfl ?_
    refine x_getIe (v := υ 114 9) (E_X11_stock_0 31 rfl) fl_X11_227 rfl (by decide) rfl ?_
    refine x_icmp_ge (E_X11_stock_0 32 rfl) (by omega) (by omega) (fun c1 => ?_) (fun c1 => ?_)
    · refine x_iload (E_X11_stock_1 17 rfl) rfl ?_
      refine z_iret (E_X11_stock_1 18 rfl) trivial ?_
      exact Or.inr (Or.inr ⟨by omega, by omega, by rw [hs, show i = σ 7 9 by omega]; rfl, h9.sd⟩)
    · have g1 : (Yq σ (σ 0 0) (σ 0 0)) 1 i = υ 142 i := by rw [← y1]; exact StG_1 (by omega)
      have g2 := (hy.1 i).1
      refine x_aload_n (E_X11_stock_0 33 rfl) rfl ?_
      refine x_getR (E_X11_stock_0 34 rfl) fl_X11_96 rfl (by decide) rfl ?_
      refine x_iload (E_X11_stock_0 35 rfl) rfl ?_
      refine x_zalde (f := υ 142) (E_X11_stock_0 36 rfl) rfl (by decide) (by omega) rfl ?_
      refine x_if_eq (E_X11_stock_0 37 rfl) (by omega) (fun c2 => ?_) (fun c2 => ?_)
      · refine x_iconst (E_X11_stock_1 2 rfl) ?_
        refine x_istore (E_X11_stock_1 3 rfl) rfl ?_
        exact j122 0 (Or.inr ⟨rfl, fun c => by omega⟩) (by omega) (by omega)
      · have th : (Yq σ (σ 0 0) (σ 0 0)) 1 i = 1 := by omega
        have yr := hy.2.1 i th
        obtain ⟨d1, d2, d3, d4, d5, d6, d7, d8, d9⟩ : (0 ≤ i ∧ i < ((nq σ : Nat) : Int)) ∧ υ 142 i = 1 ∧ (Yq σ (σ 0 0) (σ 0 0)) 3 i = υ 143 i ∧ (Yq σ (σ 0 0) (σ 0 0)) 4 i = υ 144 i ∧ (Yq σ (σ 0 0) (σ 0 0)) 5 i = υ 145 i ∧ (Yq σ (σ 0 0) (σ 0 0)) 6 i = υ 146 i ∧ (Yq σ (σ 0 0) (σ 0 0)) 7 i = υ 147 i ∧ (Yq σ (σ 0 0) (σ 0 0)) 8 i = υ 148 i ∧ (Yq σ (σ 0 0) (σ 0 0)) 9 i = υ 149 i := by
          have := StG_rd (show SM (nq σ) (σ 1 5) υ 1 i = 1 by rw [y1]; exact th)
          rw [← y1]
          exact this
        have so9 := (hR.2.1.2.2.2 (υ 143 i) (by omega) (by omega)).1
        have d3b : σ 2 ((Yq σ (σ 0 0) (σ 0 0)) 3 i) = υ 115 (υ 143 i) := by rw [d3, e115]
        have d3c := congrFun e115 (υ 143 i)
        refine x_aload_n (E_X11_stock_0 38 rfl) rfl ?_
        refine x_getR (E_X11_stock_0 39 rfl) fl_X11_7 rfl (by decide) rfl ?_
        refine x_aload_n (E_X11_stock_0 40 rfl) rfl ?_
        refine x_getR (E_X11_stock_0 41 rfl) fl_X11_99 rfl (by decide) rfl ?_
        refine x_iload (E_X11_stock_0 42 rfl) rfl ?_
        refine x_ialde (f := υ 143) (E_X11_stock_0 43 rfl) rfl (by decide) (by omega) rfl ?_
        refine x_ialde (f := υ 115) (E_X11_stock_0 44 rfl) rfl (by decide) (by omega) rfl ?_
        refine x_iload_n (E_X11_stock_0 45 rfl) rfl ?_
        refine x_icmp_ne (E_X11_stock_0 46 rfl) (by omega) (by omega) (fun c3 => ?_) (fun c3 => ?_)
        · refine x_iconst (E_X11_stock_1 2 rfl) ?_
          refine x_istore (E_X11_stock_1 3 rfl) rfl ?_
          exact j122 0 (Or.inr ⟨rfl, fun c => by omega⟩) (by omega) (by omega)
        · refine x_iload_n (E_X11_stock_0 47 rfl) rfl ?_
          refine x_if_ne (E_X11_stock_0 48 rfl) (by omega) (fun c4 => ?_) (fun c4 => ?_)
          · refine x_aload_n (E_X11_stock_0 54 rfl) rfl ?_
            refine x_getR (E_X11_stock_0 55 rfl) fl_X11_105 rfl (by decide) rfl ?_
            refine x_iload (E_X11_stock_0 56 rfl) rfl ?_
            refine x_ialde (f := υ 145) (E_X11_stock_0 57 rfl) rfl (by decide) (by omega) rfl ?_
            refine x_iload_n (E_X11_stock_0 58 rfl) rfl ?_
            refine x_icmp_ne (E_X11_stock_0 59 rfl) (by omega) (by omega) (fun c5 => ?_) (fun c5 => ?_)
            · refine x_iconst (E_X11_stock_1 2 rfl) ?_
              refine x_istore (E_X11_stock_1 3 rfl) rfl ?_
              exact j122 0 (Or.inr ⟨rfl, fun c => by rw [if_neg (by omega)] at c; omega⟩) (by omega) (by omega)
            · refine x_iconst (E_X11_stock_1 0 rfl) ?_
              refine x_goto (E_X11_stock_1 1 rfl) ?_
              refine x_istore (E_X11_stock_1 3 rfl) rfl ?_
              exact j122 1 (Or.inl ⟨rfl, ⟨th, by omega, by rw [if_neg (by omega)]; omega⟩, d4⟩) (by omega) (by omega)
          · refine x_aload_n (E_X11_stock_0 49 rfl) rfl ?_
            refine x_getR (E_X11_stock_0 50 rfl) fl_X11_108 rfl (by decide) rfl ?_
            refine x_iload (E_X11_stock_0 51 rfl) rfl ?_
            refine x_ialde (f := υ 146) (E_X11_stock_0 52 rfl) rfl (by decide) (by omega) rfl ?_
            refine x_goto (E_X11_stock_0 53 rfl) ?_
            refine x_iload_n (E_X11_stock_0 58 rfl) rfl ?_
            refine x_icmp_ne (E_X11_stock_0 59 rfl) (by omega) (by omega) (fun c6 => ?_) (fun c6 => ?_)
            · refine x_iconst (E_X11_stock_1 2 rfl) ?_
              refine x_istore (E_X11_stock_1 3 rfl) rfl ?_
              exact j122 0 (Or.inr ⟨rfl, fun c => by rw [if_pos (by omega)] at c; omega⟩) (by omega) (by omega)
            · refine x_iconst (E_X11_stock_1 0 rfl) ?_
              refine x_goto (E_X11_stock_1 1 rfl) ?_
              refine x_istore (E_X11_stock_1 3 rfl) rfl ?_
              exact j122 1 (Or.inl ⟨rfl, ⟨th, by omega, by rw [if_pos (by omega)]; omega⟩, d4⟩) (by omega) (by omega)
  refine x_iload_n (E_X11_stock_0 0 rfl) rfl ?_
  refine z_callSi (E_X11_stock_0 1 rfl) ml_X11_213 ms_X11_isHouse (c_X11_isHouse (by omega)) (by decide) rfl rfl (Nat.le_of_ble_eq_true rfl) (fun z9 τ9 h9 => ?_)
  obtain ⟨rfl, ⟨rfl, c1⟩ | ⟨rfl, c1⟩⟩ := h9
  · refine x_if_ne (E_X11_stock_0 2 rfl) (by decide) (fun _ => ?_) (fun c9 => absurd c9 (by decide))
    refine x_iload_n (E_X11_stock_0 5 rfl) rfl ?_
    refine x_i2l (E_X11_stock_0 6 rfl) (by omega) ?_
    refine x_lconst (z := 0) (E_X11_stock_0 7 rfl) rfl ?_
    refine x_ldc2 (z := 3) (E_X11_stock_0 8 rfl) kc_X11_220 (by decide) ?_
    refine z_callSi (E_X11_stock_0 9 rfl) ml_X11_197 ms_X11_in (c_X11_in (by omega) (by omega) (by omega)) (by decide) rfl rfl (Nat.le_of_ble_eq_true rfl) (fun z9 τ9 h9 => ?_)
    obtain ⟨rfl, ⟨rfl, c2⟩ | ⟨rfl, c2⟩⟩ := h9
    · refine x_if_eq (E_X11_stock_0 10 rfl) (by decide) (fun c9 => absurd c9 (by decide)) (fun _ => ?_)
      refine x_iload_n (E_X11_stock_0 11 rfl) rfl ?_
      refine x_i2l (E_X11_stock_0 12 rfl) (by omega) ?_
      refine x_lconst (z := 0) (E_X11_stock_0 13 rfl) rfl ?_
      refine x_lconst (z := 1) (E_X11_stock_0 14 rfl) rfl ?_
      refine z_callSi (E_X11_stock_0 15 rfl) ml_X11_197 ms_X11_in (c_X11_in (by omega) (by omega) (by omega)) (by decide) rfl rfl (Nat.le_of_ble_eq_true rfl) (fun z9 τ9 h9 => ?_)
      obtain ⟨rfl, ⟨rfl, c3⟩ | ⟨rfl, c3⟩⟩ := h9
      · refine x_if_ne (E_X11_stock_0 16 rfl) (by decide) (fun _ => ?_) (fun c9 => absurd c9 (by decide))
        refine x_aload_n (E_X11_stock_0 19 rfl) rfl ?_
        refine x_aload_n (E_X11_stock_0 20 rfl) rfl ?_
        refine x_getIe (v := τ 114 0) (E_X11_stock_0 21 rfl) fl_X11_205 rfl (by decide) rfl ?_
        refine x_aload_n (E_X11_stock_0 22 rfl) rfl ?_
        refine x_getIe (v := τ 114 0) (E_X11_stock_0 23 rfl) fl_X11_205 rfl (by decide) rfl ?_
        rw [f0]
        refine z_callVv (E_X11_stock_0 24 rfl) ml_X11_378 mv_X11_tell rfl (by decide) (by decide) (tM hR sc (by omega) (by omega)) (by decide) rfl rfl (Nat.le_of_ble_eq_true rfl) (fun τ9 h9 => ?_)
        refine x_iconst (E_X11_stock_0 25 rfl) ?_
        refine x_istore (E_X11_stock_0 26 rfl) rfl ?_
        refine x_iconst (E_X11_stock_0 27 rfl) ?_
        refine x_istore (E_X11_stock_0 28 rfl) rfl ?_
        exact loop τ9 (by omega) (by omega) h9 (σ 7 9).toNat 0 0 none (by omega) (Nat.le_refl _) rfl
      · refine x_if_ne (E_X11_stock_0 16 rfl) (by decide) (fun c9 => absurd c9 (by decide)) (fun _ => ?_)
        refine x_sipush (z := (-1002)) (E_X11_stock_0 17 rfl) (by decide) ?_
        refine z_iret (E_X11_stock_0 18 rfl) trivial ?_
        exact Or.inr (Or.inl ⟨by omega, by omega, rfl, rfl⟩)
    · refine x_if_eq (E_X11_stock_0 10 rfl) (by decide) (fun _ => ?_) (fun c9 => absurd (by decide) c9)
      refine x_sipush (z := (-1002)) (E_X11_stock_0 17 rfl) (by decide) ?_
      refine z_iret (E_X11_stock_0 18 rfl) trivial ?_
      exact Or.inr (Or.inl ⟨by omega, by omega, rfl, rfl⟩)
  · refine x_if_ne (E_X11_stock_0 2 rfl) (by decide) (fun c9 => absurd c9 (by decide)) (fun _ => ?_)
    refine x_sipush (z := (-1001)) (E_X11_stock_0 3 rfl) (by decide) ?_
    refine z_iret (E_X11_stock_0 4 rfl) trivial ?_
    exact Or.inl ⟨by omega, rfl, rfl⟩
theorem pair_stock {h so q : Int} (hR : RR σ) (q1 : rgi h) (q2 : rgi so) (q3 : rgi q) : Pair l G M_X10_stock 6 M_X11_stock 4 [vi h, vi so, vi q] σ := by
  refine pair3 hR (c_X10_stock hR q1 q2 q3) (fun _ _ => ?_) (fun τ sc => c_X11_stock hR sc q1 q2 q3)
  have n9 := hR.n9
  have hy : YOk (nq σ) (σ 1 5) (σ 3) (Yq σ (σ 0 0) (σ 0 0)) := hR.yok
  have := sumS_rg (f := (fun w => if (Yq σ (σ 0 0) (σ 0 0)) 1 w = 1 ∧ σ 2 ((Yq σ (σ 0 0) (σ 0 0)) 3 w) = so ∧ (if q = 0 then (Yq σ (σ 0 0) (σ 0 0)) 6 w else (Yq σ (σ 0 0) (σ 0 0)) 5 w) = h then (Yq σ (σ 0 0) (σ 0 0)) 4 w else 0)) (B := 200) (n := nq σ) (fun j _ _ => by
    by_cases c : (Yq σ (σ 0 0) (σ 0 0)) 1 j = 1
    · have := hy.2.1 j c
      repeat' split
      all_goals omega
    · rw [if_neg (fun h => c h.1)]; omega)
  omega

