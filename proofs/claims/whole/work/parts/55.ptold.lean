/-! told, count -/
variable {l : Launch} {G : GC} {σ τ : Nat → Int → Int}

/-- the answer of told -/
def tdZ (σ : Nat → Int → Int) (i q : Int) : Int := if q = 0 then σ 8 i else if q = 1 then σ 9 i else if q = 2 then σ 10 i else if q = 3 then σ 11 i else if q = 4 then σ 12 i else if q = 5 then σ 13 i else if q = 6 then σ 14 i else if q = 7 then voidS (σ 8) (σ 11) (σ 10) (σ 0 0) (nq σ) i else if q = 8 then (Yq σ (σ 0 0) (σ 0 0)) 2 i else -1002
theorem tdZ_d {i q : Int} (h : q < 0 ∨ 8 < q) : tdZ σ i q = -1002 := by
  unfold tdZ
  rw [if_neg (by omega), if_neg (by omega), if_neg (by omega), if_neg (by omega), if_neg (by omega), if_neg (by omega), if_neg (by omega), if_neg (by omega), if_neg (by omega)]
set_option maxHeartbeats 1000000 in
theorem c_X10_told {i q : Int} (hR : RR σ) (q1 : rgi i) (q2 : rgi q) : CI l G M_X10_told 6 [vr 0, vi i, vi q] σ (fun z υ => (¬ (0 ≤ i ∧ i < σ 7 9) ∧ z = -1001 ∧ υ = σ) ∨ ((0 ≤ i ∧ i < σ 7 9) ∧ ¬ True ∧ z = -1002 ∧ υ = σ) ∨ ((0 ≤ i ∧ i < σ 7 9) ∧ True ∧ z = tdZ σ i q ∧ Sc σ υ ∧ RR υ)) := by
  have now := hR.now
  have nl12 := hR.lots
  have n120 := hR.n9
  refine Ct.of rfl (Nat.le_of_ble_eq_true rfl) ?_
  refine x_aload_n (E_X10_told_0 0 rfl) rfl ?_
  refine x_getR (E_X10_told_0 1 rfl) fl_X10_23 rfl (by decide) rfl ?_
  refine x_iload_n (E_X10_told_0 2 rfl) rfl ?_
  refine z_callVi (E_X10_told_0 3 rfl) ml_X10_144 mv_X2_has rfl (by decide) (by decide) (c_X2_has q1 (by omega)) (by decide) rfl rfl (Nat.le_of_ble_eq_true rfl) (fun z9 τ9 h9 => ?_)
  obtain ⟨rfl, ⟨rfl, c1⟩ | ⟨rfl, c1⟩⟩ := h9
  · refine x_if_ne (E_X10_told_0 4 rfl) (by decide) (fun _ => ?_) (fun c9 => absurd c9 (by decide))
    refine x_iload_n (E_X10_told_0 7 rfl) rfl ?_
    by_cases w0 : q = 0
    · subst w0
      refine x_tsw (t := 68) (E_X10_told_0 8 rfl) (by decide) (by decide) (by decide) ?_
      refine x_aload_n (E_X10_told_0 9 rfl) rfl ?_
      refine x_getR (E_X10_told_0 10 rfl) fl_X10_23 rfl (by decide) rfl ?_
      refine x_getR (E_X10_told_0 11 rfl) fl_X10_145 rfl (by decide) rfl ?_
      refine x_iload_n (E_X10_told_0 12 rfl) rfl ?_
      refine x_ialde (f := σ 8) (E_X10_told_0 13 rfl) rfl (by decide) (by omega) rfl ?_
      refine z_iret (E_X10_told_0 14 rfl) trivial ?_
      exact Or.inr (Or.inr ⟨by omega, trivial, rfl, ⟨fun _ _ => rfl, fun _ _ => rfl⟩, hR⟩)
    by_cases w1 : q = 1
    · subst w1
      refine x_tsw (t := 78) (E_X10_told_0 8 rfl) (by decide) (by decide) (by decide) ?_
      refine x_aload_n (E_X10_told_0 15 rfl) rfl ?_
      refine x_getR (E_X10_told_0 16 rfl) fl_X10_23 rfl (by decide) rfl ?_
      refine x_getR (E_X10_told_0 17 rfl) fl_X10_148 rfl (by decide) rfl ?_
      refine x_iload_n (E_X10_told_0 18 rfl) rfl ?_
      refine x_ialde (f := σ 9) (E_X10_told_0 19 rfl) rfl (by decide) (by omega) rfl ?_
      refine z_iret (E_X10_told_0 20 rfl) trivial ?_
      exact Or.inr (Or.inr ⟨by omega, trivial, rfl, ⟨fun _ _ => rfl, fun _ _ => rfl⟩, hR⟩)
    by_cases w2 : q = 2
    · subst w2
      refine x_tsw (t := 88) (E_X10_told_0 8 rfl) (by decide) (by decide) (by decide) ?_
      refine x_aload_n (E_X10_told_0 21 rfl) rfl ?_
      refine x_getR (E_X10_told_0 22 rfl) fl_X10_23 rfl (by decide) rfl ?_
      refine x_getR (E_X10_told_0 23 rfl) fl_X10_151 rfl (by decide) rfl ?_
      refine x_iload_n (E_X10_told_0 24 rfl) rfl ?_
      refine x_ialde (f := σ 10) (E_X10_told_0 25 rfl) rfl (by decide) (by omega) rfl ?_
      refine z_iret (E_X10_told_0 26 rfl) trivial ?_
      exact Or.inr (Or.inr ⟨by omega, trivial, rfl, ⟨fun _ _ => rfl, fun _ _ => rfl⟩, hR⟩)
    by_cases w3 : q = 3
    · subst w3
      refine x_tsw (t := 98) (E_X10_told_0 8 rfl) (by decide) (by decide) (by decide) ?_
      refine x_aload_n (E_X10_told_0 27 rfl) rfl ?_
      refine x_getR (E_X10_told_0 28 rfl) fl_X10_23 rfl (by decide) rfl ?_
      refine x_getR (E_X10_told_0 29 rfl) fl_X10_154 rfl (by decide) rfl ?_
      refine x_iload_n (E_X10_told_0 30 rfl) rfl ?_
      refine x_ialde (f := σ 11) (E_X10_told_0 31 rfl) rfl (by decide) (by omega) rfl ?_
      refine z_iret (E_X10_told_0 32 rfl) trivial ?_
      exact Or.inr (Or.inr ⟨by omega, trivial, rfl, ⟨fun _ _ => rfl, fun _ _ => rfl⟩, hR⟩)
    by_cases w4 : q = 4
    · subst w4
      refine x_tsw (t := 108) (E_X10_told_0 8 rfl) (by decide) (by decide) (by decide) ?_
      refine x_aload_n (E_X10_told_0 33 rfl) rfl ?_
      refine x_getR (E_X10_told_0 34 rfl) fl_X10_23 rfl (by decide) rfl ?_
      refine x_getR (E_X10_told_0 35 rfl) fl_X10_157 rfl (by decide) rfl ?_
      refine x_iload_n (E_X10_told_0 36 rfl) rfl ?_
      refine x_ialde (f := σ 12) (E_X10_told_0 37 rfl) rfl (by decide) (by omega) rfl ?_
      refine z_iret (E_X10_told_0 38 rfl) trivial ?_
      exact Or.inr (Or.inr ⟨by omega, trivial, rfl, ⟨fun _ _ => rfl, fun _ _ => rfl⟩, hR⟩)
    by_cases w5 : q = 5
    · subst w5
      refine x_tsw (t := 118) (E_X10_told_0 8 rfl) (by decide) (by decide) (by decide) ?_
      refine x_aload_n (E_X10_told_0 39 rfl) rfl ?_
      refine x_getR (E_X10_told_0 40 rfl) fl_X10_23 rfl (by decide) rfl ?_
      refine x_getR (E_X10_told_0 41 rfl) fl_X10_160 rfl (by decide) rfl ?_
      refine x_iload_n (E_X10_told_0 42 rfl) rfl ?_
      refine x_ialde (f := σ 13) (E_X10_told_0 43 rfl) rfl (by decide) (by omega) rfl ?_
      refine z_iret (E_X10_told_0 44 rfl) trivial ?_
      exact Or.inr (Or.inr ⟨by omega, trivial, rfl, ⟨fun _ _ => rfl, fun _ _ => rfl⟩, hR⟩)
    by_cases w6 : q = 6
    · subst w6
      refine x_tsw (t := 128) (E_X10_told_0 8 rfl) (by decide) (by decide) (by decide) ?_
      refine x_aload_n (E_X10_told_0 45 rfl) rfl ?_
      refine x_getR (E_X10_told_0 46 rfl) fl_X10_23 rfl (by decide) rfl ?_
      refine x_getR (E_X10_told_0 47 rfl) fl_X10_163 rfl (by decide) rfl ?_
      refine x_iload_n (E_X10_told_0 48 rfl) rfl ?_
      refine x_ialde (f := σ 14) (E_X10_told_0 49 rfl) rfl (by decide) (by omega) rfl ?_
      refine z_iret (E_X10_told_0 50 rfl) trivial ?_
      exact Or.inr (Or.inr ⟨by omega, trivial, rfl, ⟨fun _ _ => rfl, fun _ _ => rfl⟩, hR⟩)
    by_cases w7 : q = 7
    · subst w7
      refine x_tsw (t := 138) (E_X10_told_0 8 rfl) (by decide) (by decide) (by decide) ?_
      refine x_aload_n (E_X10_told_0 51 rfl) rfl ?_
      refine x_getR (E_X10_told_0 52 rfl) fl_X10_23 rfl (by decide) rfl ?_
      refine x_aload_n (E_X10_told_0 53 rfl) rfl ?_
      refine x_getIe (v := σ 0 0) (E_X10_told_0 54 rfl) fl_X10_7 rfl (by decide) rfl ?_
      refine z_callVv (E_X10_told_0 55 rfl) ml_X10_166 mv_X2_know rfl (by decide) (by decide) (c_X2_know (by omega) (by omega) (fun i a b => (hR.line a b).1) (fun i a b c => (hR.line a b).2.2.2.1 c) (fun i a b => hR.tol.1 i a (by omega)) (fun i j a b c => hR.tol.2.1 i j a b (by omega))) (by decide) rfl rfl (Nat.le_of_ble_eq_true rfl) (fun τ9 h9 => ?_)
      have kv : ∀ i, 0 ≤ i → i < σ 7 9 → τ9 16 i = voidS (σ 8) (σ 11) (σ 10) (σ 0 0) (nq σ) i := h9.2.2.1
      have s9 := h9.sd
      have kv9 := kv i (by omega) (by omega)
      have vr9 := voidS_rg (kd := σ 8) (tg := σ 11) (td := σ 10) (kn := σ 0 0) (n := nq σ) i
      refine x_aload_n (E_X10_told_0 56 rfl) rfl ?_
      refine x_getR (E_X10_told_0 57 rfl) fl_X10_23 rfl (by decide) rfl ?_
      refine x_getR (E_X10_told_0 58 rfl) fl_X10_170 rfl (by decide) rfl ?_
      refine x_iload_n (E_X10_told_0 59 rfl) rfl ?_
      refine x_zalde (f := τ9 16) (E_X10_told_1 0 rfl) rfl (by decide) (by omega) rfl ?_
      refine x_if_eq (E_X10_told_1 1 rfl) (by omega) (fun c2 => ?_) (fun c2 => ?_)
      · refine x_iconst (E_X10_told_1 4 rfl) ?_
        refine z_iret (E_X10_told_1 5 rfl) trivial ?_
        exact Or.inr (Or.inr ⟨by omega, trivial, (show 0 = voidS (σ 8) (σ 11) (σ 10) (σ 0 0) (nq σ) i by omega), s9.1, s9.rr hR⟩)
      · refine x_iconst (E_X10_told_1 2 rfl) ?_
        refine x_goto (E_X10_told_1 3 rfl) ?_
        refine z_iret (E_X10_told_1 5 rfl) trivial ?_
        exact Or.inr (Or.inr ⟨by omega, trivial, (show 1 = voidS (σ 8) (σ 11) (σ 10) (σ 0 0) (nq σ) i by omega), s9.1, s9.rr hR⟩)
    by_cases w8 : q = 8
    · subst w8
      refine x_tsw (t := 167) (E_X10_told_0 8 rfl) (by decide) (by decide) (by decide) ?_
      refine x_aload_n (E_X10_told_1 6 rfl) rfl ?_
      refine x_getR (E_X10_told_1 7 rfl) fl_X10_46 rfl (by decide) rfl ?_
      refine x_aload_n (E_X10_told_1 8 rfl) rfl ?_
      refine x_getIe (v := σ 0 0) (E_X10_told_1 9 rfl) fl_X10_7 rfl (by decide) rfl ?_
      refine x_aload_n (E_X10_told_1 10 rfl) rfl ?_
      refine x_getIe (v := σ 0 0) (E_X10_told_1 11 rfl) fl_X10_7 rfl (by decide) rfl ?_
      refine z_callVv (E_X10_told_1 12 rfl) ml_X10_174 mv_X7_tell rfl (by decide) (by decide) (tC hR (by omega) (by omega)) (by decide) rfl rfl (Nat.le_of_ble_eq_true rfl) (fun τ9 h9 => ?_)
      have y1 := h9.1
      have hy : YOk (nq σ) (σ 1 5) (σ 3) (Yq σ (σ 0 0) (σ 0 0)) := hR.yok
      have g1 : (Yq σ (σ 0 0) (σ 0 0)) 2 i = τ9 47 i := by rw [← y1]; exact StG_2 (by omega)
      have g2 := (hy.1 i).2
      refine x_aload_n (E_X10_told_1 13 rfl) rfl ?_
      refine x_getR (E_X10_told_1 14 rfl) fl_X10_46 rfl (by decide) rfl ?_
      refine x_getR (E_X10_told_1 15 rfl) fl_X10_178 rfl (by decide) rfl ?_
      refine x_iload_n (E_X10_told_1 16 rfl) rfl ?_
      refine x_zalde (f := τ9 47) (E_X10_told_1 17 rfl) rfl (by decide) (by omega) rfl ?_
      refine x_if_eq (E_X10_told_1 18 rfl) (by omega) (fun c3 => ?_) (fun c3 => ?_)
      · refine x_iconst (E_X10_told_1 21 rfl) ?_
        refine z_iret (E_X10_told_1 22 rfl) trivial ?_
        exact Or.inr (Or.inr ⟨by omega, trivial, (show 0 = (Yq σ (σ 0 0) (σ 0 0)) 2 i by omega), h9.sc, h9.rr hR⟩)
      · refine x_iconst (E_X10_told_1 19 rfl) ?_
        refine x_goto (E_X10_told_1 20 rfl) ?_
        refine z_iret (E_X10_told_1 22 rfl) trivial ?_
        exact Or.inr (Or.inr ⟨by omega, trivial, (show 1 = (Yq σ (σ 0 0) (σ 0 0)) 2 i by omega), h9.sc, h9.rr hR⟩)
    refine x_tswD (t := 200) (E_X10_told_0 8 rfl) (by omega) (by omega) (by decide) ?_
    refine x_sipush (z := (-1002)) (E_X10_told_1 23 rfl) (by decide) ?_
    refine z_iret (E_X10_told_1 24 rfl) trivial ?_
    exact Or.inr (Or.inr ⟨by omega, trivial, (tdZ_d (by omega)).symm, ⟨fun _ _ => rfl, fun _ _ => rfl⟩, hR⟩)
  · refine x_if_ne (E_X10_told_0 4 rfl) (by decide) (fun c9 => absurd c9 (by decide)) (fun _ => ?_)
    refine x_sipush (z := (-1001)) (E_X10_told_0 5 rfl) (by decide) ?_
    refine z_iret (E_X10_told_0 6 rfl) trivial ?_
    exact Or.inl ⟨by omega, rfl, rfl⟩
set_option maxHeartbeats 1000000 in
theorem c_X11_told {i q : Int} (hR : RR σ) (sc : Sc σ τ) (q1 : rgi i) (q2 : rgi q) : CI l G M_X11_told 4 [vr 114, vi i, vi q] τ (fun z υ => (¬ (0 ≤ i ∧ i < σ 7 9) ∧ z = -1001 ∧ υ = τ) ∨ ((0 ≤ i ∧ i < σ 7 9) ∧ ¬ True ∧ z = -1002 ∧ υ = τ) ∨ ((0 ≤ i ∧ i < σ 7 9) ∧ True ∧ z = tdZ σ i q ∧ Sd τ υ)) := by
  have f0 : τ 114 0 = σ 0 0 := (sc.2 (114, 0) (by decide)).trans hR.1.1
  have f1 : τ 114 1 = σ 1 5 := (sc.2 (114, 1) (by decide)).trans hR.2.1.1
  have f9 : τ 114 9 = σ 7 9 := (sc.2 (114, 9) (by decide)).trans hR.2.2.2.1.1
  have f122 : τ 122 = σ 8 := (sc.1 122 (by decide)).trans hR.2.2.2.1.2.2.1.1
  have now := hR.now
  have nl12 := hR.lots
  have n120 := hR.n9
  obtain ⟨-, -, ⟨m1, m2, m3, m4, m5, m6, m7⟩, -⟩ := hR.2.2.2.1
  have j37 : ∀ υ, (q ≤ 6 ∧ υ = τ ∨ 6 < q ∧ TmP σ 2000 (σ 0 0) τ υ) → (0 ≤ i ∧ i < σ 7 9) → XI l G M_X11_told 4 37 [some (vr 114), some (vi i), some (vi q)] [] υ (fun z υ => (¬ (0 ≤ i ∧ i < σ 7 9) ∧ z = -1001 ∧ υ = τ) ∨ ((0 ≤ i ∧ i < σ 7 9) ∧ ¬ True ∧ z = -1002 ∧ υ = τ) ∨ ((0 ≤ i ∧ i < σ 7 9) ∧ True ∧ z = tdZ σ i q ∧ Sd τ υ)) := by
    intro υ hu a1
    have sd : Sd τ υ := by
      rcases hu with ⟨_, rfl⟩ | ⟨_, h⟩
      · exact ⟨⟨fun _ _ => rfl, fun _ _ => rfl⟩, rfl, rfl⟩
      · exact h.sd
    have s := sc.trans sd.1
    have e122 : υ 122 i = σ 8 i := congrFun ((s.1 122 (by decide)).trans m1) i
    have e123 : υ 123 i = σ 9 i := congrFun ((s.1 123 (by decide)).trans m2) i
    have e124 : υ 124 i = σ 10 i := congrFun ((s.1 124 (by decide)).trans m3) i
    have e125 : υ 125 i = σ 11 i := congrFun ((s.1 125 (by decide)).trans m4) i
    have e126 : υ 126 i = σ 12 i := congrFun ((s.1 126 (by decide)).trans m5) i
    have e127 : υ 127 i = σ 13 i := congrFun ((s.1 127 (by decide)).trans m6) i
    have e128 : υ 128 i = σ 14 i := congrFun ((s.1 128 (by decide)).trans m7) i
    refine x_iload_n (E_X11_told_0 20 rfl) rfl ?_
    by_cases w0 : q = 0
    · subst w0
      refine x_tsw (t := 88) (E_X11_told_0 21 rfl) (by decide) (by decide) (by decide) ?_
      refine x_aload_n (E_X11_told_0 22 rfl) rfl ?_
      refine x_getR (E_X11_told_0 23 rfl) fl_X11_31 rfl (by decide) rfl ?_
      refine x_iload_n (E_X11_told_0 24 rfl) rfl ?_
      refine x_ialde (f := υ 122) (E_X11_told_0 25 rfl) rfl (by decide) (by omega) rfl ?_
      refine z_iret (E_X11_told_0 26 rfl) trivial ?_
      exact Or.inr (Or.inr ⟨by omega, trivial, e122, sd⟩)
    by_cases w1 : q = 1
    · subst w1
      refine x_tsw (t := 95) (E_X11_told_0 21 rfl) (by decide) (by decide) (by decide) ?_
      refine x_aload_n (E_X11_told_0 27 rfl) rfl ?_
      refine x_getR (E_X11_told_0 28 rfl) fl_X11_34 rfl (by decide) rfl ?_
      refine x_iload_n (E_X11_told_0 29 rfl) rfl ?_
      refine x_ialde (f := υ 123) (E_X11_told_0 30 rfl) rfl (by decide) (by omega) rfl ?_
      refine z_iret (E_X11_told_0 31 rfl) trivial ?_
      exact Or.inr (Or.inr ⟨by omega, trivial, e123, sd⟩)
    by_cases w2 : q = 2
    · subst w2
      refine x_tsw (t := 102) (E_X11_told_0 21 rfl) (by decide) (by decide) (by decide) ?_
      refine x_aload_n (E_X11_told_0 32 rfl) rfl ?_
      refine x_getR (E_X11_told_0 33 rfl) fl_X11_37 rfl (by decide) rfl ?_
      refine x_iload_n (E_X11_told_0 34 rfl) rfl ?_
      refine x_ialde (f := υ 124) (E_X11_told_0 35 rfl) rfl (by decide) (by omega) rfl ?_
      refine z_iret (E_X11_told_0 36 rfl) trivial ?_
      exact Or.inr (Or.inr ⟨by omega, trivial, e124, sd⟩)
    by_cases w3 : q = 3
    · subst w3
      refine x_tsw (t := 109) (E_X11_told_0 21 rfl) (by decide) (by decide) (by decide) ?_
      refine x_aload_n (E_X11_told_0 37 rfl) rfl ?_
      refine x_getR (E_X11_told_0 38 rfl) fl_X11_40 rfl (by decide) rfl ?_
      refine x_iload_n (E_X11_told_0 39 rfl) rfl ?_
      refine x_ialde (f := υ 125) (E_X11_told_0 40 rfl) rfl (by decide) (by omega) rfl ?_
      refine z_iret (E_X11_told_0 41 rfl) trivial ?_
      exact Or.inr (Or.inr ⟨by omega, trivial, e125, sd⟩)
    by_cases w4 : q = 4
    · subst w4
      refine x_tsw (t := 116) (E_X11_told_0 21 rfl) (by decide) (by decide) (by decide) ?_
      refine x_aload_n (E_X11_told_0 42 rfl) rfl ?_
      refine x_getR (E_X11_told_0 43 rfl) fl_X11_43 rfl (by decide) rfl ?_
      refine x_iload_n (E_X11_told_0 44 rfl) rfl ?_
      refine x_ialde (f := υ 126) (E_X11_told_0 45 rfl) rfl (by decide) (by omega) rfl ?_
      refine z_iret (E_X11_told_0 46 rfl) trivial ?_
      exact Or.inr (Or.inr ⟨by omega, trivial, e126, sd⟩)
    by_cases w5 : q = 5
    · subst w5
      refine x_tsw (t := 123) (E_X11_told_0 21 rfl) (by decide) (by decide) (by decide) ?_
      refine x_aload_n (E_X11_told_0 47 rfl) rfl ?_
      refine x_getR (E_X11_told_0 48 rfl) fl_X11_46 rfl (by decide) rfl ?_
      refine x_iload_n (E_X11_told_0 49 rfl) rfl ?_
      refine x_ialde (f := υ 127) (E_X11_told_0 50 rfl) rfl (by decide) (by omega) rfl ?_
      refine z_iret (E_X11_told_0 51 rfl) trivial ?_
      exact Or.inr (Or.inr ⟨by omega, trivial, e127, sd⟩)
    by_cases w6 : q = 6
    · subst w6
      refine x_tsw (t := 130) (E_X11_told_0 21 rfl) (by decide) (by decide) (by decide) ?_
      refine x_aload_n (E_X11_told_0 52 rfl) rfl ?_
      refine x_getR (E_X11_told_0 53 rfl) fl_X11_49 rfl (by decide) rfl ?_
      refine x_iload_n (E_X11_told_0 54 rfl) rfl ?_
      refine x_ialde (f := υ 128) (E_X11_told_0 55 rfl) rfl (by decide) (by omega) rfl ?_
      refine z_iret (E_X11_told_0 56 rfl) trivial ?_
      exact Or.inr (Or.inr ⟨by omega, trivial, e128, sd⟩)
    by_cases w7 : q = 7
    · subst w7
      refine x_tsw (t := 137) (E_X11_told_0 21 rfl) (by decide) (by decide) (by decide) ?_
      have h9 : TmP σ 2000 (σ 0 0) τ υ := by
        rcases hu with ⟨h, _⟩ | ⟨_, h⟩
        · omega
        · exact h
      have v9 : υ 129 i = voidS (σ 8) (σ 11) (σ 10) (σ 0 0) (nq σ) i := h9.2.2.1 i (by omega) (by omega)
      have o9 : υ 129 i = 0 ∨ υ 129 i = 1 := by rw [v9]; exact voidS_rg i
      refine x_aload_n (E_X11_told_0 57 rfl) rfl ?_
      refine x_getR (E_X11_told_0 58 rfl) fl_X11_52 rfl (by decide) rfl ?_
      refine x_iload_n (E_X11_told_0 59 rfl) rfl ?_
      refine x_zalde (f := υ 129) (E_X11_told_1 0 rfl) rfl (by decide) (by omega) rfl ?_
      refine z_callSi (E_X11_told_1 1 rfl) ml_X11_307 ms_X11_one (c_X11_one o9) (by decide) rfl rfl (Nat.le_of_ble_eq_true rfl) (fun z7 τ7 k7 => ?_)
      obtain ⟨z7, rfl⟩ := k7
      rw [z7]
      refine z_iret (E_X11_told_1 2 rfl) trivial ?_
      exact Or.inr (Or.inr ⟨by omega, trivial, v9, sd⟩)
    by_cases w8 : q = 8
    · subst w8
      refine x_tsw (t := 147) (E_X11_told_0 21 rfl) (by decide) (by decide) (by decide) ?_
      have h9 : TmP σ 2000 (σ 0 0) τ υ := by
        rcases hu with ⟨h, _⟩ | ⟨_, h⟩
        · omega
        · exact h
      have v9 : υ 130 i = (Yq σ (σ 0 0) (σ 0 0)) 2 i := by
        rw [← Yq_all hR, ← h9.1]
        exact (show SM (nq σ) (σ 1 5) υ 2 i = υ 130 i from StG_2 (by omega)).symm
      have o9 : υ 130 i = 0 ∨ υ 130 i = 1 := by rw [v9]; exact ((hR.yok (d := σ 0 0) (kn := σ 0 0)).1 i).2
      refine x_aload_n (E_X11_told_1 3 rfl) rfl ?_
      refine x_getR (E_X11_told_1 4 rfl) fl_X11_56 rfl (by decide) rfl ?_
      refine x_iload_n (E_X11_told_1 5 rfl) rfl ?_
      refine x_zalde (f := υ 130) (E_X11_told_1 6 rfl) rfl (by decide) (by omega) rfl ?_
      refine z_callSi (E_X11_told_1 7 rfl) ml_X11_307 ms_X11_one (c_X11_one o9) (by decide) rfl rfl (Nat.le_of_ble_eq_true rfl) (fun z7 τ7 k7 => ?_)
      obtain ⟨z7, rfl⟩ := k7
      rw [z7]
      refine z_iret (E_X11_told_1 8 rfl) trivial ?_
      exact Or.inr (Or.inr ⟨by omega, trivial, v9, sd⟩)
    refine x_tswD (t := 157) (E_X11_told_0 21 rfl) (by omega) (by omega) (by decide) ?_
    refine x_sipush (z := (-1002)) (E_X11_told_1 9 rfl) (by decide) ?_
    refine z_iret (E_X11_told_1 10 rfl) trivial ?_
    exact Or.inr (Or.inr ⟨by omega, trivial, (tdZ_d (by omega)).symm, sd⟩)
  refine Ct.of rfl (Nat.le_of_ble_eq_true rfl) ?_
  refine x_iload_n (E_X11_told_0 0 rfl) rfl ?_
  refine x_i2l (E_X11_told_0 1 rfl) (by omega) ?_
  refine x_lconst (z := 0) (E_X11_told_0 2 rfl) rfl ?_
  refine x_aload_n (E_X11_told_0 3 rfl) rfl ?_
  refine x_getIe (v := τ 114 9) (E_X11_told_0 4 rfl) fl_X11_227 rfl (by decide) rfl ?_
  refine x_iconst (E_X11_told_0 5 rfl) ?_
  refine x_isub (E_X11_told_0 6 rfl) ?_
  refine x_i2l (E_X11_told_0 7 rfl) (by omega) ?_
  refine z_callSi (E_X11_told_0 8 rfl) ml_X11_197 ms_X11_in (c_X11_in (by omega) (by omega) (by omega)) (by decide) rfl rfl (Nat.le_of_ble_eq_true rfl) (fun z9 τ9 h9 => ?_)
  obtain ⟨rfl, ⟨rfl, c1⟩ | ⟨rfl, c1⟩⟩ := h9
  · refine x_if_ne (E_X11_told_0 9 rfl) (by decide) (fun _ => ?_) (fun c9 => absurd c9 (by decide))
    refine x_iload_n (E_X11_told_0 12 rfl) rfl ?_
    refine x_bipush (z := 6) (E_X11_told_0 13 rfl) (by decide) ?_
    refine x_icmp_le (E_X11_told_0 14 rfl) (by omega) (by decide) (fun c2 => ?_) (fun c2 => ?_)
    · exact j37 τ (Or.inl ⟨by omega, rfl⟩) (by omega)
    · refine x_aload_n (E_X11_told_0 15 rfl) rfl ?_
      refine x_aload_n (E_X11_told_0 16 rfl) rfl ?_
      refine x_getIe (v := τ 114 0) (E_X11_told_0 17 rfl) fl_X11_205 rfl (by decide) rfl ?_
      refine x_sipush (z := 2000) (E_X11_told_0 18 rfl) (by decide) ?_
      rw [f0]
      refine z_callVv (E_X11_told_0 19 rfl) ml_X11_378 mv_X11_tell rfl (by decide) (by decide) (tM hR sc (by omega) (by omega)) (by decide) rfl rfl (Nat.le_of_ble_eq_true rfl) (fun τ9 h9 => ?_)
      exact j37 τ9 (Or.inr ⟨by omega, h9⟩) (by omega)
  · refine x_if_ne (E_X11_told_0 9 rfl) (by decide) (fun c9 => absurd c9 (by decide)) (fun _ => ?_)
    refine x_sipush (z := (-1001)) (E_X11_told_0 10 rfl) (by decide) ?_
    refine z_iret (E_X11_told_0 11 rfl) trivial ?_
    exact Or.inl ⟨by omega, rfl, rfl⟩
theorem pair_told {i q : Int} (hR : RR σ) (q1 : rgi i) (q2 : rgi q) : Pair l G M_X10_told 6 M_X11_told 4 [vi i, vi q] σ := by
  refine pair3 hR (c_X10_told hR q1 q2) (fun a _ => ?_) (fun τ sc => c_X11_told hR sc q1 q2)
  have now := hR.now
  have n9 := hR.n9
  have nl12 := hR.lots
  obtain ⟨l0, l1, l2, l3, l4, l5, l6, l7, l8, l9⟩ : LnOk (dtq σ) (σ 1 5) i := hR.dok.2.2.1 i a.1 (by omega)
  have t := hR.tol.1 i a.1 (by omega)
  have v := voidS_rg (kd := σ 8) (tg := σ 11) (td := σ 10) (kn := σ 0 0) (n := nq σ) i
  have y := ((hR.yok (d := σ 0 0) (kn := σ 0 0)).1 i).2
  have l0 : 0 ≤ σ 8 i ∧ σ 8 i ≤ 10 := l0
  have l1 : 0 ≤ σ 9 i ∧ σ 9 i ≤ 2000 := l1
  have l2 : σ 8 i = 0 ∨ σ 8 i = 8 → 0 ≤ σ 11 i ∧ σ 11 i < σ 1 5 := l2
  have l3 : ¬ (σ 8 i = 0 ∨ σ 8 i = 8) → 0 ≤ σ 11 i ∧ σ 11 i < i := l3
  have l5 : -1 ≤ σ 12 i ∧ σ 12 i ≤ 7 := l5
  have l6 : -1 ≤ σ 13 i ∧ σ 13 i ≤ 7 := l6
  have l9 : -1 ≤ σ 14 i ∧ σ 14 i ≤ 9999 := l9
  unfold tdZ
  repeat' split
  all_goals omega

theorem c_X2_voidCount (hn : 0 ≤ σ 7 9 ∧ σ 7 9 ≤ 120) (hv : ∀ i, 0 ≤ i → i < σ 7 9 → σ 16 i = 0 ∨ σ 16 i = 1) : CI l G M_X2_voidCount 0 [vr 7] σ (IP (0 + sumS (σ 16) (σ 7 9).toNat) σ) := by
  refine Ct.of rfl (Nat.le_of_ble_eq_true rfl) ?_
  have loop : ∀ (k : Nat) (i s : Int), i = σ 7 9 - k → k ≤ (σ 7 9).toNat → s = 0 + sumS (σ 16) i.toNat → XI l G M_X2_voidCount 0 4 [some (vr 7), some (vi s), some (vi i)] [] σ (IP (0 + sumS (σ 16) (σ 7 9).toNat) σ) := by
    intro k
    induction k using Nat.strongRecOn with
    | _ k ih =>
    intro i s hi hk hs
    refine x_iload_n (E_X2_voidCount_0 4 rfl) rfl ?_
    refine x_aload_n (E_X2_voidCount_0 5 rfl) rfl ?_
    refine x_getIe (v := σ 7 9) (E_X2_voidCount_0 6 rfl) fl_X2_40 rfl (by decide) rfl ?_
    refine x_icmp_ge (E_X2_voidCount_0 7 rfl) (by omega) (by omega) (fun c1 => ?_) (fun c1 => ?_)
    · refine x_iload_n (E_X2_voidCount_0 21 rfl) rfl ?_
      refine z_iret (E_X2_voidCount_0 22 rfl) trivial ?_
      exact ⟨by rw [hs, show i = σ 7 9 by omega], rfl⟩
    · have v9 := hv i (by omega) (by omega)
      refine x_iload_n (E_X2_voidCount_0 8 rfl) rfl ?_
      refine x_aload_n (E_X2_voidCount_0 9 rfl) rfl ?_
      refine x_getR (E_X2_voidCount_0 10 rfl) fl_X2_36 rfl (by decide) rfl ?_
      refine x_iload_n (E_X2_voidCount_0 11 rfl) rfl ?_
      refine x_zalde (f := σ 16) (E_X2_voidCount_0 12 rfl) rfl (by decide) (by omega) rfl ?_
      refine x_if_eq (E_X2_voidCount_0 13 rfl) (by omega) (fun c2 => ?_) (fun c2 => ?_)
      · refine x_iconst (E_X2_voidCount_0 16 rfl) ?_
        refine x_iadd (E_X2_voidCount_0 17 rfl) ?_
        refine x_istore_n (E_X2_voidCount_0 18 rfl) rfl ?_
        refine x_iinc (E_X2_voidCount_0 19 rfl) rfl rfl ?_
        refine x_goto (E_X2_voidCount_0 20 rfl) ?_
        refine ih (k - 1) (by omega) _ _ (by omega) (by omega) ?_
        rw [sumS_i (by omega)]
        skip
        skip
        all_goals first | omega | (exfalso; omega)
      · refine x_iconst (E_X2_voidCount_0 14 rfl) ?_
        refine x_goto (E_X2_voidCount_0 15 rfl) ?_
        refine x_iadd (E_X2_voidCount_0 17 rfl) ?_
        refine x_istore_n (E_X2_voidCount_0 18 rfl) rfl ?_
        refine x_iinc (E_X2_voidCount_0 19 rfl) rfl rfl ?_
        refine x_goto (E_X2_voidCount_0 20 rfl) ?_
        refine ih (k - 1) (by omega) _ _ (by omega) (by omega) ?_
        rw [sumS_i (by omega)]
        skip
        skip
        all_goals first | omega | (exfalso; omega)
  refine x_iconst (E_X2_voidCount_0 0 rfl) ?_
  refine x_istore_n (E_X2_voidCount_0 1 rfl) rfl ?_
  refine x_iconst (E_X2_voidCount_0 2 rfl) ?_
  refine x_istore_n (E_X2_voidCount_0 3 rfl) rfl ?_
  exact loop (σ 7 9).toNat 0 _ (by omega) (Nat.le_refl _) (by show _ = 0 + 0; omega)

/-- the answer of count -/
def ctZ (σ : Nat → Int → Int) (q : Int) : Int := if q = 0 then σ 0 0 else if q = 1 then σ 1 5 else if q = 2 then σ 7 9 else if q = 3 then sumS (voidS (σ 8) (σ 11) (σ 10) (σ 0 0) (nq σ)) (nq σ) else if q = 4 then sumS ((Yq σ (σ 0 0) (σ 0 0)) 2) (nq σ) else if q = 5 then sumS (fun w => if (Yq σ (σ 0 0) (σ 0 0)) 1 w = 1 ∧ 0 < (Yq σ (σ 0 0) (σ 0 0)) 4 w then 1 else 0) (nq σ) else if q = 6 then (Yq σ (σ 0 0) (σ 0 0)) 12 0 else if q = 7 then σ 17 8 else if q = 8 then σ 88 7 else if q = 9 then σ 96 4 else if q = 10 then σ 41 1 else if q = 11 then σ 74 4 else -1002
theorem ctZ_d {q : Int} (h : q < 0 ∨ 11 < q) : ctZ σ q = -1002 := by
  unfold ctZ
  rw [if_neg (by omega), if_neg (by omega), if_neg (by omega), if_neg (by omega), if_neg (by omega), if_neg (by omega), if_neg (by omega), if_neg (by omega), if_neg (by omega), if_neg (by omega), if_neg (by omega), if_neg (by omega)]
theorem pf_eq : sumS (fun w => if (Yq σ (σ 0 0) (σ 0 0)) 1 w = 1 ∧ 0 < (Yq σ (σ 0 0) (σ 0 0)) 4 w ∧ ((-1 : Int) = -1 ∨ (Yq σ (σ 0 0) (σ 0 0)) 3 w = -1) then 1 else 0) (nq σ) = sumS (fun w => if (Yq σ (σ 0 0) (σ 0 0)) 1 w = 1 ∧ 0 < (Yq σ (σ 0 0) (σ 0 0)) 4 w then 1 else 0) (nq σ) := sumS_cong (fun j _ _ => by
  by_cases c : (Yq σ (σ 0 0) (σ 0 0)) 1 j = 1 ∧ 0 < (Yq σ (σ 0 0) (σ 0 0)) 4 j
  · rw [if_pos ⟨c.1, c.2, Or.inl rfl⟩, if_pos c]
  · rw [if_neg (fun h => c ⟨h.1, h.2.1⟩), if_neg c])
set_option maxHeartbeats 1000000 in
theorem c_X10_count {q : Int} (hR : RR σ) (q1 : rgi q) : CI l G M_X10_count 6 [vr 0, vi q] σ (fun z υ => (¬ True ∧ z = -1001 ∧ υ = σ) ∨ (True ∧ ¬ True ∧ z = -1002 ∧ υ = σ) ∨ (True ∧ True ∧ z = ctZ σ q ∧ Sc σ υ ∧ RR υ)) := by
  have now := hR.now
  have nl12 := hR.lots
  have n120 := hR.n9
  refine Ct.of rfl (Nat.le_of_ble_eq_true rfl) ?_
  refine x_iload_n (E_X10_count_0 0 rfl) rfl ?_
  by_cases w0 : q = 0
  · subst w0
    refine x_tsw (t := 64) (E_X10_count_0 1 rfl) (by decide) (by decide) (by decide) ?_
    refine x_aload_n (E_X10_count_0 2 rfl) rfl ?_
    refine x_getIe (v := σ 0 0) (E_X10_count_0 3 rfl) fl_X10_7 rfl (by decide) rfl ?_
    refine z_iret (E_X10_count_0 4 rfl) trivial ?_
    exact Or.inr (Or.inr ⟨trivial, trivial, rfl, ⟨fun _ _ => rfl, fun _ _ => rfl⟩, hR⟩)
  by_cases w1 : q = 1
  · subst w1
    refine x_tsw (t := 69) (E_X10_count_0 1 rfl) (by decide) (by decide) (by decide) ?_
    refine x_aload_n (E_X10_count_0 5 rfl) rfl ?_
    refine x_getR (E_X10_count_0 6 rfl) fl_X10_16 rfl (by decide) rfl ?_
    refine x_getIe (v := σ 1 5) (E_X10_count_0 7 rfl) fl_X10_114 rfl (by decide) rfl ?_
    refine z_iret (E_X10_count_0 8 rfl) trivial ?_
    exact Or.inr (Or.inr ⟨trivial, trivial, rfl, ⟨fun _ _ => rfl, fun _ _ => rfl⟩, hR⟩)
  by_cases w2 : q = 2
  · subst w2
    refine x_tsw (t := 77) (E_X10_count_0 1 rfl) (by decide) (by decide) (by decide) ?_
    refine x_aload_n (E_X10_count_0 9 rfl) rfl ?_
    refine x_getR (E_X10_count_0 10 rfl) fl_X10_23 rfl (by decide) rfl ?_
    refine x_getIe (v := σ 7 9) (E_X10_count_0 11 rfl) fl_X10_140 rfl (by decide) rfl ?_
    refine z_iret (E_X10_count_0 12 rfl) trivial ?_
    exact Or.inr (Or.inr ⟨trivial, trivial, rfl, ⟨fun _ _ => rfl, fun _ _ => rfl⟩, hR⟩)
  by_cases w3 : q = 3
  · subst w3
    refine x_tsw (t := 85) (E_X10_count_0 1 rfl) (by decide) (by decide) (by decide) ?_
    refine x_aload_n (E_X10_count_0 13 rfl) rfl ?_
    refine x_getR (E_X10_count_0 14 rfl) fl_X10_23 rfl (by decide) rfl ?_
    refine x_aload_n (E_X10_count_0 15 rfl) rfl ?_
    refine x_getIe (v := σ 0 0) (E_X10_count_0 16 rfl) fl_X10_7 rfl (by decide) rfl ?_
    refine z_callVv (E_X10_count_0 17 rfl) ml_X10_166 mv_X2_know rfl (by decide) (by decide) (c_X2_know (by omega) (by omega) (fun i a b => (hR.line a b).1) (fun i a b c => (hR.line a b).2.2.2.1 c) (fun i a b => hR.tol.1 i a (by omega)) (fun i j a b c => hR.tol.2.1 i j a b (by omega))) (by decide) rfl rfl (Nat.le_of_ble_eq_true rfl) (fun τ9 h9 => ?_)
    have kv : ∀ i, 0 ≤ i → i < σ 7 9 → τ9 16 i = voidS (σ 8) (σ 11) (σ 10) (σ 0 0) (nq σ) i := h9.2.2.1
    have s9 := h9.sd
    have e79 : τ9 7 9 = σ 7 9 := s9.1.2 (7, 9) (by decide)
    refine x_aload_n (E_X10_count_0 18 rfl) rfl ?_
    refine x_getR (E_X10_count_0 19 rfl) fl_X10_23 rfl (by decide) rfl ?_
    refine z_callVi (E_X10_count_0 20 rfl) ml_X10_185 mv_X2_voidCount rfl (by decide) (by decide) (c_X2_voidCount (by omega) (by rw [e79]; exact fun i a b => by rw [kv i a b]; exact voidS_rg i)) (by decide) rfl rfl (Nat.le_of_ble_eq_true rfl) (fun v7 τ7 k7 => ?_)
    obtain ⟨z7, rfl⟩ := k7
    have z7 : v7 = sumS (voidS (σ 8) (σ 11) (σ 10) (σ 0 0) (nq σ)) (nq σ) := by
      rw [z7, e79, Int.zero_add]
      exact sumS_cong (fun j a b => kv j a (by unfold nq at n120; omega))
    refine z_iret (E_X10_count_0 21 rfl) trivial ?_
    exact Or.inr (Or.inr ⟨trivial, trivial, z7, s9.1, s9.rr hR⟩)
  by_cases w4 : q = 4
  · subst w4
    refine x_tsw (t := 104) (E_X10_count_0 1 rfl) (by decide) (by decide) (by decide) ?_
    refine x_aload_n (E_X10_count_0 22 rfl) rfl ?_
    refine x_getR (E_X10_count_0 23 rfl) fl_X10_46 rfl (by decide) rfl ?_
    refine x_aload_n (E_X10_count_0 24 rfl) rfl ?_
    refine x_getIe (v := σ 0 0) (E_X10_count_0 25 rfl) fl_X10_7 rfl (by decide) rfl ?_
    refine x_aload_n (E_X10_count_0 26 rfl) rfl ?_
    refine x_getIe (v := σ 0 0) (E_X10_count_0 27 rfl) fl_X10_7 rfl (by decide) rfl ?_
    refine z_callVv (E_X10_count_0 28 rfl) ml_X10_174 mv_X7_tell rfl (by decide) (by decide) (tC hR (by omega) (by omega)) (by decide) rfl rfl (Nat.le_of_ble_eq_true rfl) (fun τ9 h9 => ?_)
    have y1 := h9.1
    have g12 : τ9 45 15 = (Yq σ (σ 0 0) (σ 0 0)) 12 0 := by rw [← y1]; rfl
    refine x_aload_n (E_X10_count_0 29 rfl) rfl ?_
    refine x_getR (E_X10_count_0 30 rfl) fl_X10_46 rfl (by decide) rfl ?_
    refine z_callVi (E_X10_count_0 31 rfl) ml_X10_189 mv_X7_vainCount rfl (by decide) (by decide) (c_X7_vainCount h9.2.2.1 hR.dok (by rw [h9.1]; exact hR.yok)) (by decide) rfl rfl (Nat.le_of_ble_eq_true rfl) (fun v7 τ7 k7 => ?_)
    obtain ⟨z7, rfl⟩ := k7
    rw [y1] at z7
    refine z_iret (E_X10_count_0 32 rfl) trivial ?_
    exact Or.inr (Or.inr ⟨trivial, trivial, z7, h9.sc, h9.rr hR⟩)
  by_cases w5 : q = 5
  · subst w5
    refine x_tsw (t := 127) (E_X10_count_0 1 rfl) (by decide) (by decide) (by decide) ?_
    refine x_aload_n (E_X10_count_0 33 rfl) rfl ?_
    refine x_getR (E_X10_count_0 34 rfl) fl_X10_46 rfl (by decide) rfl ?_
    refine x_aload_n (E_X10_count_0 35 rfl) rfl ?_
    refine x_getIe (v := σ 0 0) (E_X10_count_0 36 rfl) fl_X10_7 rfl (by decide) rfl ?_
    refine x_aload_n (E_X10_count_0 37 rfl) rfl ?_
    refine x_getIe (v := σ 0 0) (E_X10_count_0 38 rfl) fl_X10_7 rfl (by decide) rfl ?_
    refine z_callVv (E_X10_count_0 39 rfl) ml_X10_174 mv_X7_tell rfl (by decide) (by decide) (tC hR (by omega) (by omega)) (by decide) rfl rfl (Nat.le_of_ble_eq_true rfl) (fun τ9 h9 => ?_)
    have y1 := h9.1
    have g12 : τ9 45 15 = (Yq σ (σ 0 0) (σ 0 0)) 12 0 := by rw [← y1]; rfl
    refine x_aload_n (E_X10_count_0 40 rfl) rfl ?_
    refine x_getR (E_X10_count_0 41 rfl) fl_X10_46 rfl (by decide) rfl ?_
    refine x_iconst (E_X10_count_0 42 rfl) ?_
    refine z_callVi (E_X10_count_0 43 rfl) ml_X10_192 mv_X7_papersWithCasks rfl (by decide) (by decide) (c_X7_papersWithCasks (by omega) h9.2.2.1 hR.dok (by rw [h9.1]; exact hR.yok)) (by decide) rfl rfl (Nat.le_of_ble_eq_true rfl) (fun v7 τ7 k7 => ?_)
    obtain ⟨z7, rfl⟩ := k7
    rw [y1] at z7
    have z7 := z7.trans pf_eq
    refine z_iret (E_X10_count_0 44 rfl) trivial ?_
    exact Or.inr (Or.inr ⟨trivial, trivial, z7, h9.sc, h9.rr hR⟩)
  by_cases w6 : q = 6
  · subst w6
    refine x_tsw (t := 151) (E_X10_count_0 1 rfl) (by decide) (by decide) (by decide) ?_
    refine x_aload_n (E_X10_count_0 45 rfl) rfl ?_
    refine x_getR (E_X10_count_0 46 rfl) fl_X10_46 rfl (by decide) rfl ?_
    refine x_aload_n (E_X10_count_0 47 rfl) rfl ?_
    refine x_getIe (v := σ 0 0) (E_X10_count_0 48 rfl) fl_X10_7 rfl (by decide) rfl ?_
    refine x_aload_n (E_X10_count_0 49 rfl) rfl ?_
    refine x_getIe (v := σ 0 0) (E_X10_count_0 50 rfl) fl_X10_7 rfl (by decide) rfl ?_
    refine z_callVv (E_X10_count_0 51 rfl) ml_X10_174 mv_X7_tell rfl (by decide) (by decide) (tC hR (by omega) (by omega)) (by decide) rfl rfl (Nat.le_of_ble_eq_true rfl) (fun τ9 h9 => ?_)
    have y1 := h9.1
    have g12 : τ9 45 15 = (Yq σ (σ 0 0) (σ 0 0)) 12 0 := by rw [← y1]; rfl
    refine x_aload_n (E_X10_count_0 52 rfl) rfl ?_
    refine x_getR (E_X10_count_0 53 rfl) fl_X10_46 rfl (by decide) rfl ?_
    refine x_getIe (v := τ9 45 15) (E_X10_count_0 54 rfl) fl_X10_195 rfl (by decide) rfl ?_
    refine z_iret (E_X10_count_0 55 rfl) trivial ?_
    exact Or.inr (Or.inr ⟨trivial, trivial, g12, h9.sc, h9.rr hR⟩)
  by_cases w7 : q = 7
  · subst w7
    refine x_tsw (t := 174) (E_X10_count_0 1 rfl) (by decide) (by decide) (by decide) ?_
    refine x_aload_n (E_X10_count_0 56 rfl) rfl ?_
    refine x_getR (E_X10_count_0 57 rfl) fl_X10_30 rfl (by decide) rfl ?_
    refine x_getIe (v := σ 17 8) (E_X10_count_0 58 rfl) fl_X10_198 rfl (by decide) rfl ?_
    refine z_iret (E_X10_count_0 59 rfl) trivial ?_
    exact Or.inr (Or.inr ⟨trivial, trivial, rfl, ⟨fun _ _ => rfl, fun _ _ => rfl⟩, hR⟩)
  by_cases w8 : q = 8
  · subst w8
    refine x_tsw (t := 182) (E_X10_count_0 1 rfl) (by decide) (by decide) (by decide) ?_
    refine x_aload_n (E_X10_count_1 0 rfl) rfl ?_
    refine x_getR (E_X10_count_1 1 rfl) fl_X10_75 rfl (by decide) rfl ?_
    refine x_getIe (v := σ 88 7) (E_X10_count_1 2 rfl) fl_X10_199 rfl (by decide) rfl ?_
    refine z_iret (E_X10_count_1 3 rfl) trivial ?_
    exact Or.inr (Or.inr ⟨trivial, trivial, rfl, ⟨fun _ _ => rfl, fun _ _ => rfl⟩, hR⟩)
  by_cases w9 : q = 9
  · subst w9
    refine x_tsw (t := 190) (E_X10_count_0 1 rfl) (by decide) (by decide) (by decide) ?_
    refine x_aload_n (E_X10_count_1 4 rfl) rfl ?_
    refine x_getR (E_X10_count_1 5 rfl) fl_X10_82 rfl (by decide) rfl ?_
    refine x_getIe (v := σ 96 4) (E_X10_count_1 6 rfl) fl_X10_200 rfl (by decide) rfl ?_
    refine z_iret (E_X10_count_1 7 rfl) trivial ?_
    exact Or.inr (Or.inr ⟨trivial, trivial, rfl, ⟨fun _ _ => rfl, fun _ _ => rfl⟩, hR⟩)
  by_cases w10 : q = 10
  · subst w10
    refine x_tsw (t := 198) (E_X10_count_0 1 rfl) (by decide) (by decide) (by decide) ?_
    refine x_aload_n (E_X10_count_1 8 rfl) rfl ?_
    refine x_getR (E_X10_count_1 9 rfl) fl_X10_37 rfl (by decide) rfl ?_
    refine x_getIe (v := σ 41 1) (E_X10_count_1 10 rfl) fl_X10_201 rfl (by decide) rfl ?_
    refine z_iret (E_X10_count_1 11 rfl) trivial ?_
    exact Or.inr (Or.inr ⟨trivial, trivial, rfl, ⟨fun _ _ => rfl, fun _ _ => rfl⟩, hR⟩)
  by_cases w11 : q = 11
  · subst w11
    refine x_tsw (t := 206) (E_X10_count_0 1 rfl) (by decide) (by decide) (by decide) ?_
    refine x_aload_n (E_X10_count_1 12 rfl) rfl ?_
    refine x_getR (E_X10_count_1 13 rfl) fl_X10_63 rfl (by decide) rfl ?_
    refine x_getIe (v := σ 74 4) (E_X10_count_1 14 rfl) fl_X10_204 rfl (by decide) rfl ?_
    refine z_iret (E_X10_count_1 15 rfl) trivial ?_
    exact Or.inr (Or.inr ⟨trivial, trivial, rfl, ⟨fun _ _ => rfl, fun _ _ => rfl⟩, hR⟩)
  refine x_tswD (t := 214) (E_X10_count_0 1 rfl) (by omega) (by omega) (by decide) ?_
  refine x_sipush (z := (-1002)) (E_X10_count_1 16 rfl) (by decide) ?_
  refine z_iret (E_X10_count_1 17 rfl) trivial ?_
  exact Or.inr (Or.inr ⟨trivial, trivial, (ctZ_d (by omega)).symm, ⟨fun _ _ => rfl, fun _ _ => rfl⟩, hR⟩)
theorem c_X11_linesNow {q : Int} (hR : RR σ) (sc : Sc σ τ) (hq : q = 0 ∨ q = 1 ∨ q = 2) : CI l G M_X11_linesNow 4 [vr 114, vi q] τ (fun z υ => z = (if q = 0 then sumS (voidS (σ 8) (σ 11) (σ 10) (σ 0 0) (nq σ)) (nq σ) else if q = 1 then sumS ((Yq σ (σ 0 0) (σ 0 0)) 2) (nq σ) else (Yq σ (σ 0 0) (σ 0 0)) 12 0) ∧ Sd τ υ) := by
  have f0 : τ 114 0 = σ 0 0 := (sc.2 (114, 0) (by decide)).trans hR.1.1
  have f1 : τ 114 1 = σ 1 5 := (sc.2 (114, 1) (by decide)).trans hR.2.1.1
  have f9 : τ 114 9 = σ 7 9 := (sc.2 (114, 9) (by decide)).trans hR.2.2.2.1.1
  have f122 : τ 122 = σ 8 := (sc.1 122 (by decide)).trans hR.2.2.2.1.2.2.1.1
  have now := hR.now
  have nl12 := hR.lots
  have n120 := hR.n9
  refine Ct.of rfl (Nat.le_of_ble_eq_true rfl) ?_
  have loop : ∀ (υ : Nat → Int → Int) (f : Int → Int), TmP σ 2000 (σ 0 0) τ υ → (∀ w, 0 ≤ w → w < σ 7 9 → (q = 0 → υ 129 w = f w) ∧ (q = 1 → υ 130 w = f w) ∧ (q = 2 → υ 131 w = f w) ∧ (f w = 0 ∨ f w = 1)) → sumS f (nq σ) = (if q = 0 then sumS (voidS (σ 8) (σ 11) (σ 10) (σ 0 0) (nq σ)) (nq σ) else if q = 1 then sumS ((Yq σ (σ 0 0) (σ 0 0)) 2) (nq σ) else (Yq σ (σ 0 0) (σ 0 0)) 12 0) → ∀ (k : Nat) (i s : Int), i = σ 7 9 - k → k ≤ (σ 7 9).toNat → s = sumS f i.toNat → XI l G M_X11_linesNow 4 15 [some (vr 114), some (vi q), some (vi s), some (vi i)] [] υ (fun z υ => z = (if q = 0 then sumS (voidS (σ 8) (σ 11) (σ 10) (σ 0 0) (nq σ)) (nq σ) else if q = 1 then sumS ((Yq σ (σ 0 0) (σ 0 0)) 2) (nq σ) else (Yq σ (σ 0 0) (σ 0 0)) 12 0) ∧ Sd τ υ) := by
    intro υ f h9 hf he k
    have e9 : υ 114 9 = σ 7 9 := (h9.2.2.2.2.2 9 (by decide)).trans f9
    induction k using Nat.strongRecOn with
    | _ k ih =>
    intro i s hi hk hs
    refine x_iload_n (E_X11_linesNow_0 9 rfl) rfl ?_
    refine x_aload_n (E_X11_linesNow_0 10 rfl) rfl ?_
    refine x_getIe (v := υ 114 9) (E_X11_linesNow_0 11 rfl) fl_X11_227 rfl (by decide) rfl ?_
    refine x_icmp_ge (E_X11_linesNow_0 12 rfl) (by omega) (by omega) (fun c1 => ?_) (fun c1 => ?_)
    · refine x_iload_n (E_X11_linesNow_0 38 rfl) rfl ?_
      refine z_iret (E_X11_linesNow_0 39 rfl) trivial ?_
      exact ⟨by rw [← he, hs, show i = σ 7 9 by omega]; rfl, h9.sd⟩
    · have f9 := hf i (by omega) (by omega)
      refine x_iload_n (E_X11_linesNow_0 13 rfl) rfl ?_
      refine x_iload_n (E_X11_linesNow_0 14 rfl) rfl ?_
      refine x_if_ne (E_X11_linesNow_0 15 rfl) (by omega) (fun c2 => ?_) (fun c2 => ?_)
      · refine x_iload_n (E_X11_linesNow_0 21 rfl) rfl ?_
        refine x_iconst (E_X11_linesNow_0 22 rfl) ?_
        refine x_icmp_ne (E_X11_linesNow_0 23 rfl) (by omega) (by decide) (fun c3 => ?_) (fun c3 => ?_)
        · refine x_aload_n (E_X11_linesNow_0 29 rfl) rfl ?_
          refine x_getR (E_X11_linesNow_0 30 rfl) fl_X11_59 rfl (by decide) rfl ?_
          refine x_iload_n (E_X11_linesNow_0 31 rfl) rfl ?_
          refine x_zalde (f := υ 131) (E_X11_linesNow_0 32 rfl) rfl (by decide) (by omega) rfl ?_
          refine z_callSi (E_X11_linesNow_0 33 rfl) ml_X11_307 ms_X11_one (c_X11_one (by omega)) (by decide) rfl rfl (Nat.le_of_ble_eq_true rfl) (fun v7 τ7 k7 => ?_)
          obtain ⟨z7, rfl⟩ := k7
          refine x_iadd (E_X11_linesNow_0 34 rfl) ?_
          refine x_istore_n (E_X11_linesNow_0 35 rfl) rfl ?_
          refine x_iinc (E_X11_linesNow_0 36 rfl) rfl rfl ?_
          refine x_goto (E_X11_linesNow_0 37 rfl) ?_
          refine ih (k - 1) (by omega) _ _ (by omega) (by omega) ?_
          rw [sumS_i (by omega), ← hs]
          omega
        · refine x_aload_n (E_X11_linesNow_0 24 rfl) rfl ?_
          refine x_getR (E_X11_linesNow_0 25 rfl) fl_X11_56 rfl (by decide) rfl ?_
          refine x_iload_n (E_X11_linesNow_0 26 rfl) rfl ?_
          refine x_zalde (f := υ 130) (E_X11_linesNow_0 27 rfl) rfl (by decide) (by omega) rfl ?_
          refine x_goto (E_X11_linesNow_0 28 rfl) ?_
          refine z_callSi (E_X11_linesNow_0 33 rfl) ml_X11_307 ms_X11_one (c_X11_one (by omega)) (by decide) rfl rfl (Nat.le_of_ble_eq_true rfl) (fun v7 τ7 k7 => ?_)
          obtain ⟨z7, rfl⟩ := k7
          refine x_iadd (E_X11_linesNow_0 34 rfl) ?_
          refine x_istore_n (E_X11_linesNow_0 35 rfl) rfl ?_
          refine x_iinc (E_X11_linesNow_0 36 rfl) rfl rfl ?_
          refine x_goto (E_X11_linesNow_0 37 rfl) ?_
          refine ih (k - 1) (by omega) _ _ (by omega) (by omega) ?_
          rw [sumS_i (by omega), ← hs]
          omega
      · refine x_aload_n (E_X11_linesNow_0 16 rfl) rfl ?_
        refine x_getR (E_X11_linesNow_0 17 rfl) fl_X11_52 rfl (by decide) rfl ?_
        refine x_iload_n (E_X11_linesNow_0 18 rfl) rfl ?_
        refine x_zalde (f := υ 129) (E_X11_linesNow_0 19 rfl) rfl (by decide) (by omega) rfl ?_
        refine x_goto (E_X11_linesNow_0 20 rfl) ?_
        refine z_callSi (E_X11_linesNow_0 33 rfl) ml_X11_307 ms_X11_one (c_X11_one (by omega)) (by decide) rfl rfl (Nat.le_of_ble_eq_true rfl) (fun v7 τ7 k7 => ?_)
        obtain ⟨z7, rfl⟩ := k7
        refine x_iadd (E_X11_linesNow_0 34 rfl) ?_
        refine x_istore_n (E_X11_linesNow_0 35 rfl) rfl ?_
        refine x_iinc (E_X11_linesNow_0 36 rfl) rfl rfl ?_
        refine x_goto (E_X11_linesNow_0 37 rfl) ?_
        refine ih (k - 1) (by omega) _ _ (by omega) (by omega) ?_
        rw [sumS_i (by omega), ← hs]
        omega
  refine x_aload_n (E_X11_linesNow_0 0 rfl) rfl ?_
  refine x_aload_n (E_X11_linesNow_0 1 rfl) rfl ?_
  refine x_getIe (v := τ 114 0) (E_X11_linesNow_0 2 rfl) fl_X11_205 rfl (by decide) rfl ?_
  refine x_sipush (z := 2000) (E_X11_linesNow_0 3 rfl) (by decide) ?_
  rw [f0]
  refine z_callVv (E_X11_linesNow_0 4 rfl) ml_X11_378 mv_X11_tell rfl (by decide) (by decide) (tM hR sc (by omega) (by omega)) (by decide) rfl rfl (Nat.le_of_ble_eq_true rfl) (fun τ9 h9 => ?_)
  refine x_iconst (E_X11_linesNow_0 5 rfl) ?_
  refine x_istore_n (E_X11_linesNow_0 6 rfl) rfl ?_
  refine x_iconst (E_X11_linesNow_0 7 rfl) ?_
  refine x_istore_n (E_X11_linesNow_0 8 rfl) rfl ?_
  have ya : (Yq σ (σ 0 0) (σ 0 0)) = Yq σ 2000 (σ 0 0) := (Yq_all hR).symm
  have hy : YOk (nq σ) (σ 1 5) (σ 3) (Yq σ (σ 0 0) (σ 0 0)) := hR.yok
  rcases hq with e | e | e
  · refine loop τ9 (voidS (σ 8) (σ 11) (σ 10) (σ 0 0) (nq σ)) h9 (fun w a b => ⟨fun _ => h9.2.2.1 w a b, fun h => absurd h (by omega), fun h => absurd h (by omega), voidS_rg w⟩) ?_ (σ 7 9).toNat 0 0 (by omega) (Nat.le_refl _) rfl
    rw [if_pos e]
  · refine loop τ9 ((Yq σ (σ 0 0) (σ 0 0)) 2) h9 (fun w a b => ⟨fun h => absurd h (by omega), fun _ => ?_, fun h => absurd h (by omega), (hy.1 w).2⟩) ?_ (σ 7 9).toNat 0 0 (by omega) (Nat.le_refl _) rfl
    · rw [ya, ← h9.1]; exact (show SM (nq σ) (σ 1 5) τ9 2 w = τ9 130 w from StG_2 (by omega)).symm
    · rw [if_neg (by omega), if_pos e]
  · refine loop τ9 (τ9 131) h9 (fun w a b => ⟨fun h => absurd h (by omega), fun h => absurd h (by omega), fun _ => rfl, h9.2.1 w a b⟩) ?_ (σ 7 9).toNat 0 0 (by omega) (Nat.le_refl _) rfl
    rw [if_neg (by omega), if_neg (by omega), ya, ← h9.1]
    rfl
theorem c_X11_papersToday (hR : RR σ) (sc : Sc σ τ) : CI l G M_X11_papersToday 4 [vr 114] τ (fun z υ => z = sumS (fun w => if (Yq σ (σ 0 0) (σ 0 0)) 1 w = 1 ∧ 0 < (Yq σ (σ 0 0) (σ 0 0)) 4 w then 1 else 0) (nq σ) ∧ Sd τ υ) := by
  have f0 : τ 114 0 = σ 0 0 := (sc.2 (114, 0) (by decide)).trans hR.1.1
  have f1 : τ 114 1 = σ 1 5 := (sc.2 (114, 1) (by decide)).trans hR.2.1.1
  have f9 : τ 114 9 = σ 7 9 := (sc.2 (114, 9) (by decide)).trans hR.2.2.2.1.1
  have f122 : τ 122 = σ 8 := (sc.1 122 (by decide)).trans hR.2.2.2.1.2.2.1.1
  have now := hR.now
  have nl12 := hR.lots
  have n120 := hR.n9
  refine Ct.of rfl (Nat.le_of_ble_eq_true rfl) ?_
  have loop : ∀ (υ : Nat → Int → Int), TmP σ (σ 0 0) (σ 0 0) τ υ → ∀ (k : Nat) (i s : Int), i = σ 7 9 - k → k ≤ (σ 7 9).toNat → s = sumS (fun w => if (Yq σ (σ 0 0) (σ 0 0)) 1 w = 1 ∧ 0 < (Yq σ (σ 0 0) (σ 0 0)) 4 w then 1 else 0) i.toNat → XI l G M_X11_papersToday 4 16 [some (vr 114), some (vi s), some (vi i)] [] υ (fun z υ => z = sumS (fun w => if (Yq σ (σ 0 0) (σ 0 0)) 1 w = 1 ∧ 0 < (Yq σ (σ 0 0) (σ 0 0)) 4 w then 1 else 0) (nq σ) ∧ Sd τ υ) := by
    intro υ h9 k
    have y1 := h9.1
    have hy : YOk (nq σ) (σ 1 5) (σ 3) (Yq σ (σ 0 0) (σ 0 0)) := hR.yok
    have e9 : υ 114 9 = σ 7 9 := (h9.2.2.2.2.2 9 (by decide)).trans f9
    have n9 := n120
    induction k using Nat.strongRecOn with
    | _ k ih =>
    intro i s hi hk hs
    refine x_iload_n (E_X11_papersToday_0 10 rfl) rfl ?_
    refine x_aload_n (E_X11_papersToday_0 11 rfl) rfl ?_
    refine x_getIe (v := υ 114 9) (E_X11_papersToday_0 12 rfl) fl_X11_227 rfl (by decide) rfl ?_
    refine x_icmp_ge (E_X11_papersToday_0 13 rfl) (by omega) (by omega) (fun c1 => ?_) (fun c1 => ?_)
    · refine x_iload_n (E_X11_papersToday_0 33 rfl) rfl ?_
      refine z_iret (E_X11_papersToday_0 34 rfl) trivial ?_
      exact ⟨by rw [hs, show i = σ 7 9 by omega]; rfl, h9.sd⟩
    · have g1 : (Yq σ (σ 0 0) (σ 0 0)) 1 i = υ 142 i := by rw [← y1]; exact StG_1 (by omega)
      have g2 := (hy.1 i).1
      refine x_iload_n (E_X11_papersToday_0 14 rfl) rfl ?_
      refine x_aload_n (E_X11_papersToday_0 15 rfl) rfl ?_
      refine x_getR (E_X11_papersToday_0 16 rfl) fl_X11_96 rfl (by decide) rfl ?_
      refine x_iload_n (E_X11_papersToday_0 17 rfl) rfl ?_
      refine x_zalde (f := υ 142) (E_X11_papersToday_0 18 rfl) rfl (by decide) (by omega) rfl ?_
      refine x_if_eq (E_X11_papersToday_0 19 rfl) (by omega) (fun c2 => ?_) (fun c2 => ?_)
      · refine x_iconst (E_X11_papersToday_0 27 rfl) ?_
        refine z_callSi (E_X11_papersToday_0 28 rfl) ml_X11_307 ms_X11_one (c_X11_one (by omega)) (by decide) rfl rfl (Nat.le_of_ble_eq_true rfl) (fun z9 τ9 h9 => ?_)
        obtain ⟨rfl, rfl⟩ := h9
        refine x_iadd (E_X11_papersToday_0 29 rfl) ?_
        refine x_istore_n (E_X11_papersToday_0 30 rfl) rfl ?_
        refine x_iinc (E_X11_papersToday_0 31 rfl) rfl rfl ?_
        refine x_goto (E_X11_papersToday_0 32 rfl) ?_
        refine ih (k - 1) (by omega) _ _ (by omega) (by omega) ?_
        rw [sumS_i (by omega), ← hs]
        first | (rw [if_pos (by omega)]) | (rw [if_neg (by omega)])
      · have th : (Yq σ (σ 0 0) (σ 0 0)) 1 i = 1 := by omega
        have yr := hy.2.1 i th
        obtain ⟨d1, d2, d3, d4, d5, d6, d7, d8, d9⟩ : (0 ≤ i ∧ i < ((nq σ : Nat) : Int)) ∧ υ 142 i = 1 ∧ (Yq σ (σ 0 0) (σ 0 0)) 3 i = υ 143 i ∧ (Yq σ (σ 0 0) (σ 0 0)) 4 i = υ 144 i ∧ (Yq σ (σ 0 0) (σ 0 0)) 5 i = υ 145 i ∧ (Yq σ (σ 0 0) (σ 0 0)) 6 i = υ 146 i ∧ (Yq σ (σ 0 0) (σ 0 0)) 7 i = υ 147 i ∧ (Yq σ (σ 0 0) (σ 0 0)) 8 i = υ 148 i ∧ (Yq σ (σ 0 0) (σ 0 0)) 9 i = υ 149 i := by
          have := StG_rd (show SM (nq σ) (σ 1 5) υ 1 i = 1 by rw [y1]; exact th)
          rw [← y1]
          exact this
        refine x_aload_n (E_X11_papersToday_0 20 rfl) rfl ?_
        refine x_getR (E_X11_papersToday_0 21 rfl) fl_X11_102 rfl (by decide) rfl ?_
        refine x_iload_n (E_X11_papersToday_0 22 rfl) rfl ?_
        refine x_ialde (f := υ 144) (E_X11_papersToday_0 23 rfl) rfl (by decide) (by omega) rfl ?_
        refine x_if_le (E_X11_papersToday_0 24 rfl) (by omega) (fun c3 => ?_) (fun c3 => ?_)
        · refine x_iconst (E_X11_papersToday_0 27 rfl) ?_
          refine z_callSi (E_X11_papersToday_0 28 rfl) ml_X11_307 ms_X11_one (c_X11_one (by omega)) (by decide) rfl rfl (Nat.le_of_ble_eq_true rfl) (fun z9 τ9 h9 => ?_)
          obtain ⟨rfl, rfl⟩ := h9
          refine x_iadd (E_X11_papersToday_0 29 rfl) ?_
          refine x_istore_n (E_X11_papersToday_0 30 rfl) rfl ?_
          refine x_iinc (E_X11_papersToday_0 31 rfl) rfl rfl ?_
          refine x_goto (E_X11_papersToday_0 32 rfl) ?_
          refine ih (k - 1) (by omega) _ _ (by omega) (by omega) ?_
          rw [sumS_i (by omega), ← hs]
          first | (rw [if_pos (by omega)]) | (rw [if_neg (by omega)])
        · refine x_iconst (E_X11_papersToday_0 25 rfl) ?_
          refine x_goto (E_X11_papersToday_0 26 rfl) ?_
          refine z_callSi (E_X11_papersToday_0 28 rfl) ml_X11_307 ms_X11_one (c_X11_one (by omega)) (by decide) rfl rfl (Nat.le_of_ble_eq_true rfl) (fun z9 τ9 h9 => ?_)
          obtain ⟨rfl, rfl⟩ := h9
          refine x_iadd (E_X11_papersToday_0 29 rfl) ?_
          refine x_istore_n (E_X11_papersToday_0 30 rfl) rfl ?_
          refine x_iinc (E_X11_papersToday_0 31 rfl) rfl rfl ?_
          refine x_goto (E_X11_papersToday_0 32 rfl) ?_
          refine ih (k - 1) (by omega) _ _ (by omega) (by omega) ?_
          rw [sumS_i (by omega), ← hs]
          first | (rw [if_pos (by omega)]) | (rw [if_neg (by omega)])
  refine x_aload_n (E_X11_papersToday_0 0 rfl) rfl ?_
  refine x_aload_n (E_X11_papersToday_0 1 rfl) rfl ?_
  refine x_getIe (v := τ 114 0) (E_X11_papersToday_0 2 rfl) fl_X11_205 rfl (by decide) rfl ?_
  refine x_aload_n (E_X11_papersToday_0 3 rfl) rfl ?_
  refine x_getIe (v := τ 114 0) (E_X11_papersToday_0 4 rfl) fl_X11_205 rfl (by decide) rfl ?_
  rw [f0]
  refine z_callVv (E_X11_papersToday_0 5 rfl) ml_X11_378 mv_X11_tell rfl (by decide) (by decide) (tM hR sc (by omega) (by omega)) (by decide) rfl rfl (Nat.le_of_ble_eq_true rfl) (fun τ9 h9 => ?_)
  refine x_iconst (E_X11_papersToday_0 6 rfl) ?_
  refine x_istore_n (E_X11_papersToday_0 7 rfl) rfl ?_
  refine x_iconst (E_X11_papersToday_0 8 rfl) ?_
  refine x_istore_n (E_X11_papersToday_0 9 rfl) rfl ?_
  exact loop τ9 h9 (σ 7 9).toNat 0 0 (by omega) (Nat.le_refl _) rfl
set_option maxHeartbeats 1000000 in
theorem c_X11_count {q : Int} (hR : RR σ) (sc : Sc σ τ) (q1 : rgi q) : CI l G M_X11_count 5 [vr 114, vi q] τ (fun z υ => (¬ True ∧ z = -1001 ∧ υ = τ) ∨ (True ∧ ¬ True ∧ z = -1002 ∧ υ = τ) ∨ (True ∧ True ∧ z = ctZ σ q ∧ Sd τ υ)) := by
  have f0 : τ 114 0 = σ 0 0 := (sc.2 (114, 0) (by decide)).trans hR.1.1
  have f1 : τ 114 1 = σ 1 5 := (sc.2 (114, 1) (by decide)).trans hR.2.1.1
  have f9 : τ 114 9 = σ 7 9 := (sc.2 (114, 9) (by decide)).trans hR.2.2.2.1.1
  have f122 : τ 122 = σ 8 := (sc.1 122 (by decide)).trans hR.2.2.2.1.2.2.1.1
  have now := hR.now
  have nl12 := hR.lots
  have n120 := hR.n9
  have rf : Sd τ τ := ⟨⟨fun _ _ => rfl, fun _ _ => rfl⟩, rfl, rfl⟩
  have f22 : τ 114 22 = σ 17 8 := (sc.2 (114, 22) (by decide)).trans hR.2.2.2.2.1.1
  have f60 : τ 114 60 = σ 88 7 := (sc.2 (114, 60) (by decide)).trans hR.2.2.2.2.2.2.2.2.1.1
  have f63 : τ 114 63 = σ 96 4 := (sc.2 (114, 63) (by decide)).trans hR.2.2.2.2.2.2.2.2.2.1.1
  have f29 : τ 114 29 = σ 41 1 := (sc.2 (114, 29) (by decide)).trans hR.2.2.2.2.2.1.1
  have f54 : τ 114 54 = σ 74 4 := (sc.2 (114, 54) (by decide)).trans hR.2.2.2.2.2.2.1.1
  refine Ct.of rfl (Nat.le_of_ble_eq_true rfl) ?_
  refine x_iload_n (E_X11_count_0 0 rfl) rfl ?_
  by_cases w0 : q = 0
  · subst w0
    refine x_tsw (t := 64) (E_X11_count_0 1 rfl) (by decide) (by decide) (by decide) ?_
    refine x_aload_n (E_X11_count_0 2 rfl) rfl ?_
    refine x_getIe (v := τ 114 0) (E_X11_count_0 3 rfl) fl_X11_205 rfl (by decide) rfl ?_
    refine z_iret (E_X11_count_0 4 rfl) trivial ?_
    exact Or.inr (Or.inr ⟨trivial, trivial, f0, rf⟩)
  by_cases w1 : q = 1
  · subst w1
    refine x_tsw (t := 69) (E_X11_count_0 1 rfl) (by decide) (by decide) (by decide) ?_
    refine x_aload_n (E_X11_count_0 5 rfl) rfl ?_
    refine x_getIe (v := τ 114 1) (E_X11_count_0 6 rfl) fl_X11_208 rfl (by decide) rfl ?_
    refine z_iret (E_X11_count_0 7 rfl) trivial ?_
    exact Or.inr (Or.inr ⟨trivial, trivial, f1, rf⟩)
  by_cases w2 : q = 2
  · subst w2
    refine x_tsw (t := 74) (E_X11_count_0 1 rfl) (by decide) (by decide) (by decide) ?_
    refine x_aload_n (E_X11_count_0 8 rfl) rfl ?_
    refine x_getIe (v := τ 114 9) (E_X11_count_0 9 rfl) fl_X11_227 rfl (by decide) rfl ?_
    refine z_iret (E_X11_count_0 10 rfl) trivial ?_
    exact Or.inr (Or.inr ⟨trivial, trivial, f9, rf⟩)
  by_cases w3 : q = 3
  · subst w3
    refine x_tsw (t := 79) (E_X11_count_0 1 rfl) (by decide) (by decide) (by decide) ?_
    refine x_aload_n (E_X11_count_0 11 rfl) rfl ?_
    refine x_iconst (E_X11_count_0 12 rfl) ?_
    refine z_callVi (E_X11_count_0 13 rfl) ml_X11_381 mv_X11_linesNow rfl (by decide) (by decide) (c_X11_linesNow hR sc (by omega)) (by decide) rfl rfl (Nat.le_of_ble_eq_true rfl) (fun v7 τ7 k7 => ?_)
    obtain ⟨z7, k7⟩ := k7
    refine z_iret (E_X11_count_0 14 rfl) trivial ?_
    exact Or.inr (Or.inr ⟨trivial, trivial, z7, k7⟩)
  by_cases w4 : q = 4
  · subst w4
    refine x_tsw (t := 85) (E_X11_count_0 1 rfl) (by decide) (by decide) (by decide) ?_
    refine x_aload_n (E_X11_count_0 15 rfl) rfl ?_
    refine x_iconst (E_X11_count_0 16 rfl) ?_
    refine z_callVi (E_X11_count_0 17 rfl) ml_X11_381 mv_X11_linesNow rfl (by decide) (by decide) (c_X11_linesNow hR sc (by omega)) (by decide) rfl rfl (Nat.le_of_ble_eq_true rfl) (fun v7 τ7 k7 => ?_)
    obtain ⟨z7, k7⟩ := k7
    refine z_iret (E_X11_count_0 18 rfl) trivial ?_
    exact Or.inr (Or.inr ⟨trivial, trivial, z7, k7⟩)
  by_cases w5 : q = 5
  · subst w5
    refine x_tsw (t := 91) (E_X11_count_0 1 rfl) (by decide) (by decide) (by decide) ?_
    refine x_aload_n (E_X11_count_0 19 rfl) rfl ?_
    refine z_callVi (E_X11_count_0 20 rfl) ml_X11_384 mv_X11_papersToday rfl (by decide) (by decide) (c_X11_papersToday hR sc) (by decide) rfl rfl (Nat.le_of_ble_eq_true rfl) (fun v7 τ7 k7 => ?_)
    obtain ⟨z7, k7⟩ := k7
    refine z_iret (E_X11_count_0 21 rfl) trivial ?_
    exact Or.inr (Or.inr ⟨trivial, trivial, z7, k7⟩)
  by_cases w6 : q = 6
  · subst w6
    refine x_tsw (t := 96) (E_X11_count_0 1 rfl) (by decide) (by decide) (by decide) ?_
    refine x_aload_n (E_X11_count_0 22 rfl) rfl ?_
    refine x_iconst (E_X11_count_0 23 rfl) ?_
    refine z_callVi (E_X11_count_0 24 rfl) ml_X11_381 mv_X11_linesNow rfl (by decide) (by decide) (c_X11_linesNow hR sc (by omega)) (by decide) rfl rfl (Nat.le_of_ble_eq_true rfl) (fun v7 τ7 k7 => ?_)
    obtain ⟨z7, k7⟩ := k7
    refine z_iret (E_X11_count_0 25 rfl) trivial ?_
    exact Or.inr (Or.inr ⟨trivial, trivial, z7, k7⟩)
  by_cases w7 : q = 7
  · subst w7
    refine x_tsw (t := 102) (E_X11_count_0 1 rfl) (by decide) (by decide) (by decide) ?_
    refine x_aload_n (E_X11_count_0 26 rfl) rfl ?_
    refine x_getIe (v := τ 114 22) (E_X11_count_0 27 rfl) fl_X11_323 rfl (by decide) rfl ?_
    refine z_iret (E_X11_count_0 28 rfl) trivial ?_
    exact Or.inr (Or.inr ⟨trivial, trivial, f22, rf⟩)
  by_cases w8 : q = 8
  · subst w8
    refine x_tsw (t := 107) (E_X11_count_0 1 rfl) (by decide) (by decide) (by decide) ?_
    refine x_aload_n (E_X11_count_0 29 rfl) rfl ?_
    refine x_getIe (v := τ 114 60) (E_X11_count_0 30 rfl) fl_X11_387 rfl (by decide) rfl ?_
    refine z_iret (E_X11_count_0 31 rfl) trivial ?_
    exact Or.inr (Or.inr ⟨trivial, trivial, f60, rf⟩)
  by_cases w9 : q = 9
  · subst w9
    refine x_tsw (t := 112) (E_X11_count_0 1 rfl) (by decide) (by decide) (by decide) ?_
    refine x_aload_n (E_X11_count_0 32 rfl) rfl ?_
    refine x_getIe (v := τ 114 63) (E_X11_count_0 33 rfl) fl_X11_390 rfl (by decide) rfl ?_
    refine z_iret (E_X11_count_0 34 rfl) trivial ?_
    exact Or.inr (Or.inr ⟨trivial, trivial, f63, rf⟩)
  by_cases w10 : q = 10
  · subst w10
    refine x_tsw (t := 117) (E_X11_count_0 1 rfl) (by decide) (by decide) (by decide) ?_
    refine x_aload_n (E_X11_count_0 35 rfl) rfl ?_
    refine x_getIe (v := τ 114 29) (E_X11_count_0 36 rfl) fl_X11_264 rfl (by decide) rfl ?_
    refine z_iret (E_X11_count_0 37 rfl) trivial ?_
    exact Or.inr (Or.inr ⟨trivial, trivial, f29, rf⟩)
  by_cases w11 : q = 11
  · subst w11
    refine x_tsw (t := 122) (E_X11_count_0 1 rfl) (by decide) (by decide) (by decide) ?_
    refine x_aload_n (E_X11_count_0 38 rfl) rfl ?_
    refine x_getIe (v := τ 114 54) (E_X11_count_0 39 rfl) fl_X11_393 rfl (by decide) rfl ?_
    refine z_iret (E_X11_count_0 40 rfl) trivial ?_
    exact Or.inr (Or.inr ⟨trivial, trivial, f54, rf⟩)
  refine x_tswD (t := 127) (E_X11_count_0 1 rfl) (by omega) (by omega) (by decide) ?_
  refine x_sipush (z := (-1002)) (E_X11_count_0 41 rfl) (by decide) ?_
  refine z_iret (E_X11_count_0 42 rfl) trivial ?_
  exact Or.inr (Or.inr ⟨trivial, trivial, (ctZ_d (by omega)).symm, rf⟩)
theorem pair_count {q : Int} (hR : RR σ) (q1 : rgi q) : Pair l G M_X10_count 6 M_X11_count 5 [vi q] σ := by
  refine pair3 hR (c_X10_count hR q1) (fun _ _ => ?_) (fun τ sc => c_X11_count hR sc q1)
  have now := hR.now
  have n9 := hR.n9
  have nl12 := hR.lots
  have hy : YOk (nq σ) (σ 1 5) (σ 3) (Yq σ (σ 0 0) (σ 0 0)) := hR.yok
  have a1 := hR.2.2.2.2.1.2.1
  have a2 := hR.2.2.2.2.2.2.2.2.1.2.1
  have a3 := hR.2.2.2.2.2.2.2.2.2.1.2.1
  have a4 := hR.2.2.2.2.2.1.2.1
  have a5 := hR.2.2.2.2.2.2.1.2.1
  have b1 := sumS_rg (f := voidS (σ 8) (σ 11) (σ 10) (σ 0 0) (nq σ)) (B := 1) (n := nq σ) (fun j _ _ => by have := voidS_rg (kd := σ 8) (tg := σ 11) (td := σ 10) (kn := σ 0 0) (n := nq σ) j; omega)
  have b2 := sumS_rg (f := (Yq σ (σ 0 0) (σ 0 0)) 2) (B := 1) (n := nq σ) (fun j _ _ => by have := (hy.1 j).2; omega)
  have b3 := sumS_rg (f := (fun w => if (Yq σ (σ 0 0) (σ 0 0)) 1 w = 1 ∧ 0 < (Yq σ (σ 0 0) (σ 0 0)) 4 w then 1 else 0)) (B := 1) (n := nq σ) (fun j _ _ => by split <;> omega)
  have b4 := hR.y12 (d := σ 0 0) (kn := σ 0 0)
  unfold ctZ
  repeat' split
  all_goals omega

