/-! weight -/
variable {l : Launch} {G : GC} {σ : Nat → Int → Int}

theorem mul_rg {a b A B : Int} (h1 : 0 ≤ a ∧ a ≤ A) (h2 : 0 ≤ b ∧ b ≤ B) : 0 ≤ a * b ∧ a * b ≤ A * B := ⟨Int.mul_nonneg h1.1 h2.1, Int.mul_le_mul h1.2 h2.2 h2.1 (Int.le_trans h1.1 h1.2)⟩
/-- a cask's weight -/
def wtS (dry since w d : Int) : Int := w * max 0 (1000 - dry * (max 0 (d - since) / 7)) / 1000
theorem wtS_a {dry since w d k : Int} (hk : k = max 0 (d - since) / 7) : wtS dry since w d = if 1000 - dry * k < 0 then 0 else w * (1000 - dry * k) / 1000 := by
  subst hk
  unfold wtS
  split
  · rw [show max 0 (1000 - dry * (max 0 (d - since) / 7)) = 0 by omega, Int.mul_zero]
    rfl
  · rw [show max 0 (1000 - dry * (max 0 (d - since) / 7)) = 1000 - dry * (max 0 (d - since) / 7) by omega]
theorem wtS_rg {dry since w d : Int} (hd : 0 ≤ dry) (hs : 0 ≤ d) (hw : 0 ≤ w ∧ w ≤ 999) : 0 ≤ wtS dry since w d ∧ wtS dry since w d ≤ 999 := by
  have m := mul_rg (a := dry) (A := dry) (b := max 0 (d - since) / 7) (B := max 0 (d - since) / 7) ⟨hd, Int.le_refl _⟩ ⟨by omega, Int.le_refl _⟩
  have m2 := mul_rg (a := w) (b := max 0 (1000 - dry * (max 0 (d - since) / 7))) (A := 999) (B := 1000) hw (by omega)
  unfold wtS
  omega
set_option maxHeartbeats 1000000 in
theorem c_X10_caskWeight {i d : Int} (hi : 0 ≤ i ∧ i < σ 1 5) (hd : 0 ≤ d ∧ d ≤ 2000) (h0 : 0 ≤ σ 1 5 ∧ σ 1 5 ≤ 12) (hl : ∀ i, 0 ≤ i → i < σ 1 5 → LotOk 2000 (σ 2) (σ 3) (σ 4) (σ 5) (σ 6) i) (hO : TmOk σ) (ho : RepL (σ 38) (srtL (σ 18) (fun _ => true) (σ 17 8).toNat)) (hc : RCache (σ 17 7) (σ 17 8) (σ 18) (σ 19) (cdq σ) (vlq σ) (σ 40)) : CI l G M_X10_caskWeight 3 [vr 0, vi i, vi d] σ (fun z τ => z = wtS (heldS (σ 18) (σ 19) (cdq σ) (vlq σ) (σ 17 8).toNat d (5 + σ 2 i)) (σ 6 i) (σ 4 i) d ∧ HoldP d σ τ) := by
  obtain ⟨l1, l2, l3, l4, l5⟩ := hl i hi.1 hi.2
  refine Ct.of rfl (Nat.le_of_ble_eq_true rfl) ?_
  refine x_iconst (E_X10_caskWeight_0 0 rfl) ?_
  refine x_iload_n (E_X10_caskWeight_0 1 rfl) rfl ?_
  refine x_aload_n (E_X10_caskWeight_0 2 rfl) rfl ?_
  refine x_getR (E_X10_caskWeight_0 3 rfl) fl_X10_16 rfl (by decide) rfl ?_
  refine x_getR (E_X10_caskWeight_0 4 rfl) fl_X10_382 rfl (by decide) rfl ?_
  refine x_iload_n (E_X10_caskWeight_0 5 rfl) rfl ?_
  refine x_ialde (f := σ 6) (E_X10_caskWeight_0 6 rfl) rfl (by decide) (by omega) rfl ?_
  refine x_isub (E_X10_caskWeight_0 7 rfl) ?_
  refine x_mmax (E_X10_caskWeight_0 8 rfl) ml_X10_313 (by omega) (by omega) (by decide) ?_
  refine x_bipush (z := 7) (E_X10_caskWeight_0 9 rfl) (by decide) ?_
  refine x_idiv (E_X10_caskWeight_0 10 rfl) (by omega) (by omega) ?_
  refine x_istore_n (E_X10_caskWeight_0 11 rfl) rfl ?_
  refine x_iconst (E_X10_caskWeight_0 12 rfl) ?_
  refine x_sipush (z := 1000) (E_X10_caskWeight_0 13 rfl) (by decide) ?_
  refine x_aload_n (E_X10_caskWeight_0 14 rfl) rfl ?_
  refine x_getR (E_X10_caskWeight_0 15 rfl) fl_X10_30 rfl (by decide) rfl ?_
  refine x_iconst (E_X10_caskWeight_0 16 rfl) ?_
  refine x_aload_n (E_X10_caskWeight_0 17 rfl) rfl ?_
  refine x_getR (E_X10_caskWeight_0 18 rfl) fl_X10_16 rfl (by decide) rfl ?_
  refine x_getR (E_X10_caskWeight_0 19 rfl) fl_X10_385 rfl (by decide) rfl ?_
  refine x_iload_n (E_X10_caskWeight_0 20 rfl) rfl ?_
  refine x_ialde (f := σ 2) (E_X10_caskWeight_0 21 rfl) rfl (by decide) (by omega) rfl ?_
  refine x_iadd (E_X10_caskWeight_0 22 rfl) ?_
  refine x_iload_n (E_X10_caskWeight_0 23 rfl) rfl ?_
  refine z_callVi (E_X10_caskWeight_0 24 rfl) ml_X10_222 mv_X8_on rfl (by decide) (by decide) (c_X8_on (by omega) hd hO ho hc) (by decide) rfl rfl (Nat.le_of_ble_eq_true rfl) (fun z9 τ9 k9 => ?_)
  obtain ⟨e9, k9⟩ := k9
  have hb := hO.held (d := d) (q := 5 + σ 2 i) (by omega)
  rw [← e9] at hb
  have e4 := congrFun (k9.2.2.1 4 (by decide)) i
  have m1 := mul_rg (a := z9) (b := max 0 (d - σ 6 i) / 7) (A := 4095) (B := 286) hb (by omega)
  have m2 := mul_rg (a := τ9 4 i) (b := max 0 (1000 - z9 * (max 0 (d - σ 6 i) / 7))) (A := 999) (B := 1000) (by omega) (by omega)
  refine x_iload_n (E_X10_caskWeight_0 25 rfl) rfl ?_
  refine x_imul (E_X10_caskWeight_0 26 rfl) ?_
  refine x_isub (E_X10_caskWeight_0 27 rfl) ?_
  refine x_mmax (E_X10_caskWeight_0 28 rfl) ml_X10_313 (by omega) (by omega) (by decide) ?_
  refine x_istore (E_X10_caskWeight_0 29 rfl) rfl ?_
  refine x_aload_n (E_X10_caskWeight_0 30 rfl) rfl ?_
  refine x_getR (E_X10_caskWeight_0 31 rfl) fl_X10_16 rfl (by decide) rfl ?_
  refine x_getR (E_X10_caskWeight_0 32 rfl) fl_X10_388 rfl (by decide) rfl ?_
  refine x_iload_n (E_X10_caskWeight_0 33 rfl) rfl ?_
  refine x_ialde (f := τ9 4) (E_X10_caskWeight_0 34 rfl) rfl (by decide) (by omega) rfl ?_
  refine x_iload (E_X10_caskWeight_0 35 rfl) rfl ?_
  refine x_imul (E_X10_caskWeight_0 36 rfl) ?_
  refine x_sipush (z := 1000) (E_X10_caskWeight_0 37 rfl) (by decide) ?_
  refine x_idiv (E_X10_caskWeight_0 38 rfl) (by omega) (by omega) ?_
  refine z_iret (E_X10_caskWeight_0 39 rfl) trivial ?_
  refine ⟨?_, k9⟩
  rw [e9, e4]
  rfl
set_option maxHeartbeats 1000000 in
theorem c_X11_weightOn {dy cl : Int → Int} {cd vl : Int → Int → Int} {i d : Int} (hi : 0 ≤ i ∧ i < σ 114 1) (hd : 0 ≤ d ∧ d ≤ 2000) (h0 : 0 ≤ σ 114 1 ∧ σ 114 1 ≤ 12) (hl : ∀ i, 0 ≤ i → i < σ 114 1 → LotOk 2000 (σ 115) (σ 116) (σ 117) (σ 119) (σ 120) i) (hT : TmM dy cl cd vl σ) (hh : ∀ q, 0 ≤ q ∧ q < 10 → 0 ≤ heldS dy cl cd vl (σ 114 22).toNat d q ∧ heldS dy cl cd vl (σ 114 22).toNat d q ≤ 4095) : CI l G M_X11_weightOn 1 [vr 114, vi i, vi d] σ (fun z τ => z = wtS (heldS dy cl cd vl (σ 114 22).toNat d (5 + σ 115 i)) (σ 120 i) (σ 117 i) d ∧ FtP dy cl cd vl d σ τ) := by
  obtain ⟨l1, l2, l3, l4, l5⟩ := hl i hi.1 hi.2
  refine Ct.of rfl (Nat.le_of_ble_eq_true rfl) ?_
  refine x_aload_n (E_X11_weightOn_0 0 rfl) rfl ?_
  refine x_iload_n (E_X11_weightOn_0 1 rfl) rfl ?_
  refine z_callVv (E_X11_weightOn_0 2 rfl) ml_X11_341 mv_X11_findTerms rfl (by decide) (by decide) (c_X11_findTerms (by omega) hT) (by decide) rfl rfl (Nat.le_of_ble_eq_true rfl) (fun τ9 k9 => ?_)
  have e20 := congrFun (k9.2.2.1 120 (by decide)) i
  have e15 := congrFun (k9.2.2.1 115 (by decide)) i
  have e17 := congrFun (k9.2.2.1 117 (by decide)) i
  have h41 : τ9 141 (5 + τ9 115 i) = heldS dy cl cd vl (σ 114 22).toNat d (5 + σ 115 i) := by rw [e15]; exact k9.1 _ (by omega) (by omega)
  have hb := hh (5 + σ 115 i) (by omega)
  rw [← h41] at hb
  refine x_iload_n (E_X11_weightOn_0 3 rfl) rfl ?_
  refine x_aload_n (E_X11_weightOn_0 4 rfl) rfl ?_
  refine x_getR (E_X11_weightOn_0 5 rfl) fl_X11_25 rfl (by decide) rfl ?_
  refine x_iload_n (E_X11_weightOn_0 6 rfl) rfl ?_
  refine x_ialde (f := τ9 120) (E_X11_weightOn_0 7 rfl) rfl (by decide) (by omega) rfl ?_
  refine x_icmp_ge (E_X11_weightOn_0 8 rfl) (by omega) (by omega) (fun c1 => ?_) (fun c1 => ?_)
  · have kk : (d - τ9 120 i) / 7 = max 0 (d - σ 120 i) / 7 := by omega
    have m1 := mul_rg (a := τ9 141 (5 + τ9 115 i)) (b := (d - τ9 120 i) / 7) (A := 4095) (B := 286) hb (by omega)
    refine x_iload_n (E_X11_weightOn_0 11 rfl) rfl ?_
    refine x_aload_n (E_X11_weightOn_0 12 rfl) rfl ?_
    refine x_getR (E_X11_weightOn_0 13 rfl) fl_X11_25 rfl (by decide) rfl ?_
    refine x_iload_n (E_X11_weightOn_0 14 rfl) rfl ?_
    refine x_ialde (f := τ9 120) (E_X11_weightOn_0 15 rfl) rfl (by decide) (by omega) rfl ?_
    refine x_isub (E_X11_weightOn_0 16 rfl) ?_
    refine x_bipush (z := 7) (E_X11_weightOn_0 17 rfl) (by decide) ?_
    refine x_idiv (E_X11_weightOn_0 18 rfl) (by omega) (by omega) ?_
    refine x_istore_n (E_X11_weightOn_0 19 rfl) rfl ?_
    refine x_sipush (z := 1000) (E_X11_weightOn_0 20 rfl) (by decide) ?_
    refine x_aload_n (E_X11_weightOn_0 21 rfl) rfl ?_
    refine x_getR (E_X11_weightOn_0 22 rfl) fl_X11_93 rfl (by decide) rfl ?_
    refine x_iconst (E_X11_weightOn_0 23 rfl) ?_
    refine x_aload_n (E_X11_weightOn_0 24 rfl) rfl ?_
    refine x_getR (E_X11_weightOn_0 25 rfl) fl_X11_7 rfl (by decide) rfl ?_
    refine x_iload_n (E_X11_weightOn_0 26 rfl) rfl ?_
    refine x_ialde (f := τ9 115) (E_X11_weightOn_0 27 rfl) rfl (by decide) (by omega) rfl ?_
    refine x_iadd (E_X11_weightOn_0 28 rfl) ?_
    refine x_ialde (f := τ9 141) (E_X11_weightOn_0 29 rfl) rfl (by decide) (by omega) rfl ?_
    refine x_iload_n (E_X11_weightOn_0 30 rfl) rfl ?_
    refine x_imul (E_X11_weightOn_0 31 rfl) ?_
    refine x_isub (E_X11_weightOn_0 32 rfl) ?_
    refine x_istore (E_X11_weightOn_0 33 rfl) rfl ?_
    refine x_iload (E_X11_weightOn_0 34 rfl) rfl ?_
    refine x_if_ge (E_X11_weightOn_0 35 rfl) (by omega) (fun c2 => ?_) (fun c2 => ?_)
    · have m2 := mul_rg (a := τ9 117 i) (b := 1000 - τ9 141 (5 + τ9 115 i) * ((d - τ9 120 i) / 7)) (A := 999) (B := 1000) (by omega) (by omega)
      refine x_aload_n (E_X11_weightOn_0 38 rfl) rfl ?_
      refine x_getR (E_X11_weightOn_0 39 rfl) fl_X11_16 rfl (by decide) rfl ?_
      refine x_iload_n (E_X11_weightOn_0 40 rfl) rfl ?_
      refine x_ialde (f := τ9 117) (E_X11_weightOn_0 41 rfl) rfl (by decide) (by omega) rfl ?_
      refine x_iload (E_X11_weightOn_0 42 rfl) rfl ?_
      refine x_imul (E_X11_weightOn_0 43 rfl) ?_
      refine x_sipush (z := 1000) (E_X11_weightOn_0 44 rfl) (by decide) ?_
      refine x_idiv (E_X11_weightOn_0 45 rfl) (by omega) (by omega) ?_
      refine z_iret (E_X11_weightOn_0 46 rfl) trivial ?_
      rw [← h41, ← e17, wtS_a kk]
      exact ⟨(if_neg (by omega)).symm, k9⟩
    · refine x_iconst (E_X11_weightOn_0 36 rfl) ?_
      refine x_goto (E_X11_weightOn_0 37 rfl) ?_
      refine z_iret (E_X11_weightOn_0 46 rfl) trivial ?_
      rw [← h41, ← e17, wtS_a kk]
      exact ⟨(if_pos (by omega)).symm, k9⟩
  · have kk : (0 : Int) = max 0 (d - σ 120 i) / 7 := by omega
    have m1 : 0 ≤ τ9 141 (5 + τ9 115 i) * 0 ∧ τ9 141 (5 + τ9 115 i) * 0 ≤ 1171170 := by omega
    refine x_iconst (E_X11_weightOn_0 9 rfl) ?_
    refine x_goto (E_X11_weightOn_0 10 rfl) ?_
    refine x_istore_n (E_X11_weightOn_0 19 rfl) rfl ?_
    refine x_sipush (z := 1000) (E_X11_weightOn_0 20 rfl) (by decide) ?_
    refine x_aload_n (E_X11_weightOn_0 21 rfl) rfl ?_
    refine x_getR (E_X11_weightOn_0 22 rfl) fl_X11_93 rfl (by decide) rfl ?_
    refine x_iconst (E_X11_weightOn_0 23 rfl) ?_
    refine x_aload_n (E_X11_weightOn_0 24 rfl) rfl ?_
    refine x_getR (E_X11_weightOn_0 25 rfl) fl_X11_7 rfl (by decide) rfl ?_
    refine x_iload_n (E_X11_weightOn_0 26 rfl) rfl ?_
    refine x_ialde (f := τ9 115) (E_X11_weightOn_0 27 rfl) rfl (by decide) (by omega) rfl ?_
    refine x_iadd (E_X11_weightOn_0 28 rfl) ?_
    refine x_ialde (f := τ9 141) (E_X11_weightOn_0 29 rfl) rfl (by decide) (by omega) rfl ?_
    refine x_iload_n (E_X11_weightOn_0 30 rfl) rfl ?_
    refine x_imul (E_X11_weightOn_0 31 rfl) ?_
    refine x_isub (E_X11_weightOn_0 32 rfl) ?_
    refine x_istore (E_X11_weightOn_0 33 rfl) rfl ?_
    refine x_iload (E_X11_weightOn_0 34 rfl) rfl ?_
    refine x_if_ge (E_X11_weightOn_0 35 rfl) (by omega) (fun c3 => ?_) (fun c3 => ?_)
    · have m2 := mul_rg (a := τ9 117 i) (b := 1000 - τ9 141 (5 + τ9 115 i) * 0) (A := 999) (B := 1000) (by omega) (by omega)
      refine x_aload_n (E_X11_weightOn_0 38 rfl) rfl ?_
      refine x_getR (E_X11_weightOn_0 39 rfl) fl_X11_16 rfl (by decide) rfl ?_
      refine x_iload_n (E_X11_weightOn_0 40 rfl) rfl ?_
      refine x_ialde (f := τ9 117) (E_X11_weightOn_0 41 rfl) rfl (by decide) (by omega) rfl ?_
      refine x_iload (E_X11_weightOn_0 42 rfl) rfl ?_
      refine x_imul (E_X11_weightOn_0 43 rfl) ?_
      refine x_sipush (z := 1000) (E_X11_weightOn_0 44 rfl) (by decide) ?_
      refine x_idiv (E_X11_weightOn_0 45 rfl) (by omega) (by omega) ?_
      refine z_iret (E_X11_weightOn_0 46 rfl) trivial ?_
      rw [← h41, ← e17, wtS_a kk]
      exact ⟨(if_neg (by omega)).symm, k9⟩
    · refine x_iconst (E_X11_weightOn_0 36 rfl) ?_
      refine x_goto (E_X11_weightOn_0 37 rfl) ?_
      refine z_iret (E_X11_weightOn_0 46 rfl) trivial ?_
      rw [← h41, ← e17, wtS_a kk]
      exact ⟨(if_pos (by omega)).symm, k9⟩
theorem c_X10_weight {i d : Int} (q1 : rgi i) (q2 : rgi d) (h0 : 0 ≤ σ 1 5 ∧ σ 1 5 ≤ 12) (hl : ∀ i, 0 ≤ i → i < σ 1 5 → LotOk 2000 (σ 2) (σ 3) (σ 4) (σ 5) (σ 6) i) (hO : TmOk σ) (ho : RepL (σ 38) (srtL (σ 18) (fun _ => true) (σ 17 8).toNat)) (hc : RCache (σ 17 7) (σ 17 8) (σ 18) (σ 19) (cdq σ) (vlq σ) (σ 40)) : CI l G M_X10_weight 4 [vr 0, vi i, vi d] σ (fun z τ => (¬ (0 ≤ i ∧ i < σ 1 5) ∧ z = -1001 ∧ τ = σ) ∨ ((0 ≤ i ∧ i < σ 1 5) ∧ ¬ (0 ≤ d ∧ d ≤ 2000) ∧ z = -1002 ∧ τ = σ) ∨ ((0 ≤ i ∧ i < σ 1 5) ∧ (0 ≤ d ∧ d ≤ 2000) ∧ z = wtS (heldS (σ 18) (σ 19) (cdq σ) (vlq σ) (σ 17 8).toNat d (5 + σ 2 i)) (σ 6 i) (σ 4 i) d ∧ HoldP d σ τ)) := by
  refine Ct.of rfl (Nat.le_of_ble_eq_true rfl) ?_
  refine x_aload_n (E_X10_weight_0 0 rfl) rfl ?_
  refine x_getR (E_X10_weight_0 1 rfl) fl_X10_16 rfl (by decide) rfl ?_
  refine x_iload_n (E_X10_weight_0 2 rfl) rfl ?_
  refine z_callVi (E_X10_weight_0 3 rfl) ml_X10_121 mv_X3_has rfl (by decide) (by decide) (c_X3_has (by omega) (by omega)) (by decide) rfl rfl (Nat.le_of_ble_eq_true rfl) (fun z9 τ9 h9 => ?_)
  obtain ⟨rfl, ⟨rfl, c1⟩ | ⟨rfl, c1⟩⟩ := h9
  · refine x_if_ne (E_X10_weight_0 4 rfl) (by decide) (fun _ => ?_) (fun c9 => absurd c9 (by decide))
    refine x_iload_n (E_X10_weight_0 7 rfl) rfl ?_
    refine z_callSi (E_X10_weight_0 8 rfl) ml_X10_207 ms_X10_isDay (c_X10_isDay (by omega)) (by decide) rfl rfl (Nat.le_of_ble_eq_true rfl) (fun z9 τ9 h9 => ?_)
    obtain ⟨rfl, ⟨rfl, c2⟩ | ⟨rfl, c2⟩⟩ := h9
    · refine x_if_eq (E_X10_weight_0 9 rfl) (by decide) (fun c9 => absurd c9 (by decide)) (fun _ => ?_)
      refine x_aload_n (E_X10_weight_0 10 rfl) rfl ?_
      refine x_iload_n (E_X10_weight_0 11 rfl) rfl ?_
      refine x_iload_n (E_X10_weight_0 12 rfl) rfl ?_
      refine z_callVi (E_X10_weight_0 13 rfl) ml_X10_300 mv_X10_caskWeight rfl (by decide) (by decide) (c_X10_caskWeight (by omega) (by omega) h0 hl hO ho hc) (by decide) rfl rfl (Nat.le_of_ble_eq_true rfl) (fun z9 τ9 k9 => ?_)
      refine x_goto (E_X10_weight_0 14 rfl) ?_
      refine z_iret (E_X10_weight_0 16 rfl) trivial ?_
      exact Or.inr (Or.inr ⟨by omega, by omega, k9⟩)
    · refine x_if_eq (E_X10_weight_0 9 rfl) (by decide) (fun _ => ?_) (fun c9 => absurd (by decide) c9)
      refine x_sipush (z := (-1002)) (E_X10_weight_0 15 rfl) (by decide) ?_
      refine z_iret (E_X10_weight_0 16 rfl) trivial ?_
      exact Or.inr (Or.inl ⟨by omega, by omega, rfl, rfl⟩)
  · refine x_if_ne (E_X10_weight_0 4 rfl) (by decide) (fun c9 => absurd c9 (by decide)) (fun _ => ?_)
    refine x_sipush (z := (-1001)) (E_X10_weight_0 5 rfl) (by decide) ?_
    refine z_iret (E_X10_weight_0 6 rfl) trivial ?_
    exact Or.inl ⟨by omega, rfl, rfl⟩
theorem c_X11_weight {dy cl : Int → Int} {cd vl : Int → Int → Int} {i d : Int} (q1 : rgi i) (q2 : rgi d) (h0 : 0 ≤ σ 114 1 ∧ σ 114 1 ≤ 12) (hl : ∀ i, 0 ≤ i → i < σ 114 1 → LotOk 2000 (σ 115) (σ 116) (σ 117) (σ 119) (σ 120) i) (hT : TmM dy cl cd vl σ) (hh : ∀ q, 0 ≤ q ∧ q < 10 → 0 ≤ heldS dy cl cd vl (σ 114 22).toNat d q ∧ heldS dy cl cd vl (σ 114 22).toNat d q ≤ 4095) : CI l G M_X11_weight 2 [vr 114, vi i, vi d] σ (fun z τ => (¬ (0 ≤ i ∧ i < σ 114 1) ∧ z = -1001 ∧ τ = σ) ∨ ((0 ≤ i ∧ i < σ 114 1) ∧ ¬ (0 ≤ d ∧ d ≤ 2000) ∧ z = -1002 ∧ τ = σ) ∨ ((0 ≤ i ∧ i < σ 114 1) ∧ (0 ≤ d ∧ d ≤ 2000) ∧ z = wtS (heldS dy cl cd vl (σ 114 22).toNat d (5 + σ 115 i)) (σ 120 i) (σ 117 i) d ∧ FtP dy cl cd vl d σ τ)) := by
  refine Ct.of rfl (Nat.le_of_ble_eq_true rfl) ?_
  refine x_aload_n (E_X11_weight_0 0 rfl) rfl ?_
  refine x_iload_n (E_X11_weight_0 1 rfl) rfl ?_
  refine z_callVi (E_X11_weight_0 2 rfl) ml_X11_224 mv_X11_noLot rfl (by decide) (by decide) (c_X11_noLot (by omega) (by omega)) (by decide) rfl rfl (Nat.le_of_ble_eq_true rfl) (fun z9 τ9 h9 => ?_)
  obtain ⟨rfl, ⟨rfl, c1⟩ | ⟨rfl, c1⟩⟩ := h9
  · refine x_if_eq (E_X11_weight_0 3 rfl) (by decide) (fun c9 => absurd c9 (by decide)) (fun _ => ?_)
    refine x_sipush (z := (-1001)) (E_X11_weight_0 4 rfl) (by decide) ?_
    refine z_iret (E_X11_weight_0 5 rfl) trivial ?_
    exact Or.inl ⟨by omega, rfl, rfl⟩
  · refine x_if_eq (E_X11_weight_0 3 rfl) (by decide) (fun _ => ?_) (fun c9 => absurd (by decide) c9)
    refine x_iload_n (E_X11_weight_0 6 rfl) rfl ?_
    refine z_callSi (E_X11_weight_0 7 rfl) ml_X11_326 ms_X11_isDay (c_X11_isDay (by omega)) (by decide) rfl rfl (Nat.le_of_ble_eq_true rfl) (fun z9 τ9 h9 => ?_)
    obtain ⟨rfl, ⟨rfl, c2⟩ | ⟨rfl, c2⟩⟩ := h9
    · refine x_if_eq (E_X11_weight_0 8 rfl) (by decide) (fun c9 => absurd c9 (by decide)) (fun _ => ?_)
      refine x_aload_n (E_X11_weight_0 9 rfl) rfl ?_
      refine x_iload_n (E_X11_weight_0 10 rfl) rfl ?_
      refine x_iload_n (E_X11_weight_0 11 rfl) rfl ?_
      refine z_callVi (E_X11_weight_0 12 rfl) ml_X11_416 mv_X11_weightOn rfl (by decide) (by decide) (c_X11_weightOn (by omega) (by omega) h0 hl hT hh) (by decide) rfl rfl (Nat.le_of_ble_eq_true rfl) (fun z9 τ9 k9 => ?_)
      refine x_goto (E_X11_weight_0 13 rfl) ?_
      refine z_iret (E_X11_weight_0 15 rfl) trivial ?_
      exact Or.inr (Or.inr ⟨by omega, by omega, k9⟩)
    · refine x_if_eq (E_X11_weight_0 8 rfl) (by decide) (fun _ => ?_) (fun c9 => absurd (by decide) c9)
      refine x_sipush (z := (-1002)) (E_X11_weight_0 14 rfl) (by decide) ?_
      refine z_iret (E_X11_weight_0 15 rfl) trivial ?_
      exact Or.inr (Or.inl ⟨by omega, by omega, rfl, rfl⟩)
theorem RLots.ok {now nl ml : Int} {c2 c3 c4 c5 c6 m2 m3 m4 m5 m6 : Int → Int} (h : RLots now nl ml c2 c3 c4 c5 c6 m2 m3 m4 m5 m6) (hn : now ≤ 2000) : ∀ i, 0 ≤ i → i < nl → LotOk 2000 c2 c3 c4 c5 c6 i := (h.later hn).2.2.2
theorem pair_weight {i d : Int} (hR : RR σ) (q1 : rgi i) (q2 : rgi d) : Pair l G M_X10_weight 4 M_X11_weight 2 [vi i, vi d] σ := by
  have hR0 := hR
  obtain ⟨⟨e0, h0⟩, r2, -, -, r5, -, -, -, -, -, -, r12⟩ := hR
  have ok := r5.ok
  have lok := r2.ok h0.2
  obtain ⟨e1, h1, ⟨m2, m3, m4, m5, m6⟩, -⟩ := r2
  refine ⟨_, c_X10_weight q1 q2 h1 lok ok r5.2.2.2.2 r12, fun z τ c1 => ?_⟩
  have mod : ∀ τ, Sc σ τ → CI l G M_X11_weight 2 [vr 114, vi i, vi d] τ (fun z υ => (¬ (0 ≤ i ∧ i < σ 1 5) ∧ z = -1001 ∧ υ = τ) ∨ ((0 ≤ i ∧ i < σ 1 5) ∧ ¬ (0 ≤ d ∧ d ≤ 2000) ∧ z = -1002 ∧ υ = τ) ∨ ((0 ≤ i ∧ i < σ 1 5) ∧ (0 ≤ d ∧ d ≤ 2000) ∧ z = wtS (heldS (σ 18) (σ 19) (cdq σ) (vlq σ) (σ 17 8).toNat d (5 + σ 2 i)) (σ 6 i) (σ 4 i) d ∧ FtP (σ 18) (σ 19) (cdq σ) (vlq σ) d τ υ)) := by
    intro τ sc
    have f1 : τ 114 1 = σ 1 5 := (sc.2 (114, 1) (by decide)).trans e1
    have f22 : τ 114 22 = σ 17 8 := (sc.2 (114, 22) (by decide)).trans r5.1
    have g2 : τ 115 = σ 2 := (sc.1 115 (by decide)).trans m2
    have g3 : τ 116 = σ 3 := (sc.1 116 (by decide)).trans m3
    have g4 : τ 117 = σ 4 := (sc.1 117 (by decide)).trans m4
    have g5 : τ 119 = σ 5 := (sc.1 119 (by decide)).trans m5
    have g6 : τ 120 = σ 6 := (sc.1 120 (by decide)).trans m6
    have c := c_X11_weight (l := l) (G := G) (σ := τ) (dy := σ 18) (cl := σ 19) (cd := cdq σ) (vl := vlq σ) q1 q2 (by rw [f1]; exact h1) (by rw [f1, g2, g3, g4, g5, g6]; exact lok) (r5.model sc) (by rw [f22]; exact fun q hq => ok.held hq)
    rw [f1, f22, g2, g4, g6] at c
    exact c
  rcases c1 with ⟨a, rfl, rfl⟩ | ⟨a, b, rfl, rfl⟩ | ⟨a, b, rfl, c1⟩
  · refine ⟨by omega, CI_mono (mod _ ⟨fun _ _ => rfl, fun _ _ => rfl⟩) (fun z υ c2 => ?_)⟩
    rcases c2 with ⟨_, rfl, rfl⟩ | ⟨b, -⟩ | ⟨b, -⟩
    · exact ⟨rfl, hR0⟩
    · exact absurd b a
    · exact absurd b a
  · refine ⟨by omega, CI_mono (mod _ ⟨fun _ _ => rfl, fun _ _ => rfl⟩) (fun z υ c2 => ?_)⟩
    rcases c2 with ⟨c, -⟩ | ⟨_, _, rfl, rfl⟩ | ⟨_, c, -⟩
    · exact absurd a c
    · exact ⟨rfl, hR0⟩
    · exact absurd c b
  · have hw := wtS_rg (dry := heldS (σ 18) (σ 19) (cdq σ) (vlq σ) (σ 17 8).toNat d (5 + σ 2 i)) (since := σ 6 i) (w := σ 4 i) (d := d) (ok.held (by have := (lok i a.1 a.2).1; omega)).1 b.1 (by have := (lok i a.1 a.2).2.2.1; omega)
    refine ⟨by omega, CI_mono (mod _ c1.sc) (fun z υ c2 => ?_)⟩
    rcases c2 with ⟨c, -⟩ | ⟨_, c, -⟩ | ⟨_, _, rfl, c2⟩
    · exact absurd a c
    · exact absurd b c
    · exact ⟨rfl, c2.sd.rr (c1.rr b hR0)⟩

