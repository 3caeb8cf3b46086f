/-! loss -/
variable {l : Launch} {G : GC} {σ : Nat → Int → Int}

/-- the loss of a weighing -/
def lsS (w a wd tol pay : Int) : Int := if w = 0 then max 0 (a - wd) else if w = 1 then (if tol * a < 1000 * max 0 (a - wd) then max 0 (a - wd) else 0) else (if tol * a < 1000 * max 0 (a - wd) then pay else -1)
set_option maxHeartbeats 2000000 in
theorem c_X10_loss {i w : Int} (q1 : rgi i) (q2 : rgi w) (hw : 0 ≤ σ 74 4 ∧ σ 74 4 ≤ 40) (hW : ∀ i, 0 ≤ i → i < σ 74 4 → (0 ≤ σ 75 i ∧ σ 75 i < σ 1 5) ∧ (1 ≤ σ 76 i ∧ σ 76 i ≤ 200) ∧ (0 ≤ σ 77 i ∧ σ 77 i ≤ 199999) ∧ (0 ≤ σ 78 i ∧ σ 78 i ≤ 2000)) (h0 : 0 ≤ σ 1 5 ∧ σ 1 5 ≤ 12) (hl : ∀ i, 0 ≤ i → i < σ 1 5 → LotOk 2000 (σ 2) (σ 3) (σ 4) (σ 5) (σ 6) i) (hO : TmOk σ) (ho : RepL (σ 38) (srtL (σ 18) (fun _ => true) (σ 17 8).toNat)) (hc : RCache (σ 17 7) (σ 17 8) (σ 18) (σ 19) (cdq σ) (vlq σ) (σ 40)) : CI l G M_X10_loss 4 [vr 0, vi i, vi w] σ (fun z τ => (¬ (0 ≤ i ∧ i < σ 74 4) ∧ z = -1001 ∧ τ = σ) ∨ ((0 ≤ i ∧ i < σ 74 4) ∧ ¬ (0 ≤ w ∧ w ≤ 2) ∧ z = -1002 ∧ τ = σ) ∨ ((0 ≤ i ∧ i < σ 74 4) ∧ (0 ≤ w ∧ w ≤ 2) ∧ z = lsS w (σ 76 i * wtS (heldS (σ 18) (σ 19) (cdq σ) (vlq σ) (σ 17 8).toNat (σ 78 i) (5 + σ 2 (σ 75 i))) (σ 6 (σ 75 i)) (σ 4 (σ 75 i)) (σ 78 i)) (σ 77 i) (heldS (σ 18) (σ 19) (cdq σ) (vlq σ) (σ 17 8).toNat (σ 78 i) 3) (heldS (σ 18) (σ 19) (cdq σ) (vlq σ) (σ 17 8).toNat (σ 78 i) 4) ∧ HoldP (σ 78 i) σ τ)) := by
  refine Ct.of rfl (Nat.le_of_ble_eq_true rfl) ?_
  refine x_iload_n (E_X10_loss_0 0 rfl) rfl ?_
  refine x_iconst (E_X10_loss_0 1 rfl) ?_
  refine x_aload_n (E_X10_loss_0 2 rfl) rfl ?_
  refine x_getR (E_X10_loss_0 3 rfl) fl_X10_63 rfl (by decide) rfl ?_
  refine x_getIe (v := σ 74 4) (E_X10_loss_0 4 rfl) fl_X10_204 rfl (by decide) rfl ?_
  refine x_iconst (E_X10_loss_0 5 rfl) ?_
  refine x_isub (E_X10_loss_0 6 rfl) ?_
  refine z_callSi (E_X10_loss_0 7 rfl) ml_X10_100 ms_X10_within (c_X10_within (by omega) (by omega) (by omega)) (by decide) rfl rfl (Nat.le_of_ble_eq_true rfl) (fun z9 τ9 h9 => ?_)
  obtain ⟨rfl, ⟨rfl, c1⟩ | ⟨rfl, c1⟩⟩ := h9
  · refine x_if_ne (E_X10_loss_0 8 rfl) (by decide) (fun _ => ?_) (fun c9 => absurd c9 (by decide))
    refine x_iload_n (E_X10_loss_0 11 rfl) rfl ?_
    refine x_iconst (E_X10_loss_0 12 rfl) ?_
    refine x_iconst (E_X10_loss_0 13 rfl) ?_
    refine z_callSi (E_X10_loss_0 14 rfl) ml_X10_100 ms_X10_within (c_X10_within (by omega) (by omega) (by omega)) (by decide) rfl rfl (Nat.le_of_ble_eq_true rfl) (fun z9 τ9 h9 => ?_)
    obtain ⟨rfl, ⟨rfl, c2⟩ | ⟨rfl, c2⟩⟩ := h9
    · refine x_if_ne (E_X10_loss_0 15 rfl) (by decide) (fun _ => ?_) (fun c9 => absurd c9 (by decide))
      have w1 := hW i (by omega) (by omega)
      obtain ⟨l1, l2, l3, l4, l5⟩ := hl (σ 75 i) w1.1.1 w1.1.2
      refine x_aload_n (E_X10_loss_0 18 rfl) rfl ?_
      refine x_getR (E_X10_loss_0 19 rfl) fl_X10_63 rfl (by decide) rfl ?_
      refine x_getR (E_X10_loss_0 20 rfl) fl_X10_307 rfl (by decide) rfl ?_
      refine x_iload_n (E_X10_loss_0 21 rfl) rfl ?_
      refine x_ialde (f := σ 78) (E_X10_loss_0 22 rfl) rfl (by decide) (by omega) rfl ?_
      refine x_istore_n (E_X10_loss_0 23 rfl) rfl ?_
      refine x_aload_n (E_X10_loss_0 24 rfl) rfl ?_
      refine x_getR (E_X10_loss_0 25 rfl) fl_X10_63 rfl (by decide) rfl ?_
      refine x_getR (E_X10_loss_0 26 rfl) fl_X10_308 rfl (by decide) rfl ?_
      refine x_iload_n (E_X10_loss_0 27 rfl) rfl ?_
      refine x_ialde (f := σ 76) (E_X10_loss_0 28 rfl) rfl (by decide) (by omega) rfl ?_
      refine x_aload_n (E_X10_loss_0 29 rfl) rfl ?_
      refine x_aload_n (E_X10_loss_0 30 rfl) rfl ?_
      refine x_getR (E_X10_loss_0 31 rfl) fl_X10_63 rfl (by decide) rfl ?_
      refine x_getR (E_X10_loss_0 32 rfl) fl_X10_309 rfl (by decide) rfl ?_
      refine x_iload_n (E_X10_loss_0 33 rfl) rfl ?_
      refine x_ialde (f := σ 75) (E_X10_loss_0 34 rfl) rfl (by decide) (by omega) rfl ?_
      refine x_iload_n (E_X10_loss_0 35 rfl) rfl ?_
      refine z_callVi (E_X10_loss_0 36 rfl) ml_X10_300 mv_X10_caskWeight rfl (by decide) (by decide) (c_X10_caskWeight (by omega) (by omega) h0 hl hO ho hc) (by decide) rfl rfl (Nat.le_of_ble_eq_true rfl) (fun W9 τ9 k9 => ?_)
      obtain ⟨eW, k9⟩ := k9
      have hr := wtS_rg (dry := heldS (σ 18) (σ 19) (cdq σ) (vlq σ) (σ 17 8).toNat (σ 78 i) (5 + σ 2 (σ 75 i))) (since := σ 6 (σ 75 i)) (w := σ 4 (σ 75 i)) (d := σ 78 i) (hO.held (by omega)).1 (by omega) (by omega)
      rw [← eW] at hr
      have m1 := mul_rg (a := σ 76 i) (b := W9) (A := 200) (B := 999) (by omega) hr
      have e77 := congrFun (k9.2.2.1 77 (by decide)) i
      refine x_imul (E_X10_loss_0 37 rfl) ?_
      refine x_istore (E_X10_loss_0 38 rfl) rfl ?_
      refine x_iconst (E_X10_loss_0 39 rfl) ?_
      refine x_iload (E_X10_loss_0 40 rfl) rfl ?_
      refine x_aload_n (E_X10_loss_0 41 rfl) rfl ?_
      refine x_getR (E_X10_loss_0 42 rfl) fl_X10_63 rfl (by decide) rfl ?_
      refine x_getR (E_X10_loss_0 43 rfl) fl_X10_310 rfl (by decide) rfl ?_
      refine x_iload_n (E_X10_loss_0 44 rfl) rfl ?_
      refine x_ialde (f := τ9 77) (E_X10_loss_0 45 rfl) rfl (by decide) (by omega) rfl ?_
      refine x_isub (E_X10_loss_0 46 rfl) ?_
      refine x_mmax (E_X10_loss_0 47 rfl) ml_X10_313 (by omega) (by omega) (by decide) ?_
      refine x_istore (E_X10_loss_0 48 rfl) rfl ?_
      refine x_iload_n (E_X10_loss_0 49 rfl) rfl ?_
      refine x_if_ne (E_X10_loss_0 50 rfl) (by omega) (fun c3 => ?_) (fun c3 => ?_)
      · refine x_ldc2 (z := 1000) (E_X10_loss_0 53 rfl) kc_X10_318 (by decide) ?_
        refine x_iload (E_X10_loss_0 54 rfl) rfl ?_
        refine x_i2l (E_X10_loss_0 55 rfl) (by omega) ?_
        refine x_lmul (E_X10_loss_0 56 rfl) ?_
        refine x_aload_n (E_X10_loss_0 57 rfl) rfl ?_
        refine x_getR (E_X10_loss_0 58 rfl) fl_X10_30 rfl (by decide) rfl ?_
        refine x_iconst (E_X10_loss_0 59 rfl) ?_
        refine x_iload_n (E_X10_loss_1 0 rfl) rfl ?_
        refine z_callVi (E_X10_loss_1 1 rfl) ml_X10_222 mv_X8_on rfl (by decide) (by decide) (c_X8_on (by omega) (by omega) (k9.ok hO) (k9.ord ho) (k9.cache2 (by omega))) (by decide) rfl rfl (Nat.le_of_ble_eq_true rfl) (fun z8 τ8 k8 => ?_)
        obtain ⟨e8, k8⟩ := k8
        rw [k9.held] at e8
        have hb8 := hO.held (d := σ 78 i) (q := 3) (by omega)
        rw [← e8] at hb8
        have m2 := mul_rg (a := z8) (b := σ 76 i * W9) (A := 4095) (B := 199800) hb8 (by omega)
        have k9 := k9.trans k8
        refine x_i2l (E_X10_loss_1 2 rfl) (by omega) ?_
        refine x_iload (E_X10_loss_1 3 rfl) rfl ?_
        refine x_i2l (E_X10_loss_1 4 rfl) (by omega) ?_
        refine x_lmul (E_X10_loss_1 5 rfl) ?_
        refine x_lcmp (E_X10_loss_1 6 rfl) (by omega) (by omega) ?_
        have lc := lCmp_gt (x := 1000 * max 0 (σ 76 i * W9 - τ9 77 i)) (y := z8 * (σ 76 i * W9))
        refine x_if_le (E_X10_loss_1 7 rfl) lCmp_rg (fun c4 => ?_) (fun c4 => ?_)
        · refine x_iconst (E_X10_loss_1 10 rfl) ?_
          refine x_istore (E_X10_loss_1 11 rfl) rfl ?_
          refine x_iload_n (E_X10_loss_1 12 rfl) rfl ?_
          refine x_iconst (E_X10_loss_1 13 rfl) ?_
          refine x_icmp_ne (E_X10_loss_1 14 rfl) (by omega) (by decide) (fun c5 => ?_) (fun c5 => ?_)
          · refine x_iload (E_X10_loss_1 21 rfl) rfl ?_
            refine x_if_eq (E_X10_loss_1 22 rfl) (by omega) (fun c6 => ?_) (fun c6 => ?_)
            · refine x_iconst (E_X10_loss_1 29 rfl) ?_
              refine z_iret (E_X10_loss_1 30 rfl) trivial ?_
              refine Or.inr (Or.inr ⟨by omega, by omega, ?_, k9⟩)
              rw [← eW, ← e77, ← e8]
              exact ((if_neg (by omega)).trans ((if_neg (by omega)).trans (if_neg (by omega)))).symm
            · exfalso; omega
          · refine x_iload (E_X10_loss_1 15 rfl) rfl ?_
            refine x_if_eq (E_X10_loss_1 16 rfl) (by omega) (fun c7 => ?_) (fun c7 => ?_)
            · refine x_iconst (E_X10_loss_1 19 rfl) ?_
              refine z_iret (E_X10_loss_1 20 rfl) trivial ?_
              refine Or.inr (Or.inr ⟨by omega, by omega, ?_, k9⟩)
              rw [← eW, ← e77, ← e8]
              exact ((if_neg (by omega)).trans ((if_pos (by omega)).trans (if_neg (by omega)))).symm
            · exfalso; omega
        · refine x_iconst (E_X10_loss_1 8 rfl) ?_
          refine x_goto (E_X10_loss_1 9 rfl) ?_
          refine x_istore (E_X10_loss_1 11 rfl) rfl ?_
          refine x_iload_n (E_X10_loss_1 12 rfl) rfl ?_
          refine x_iconst (E_X10_loss_1 13 rfl) ?_
          refine x_icmp_ne (E_X10_loss_1 14 rfl) (by omega) (by decide) (fun c8 => ?_) (fun c8 => ?_)
          · refine x_iload (E_X10_loss_1 21 rfl) rfl ?_
            refine x_if_eq (E_X10_loss_1 22 rfl) (by omega) (fun c9 => ?_) (fun c9 => ?_)
            · exfalso; omega
            · refine x_aload_n (E_X10_loss_1 23 rfl) rfl ?_
              refine x_getR (E_X10_loss_1 24 rfl) fl_X10_30 rfl (by decide) rfl ?_
              refine x_iconst (E_X10_loss_1 25 rfl) ?_
              refine x_iload_n (E_X10_loss_1 26 rfl) rfl ?_
              refine z_callVi (E_X10_loss_1 27 rfl) ml_X10_222 mv_X8_on rfl (by decide) (by decide) (c_X8_on (by omega) (by omega) (k9.ok hO) (k9.ord ho) (k9.cache2 (by omega))) (by decide) rfl rfl (Nat.le_of_ble_eq_true rfl) (fun z7 τ7 k7 => ?_)
              obtain ⟨e7, k7⟩ := k7
              rw [k9.held] at e7
              have k9 := k9.trans k7
              refine x_goto (E_X10_loss_1 28 rfl) ?_
              refine z_iret (E_X10_loss_1 30 rfl) trivial ?_
              refine Or.inr (Or.inr ⟨by omega, by omega, ?_, k9⟩)
              rw [← eW, ← e77, ← e8, ← e7]
              exact ((if_neg (by omega)).trans ((if_neg (by omega)).trans (if_pos (by omega)))).symm
          · refine x_iload (E_X10_loss_1 15 rfl) rfl ?_
            refine x_if_eq (E_X10_loss_1 16 rfl) (by omega) (fun c10 => ?_) (fun c10 => ?_)
            · exfalso; omega
            · refine x_iload (E_X10_loss_1 17 rfl) rfl ?_
              refine x_goto (E_X10_loss_1 18 rfl) ?_
              refine z_iret (E_X10_loss_1 20 rfl) trivial ?_
              refine Or.inr (Or.inr ⟨by omega, by omega, ?_, k9⟩)
              rw [← eW, ← e77, ← e8]
              exact ((if_neg (by omega)).trans ((if_pos (by omega)).trans (if_pos (by omega)))).symm
      · refine x_iload (E_X10_loss_0 51 rfl) rfl ?_
        refine z_iret (E_X10_loss_0 52 rfl) trivial ?_
        refine Or.inr (Or.inr ⟨by omega, by omega, ?_, k9⟩)
        rw [← eW, ← e77]
        exact (if_pos (by omega)).symm
    · refine x_if_ne (E_X10_loss_0 15 rfl) (by decide) (fun c9 => absurd c9 (by decide)) (fun _ => ?_)
      refine x_sipush (z := (-1002)) (E_X10_loss_0 16 rfl) (by decide) ?_
      refine z_iret (E_X10_loss_0 17 rfl) trivial ?_
      exact Or.inr (Or.inl ⟨by omega, by omega, rfl, rfl⟩)
  · refine x_if_ne (E_X10_loss_0 8 rfl) (by decide) (fun c9 => absurd c9 (by decide)) (fun _ => ?_)
    refine x_sipush (z := (-1001)) (E_X10_loss_0 9 rfl) (by decide) ?_
    refine z_iret (E_X10_loss_0 10 rfl) trivial ?_
    exact Or.inl ⟨by omega, rfl, rfl⟩
set_option maxHeartbeats 2000000 in
theorem c_X11_loss {dy cl : Int → Int} {cd vl : Int → Int → Int} {i w : Int} (q1 : rgi i) (q2 : rgi w) (hw : 0 ≤ σ 114 54 ∧ σ 114 54 ≤ 40) (hW : ∀ i, 0 ≤ i → i < σ 114 54 → (0 ≤ σ 155 i ∧ σ 155 i < σ 114 1) ∧ (1 ≤ σ 156 i ∧ σ 156 i ≤ 200) ∧ (0 ≤ σ 157 i ∧ σ 157 i ≤ 199999) ∧ (0 ≤ σ 158 i ∧ σ 158 i ≤ 2000)) (h0 : 0 ≤ σ 114 1 ∧ σ 114 1 ≤ 12) (hl : ∀ i, 0 ≤ i → i < σ 114 1 → LotOk 2000 (σ 115) (σ 116) (σ 117) (σ 119) (σ 120) i) (hT : TmM dy cl cd vl σ) (hh : ∀ d q, 0 ≤ q ∧ q < 10 → 0 ≤ heldS dy cl cd vl (σ 114 22).toNat d q ∧ heldS dy cl cd vl (σ 114 22).toNat d q ≤ 4095) : CI l G M_X11_loss 2 [vr 114, vi i, vi w] σ (fun z τ => (¬ (0 ≤ i ∧ i < σ 114 54) ∧ z = -1001 ∧ τ = σ) ∨ ((0 ≤ i ∧ i < σ 114 54) ∧ ¬ (0 ≤ w ∧ w ≤ 2) ∧ z = -1002 ∧ τ = σ) ∨ ((0 ≤ i ∧ i < σ 114 54) ∧ (0 ≤ w ∧ w ≤ 2) ∧ z = lsS w (σ 156 i * wtS (heldS dy cl cd vl (σ 114 22).toNat (σ 158 i) (5 + σ 115 (σ 155 i))) (σ 120 (σ 155 i)) (σ 117 (σ 155 i)) (σ 158 i)) (σ 157 i) (heldS dy cl cd vl (σ 114 22).toNat (σ 158 i) 3) (heldS dy cl cd vl (σ 114 22).toNat (σ 158 i) 4) ∧ FtP dy cl cd vl (σ 158 i) σ τ)) := by
  refine Ct.of rfl (Nat.le_of_ble_eq_true rfl) ?_
  refine x_iload_n (E_X11_loss_0 0 rfl) rfl ?_
  refine x_i2l (E_X11_loss_0 1 rfl) (by omega) ?_
  refine x_lconst (z := 0) (E_X11_loss_0 2 rfl) rfl ?_
  refine x_aload_n (E_X11_loss_0 3 rfl) rfl ?_
  refine x_getIe (v := σ 114 54) (E_X11_loss_0 4 rfl) fl_X11_393 rfl (by decide) rfl ?_
  refine x_iconst (E_X11_loss_0 5 rfl) ?_
  refine x_isub (E_X11_loss_0 6 rfl) ?_
  refine x_i2l (E_X11_loss_0 7 rfl) (by omega) ?_
  refine z_callSi (E_X11_loss_0 8 rfl) ml_X11_197 ms_X11_in (c_X11_in (by omega) (by omega) (by omega)) (by decide) rfl rfl (Nat.le_of_ble_eq_true rfl) (fun z9 τ9 h9 => ?_)
  obtain ⟨rfl, ⟨rfl, c1⟩ | ⟨rfl, c1⟩⟩ := h9
  · refine x_if_ne (E_X11_loss_0 9 rfl) (by decide) (fun _ => ?_) (fun c9 => absurd c9 (by decide))
    refine x_iload_n (E_X11_loss_0 12 rfl) rfl ?_
    refine x_i2l (E_X11_loss_0 13 rfl) (by omega) ?_
    refine x_lconst (z := 0) (E_X11_loss_0 14 rfl) rfl ?_
    refine x_ldc2 (z := 2) (E_X11_loss_0 15 rfl) kc_X11_421 (by decide) ?_
    refine z_callSi (E_X11_loss_0 16 rfl) ml_X11_197 ms_X11_in (c_X11_in (by omega) (by omega) (by omega)) (by decide) rfl rfl (Nat.le_of_ble_eq_true rfl) (fun z9 τ9 h9 => ?_)
    obtain ⟨rfl, ⟨rfl, c2⟩ | ⟨rfl, c2⟩⟩ := h9
    · refine x_if_ne (E_X11_loss_0 17 rfl) (by decide) (fun _ => ?_) (fun c9 => absurd c9 (by decide))
      have w1 := hW i (by omega) (by omega)
      obtain ⟨l1, l2, l3, l4, l5⟩ := hl (σ 155 i) w1.1.1 w1.1.2
      refine x_aload_n (E_X11_loss_0 20 rfl) rfl ?_
      refine x_getR (E_X11_loss_0 21 rfl) fl_X11_138 rfl (by decide) rfl ?_
      refine x_iload_n (E_X11_loss_0 22 rfl) rfl ?_
      refine x_ialde (f := σ 156) (E_X11_loss_0 23 rfl) rfl (by decide) (by omega) rfl ?_
      refine x_aload_n (E_X11_loss_0 24 rfl) rfl ?_
      refine x_aload_n (E_X11_loss_0 25 rfl) rfl ?_
      refine x_getR (E_X11_loss_0 26 rfl) fl_X11_135 rfl (by decide) rfl ?_
      refine x_iload_n (E_X11_loss_0 27 rfl) rfl ?_
      refine x_ialde (f := σ 155) (E_X11_loss_0 28 rfl) rfl (by decide) (by omega) rfl ?_
      refine x_aload_n (E_X11_loss_0 29 rfl) rfl ?_
      refine x_getR (E_X11_loss_0 30 rfl) fl_X11_144 rfl (by decide) rfl ?_
      refine x_iload_n (E_X11_loss_0 31 rfl) rfl ?_
      refine x_ialde (f := σ 158) (E_X11_loss_0 32 rfl) rfl (by decide) (by omega) rfl ?_
      refine z_callVi (E_X11_loss_0 33 rfl) ml_X11_416 mv_X11_weightOn rfl (by decide) (by decide) (c_X11_weightOn (by omega) (by omega) h0 hl hT (hh _)) (by decide) rfl rfl (Nat.le_of_ble_eq_true rfl) (fun W9 τ9 k9 => ?_)
      obtain ⟨eW, k9⟩ := k9
      have hr := wtS_rg (dry := heldS dy cl cd vl (σ 114 22).toNat (σ 158 i) (5 + σ 115 (σ 155 i))) (since := σ 120 (σ 155 i)) (w := σ 117 (σ 155 i)) (d := σ 158 i) (hh _ _ (by omega)).1 (by omega) (by omega)
      rw [← eW] at hr
      have m1 := mul_rg (a := σ 156 i) (b := W9) (A := 200) (B := 999) (by omega) hr
      have e77 := congrFun (k9.2.2.1 157 (by decide)) i
      have e8 := k9.1 3 (by omega) (by omega)
      have e7 := k9.1 4 (by omega) (by omega)
      have hb8 := hh (σ 158 i) 3 (by omega)
      rw [← e8] at hb8
      have m2 := mul_rg (a := τ9 141 3) (b := σ 156 i * W9) (A := 4095) (B := 199800) hb8 (by omega)
      refine x_imul (E_X11_loss_0 34 rfl) ?_
      refine x_istore_n (E_X11_loss_0 35 rfl) rfl ?_
      refine x_iload_n (E_X11_loss_0 36 rfl) rfl ?_
      refine x_aload_n (E_X11_loss_0 37 rfl) rfl ?_
      refine x_getR (E_X11_loss_0 38 rfl) fl_X11_141 rfl (by decide) rfl ?_
      refine x_iload_n (E_X11_loss_0 39 rfl) rfl ?_
      refine x_ialde (f := τ9 157) (E_X11_loss_0 40 rfl) rfl (by decide) (by omega) rfl ?_
      refine x_isub (E_X11_loss_0 41 rfl) ?_
      refine x_istore (E_X11_loss_0 42 rfl) rfl ?_
      refine x_iload (E_X11_loss_0 43 rfl) rfl ?_
      refine x_if_ge (E_X11_loss_0 44 rfl) (by omega) (fun c3 => ?_) (fun c3 => ?_)
      · have eL : σ 156 i * W9 - τ9 157 i = max 0 (σ 156 i * W9 - τ9 157 i) := by omega
        refine x_iload (E_X11_loss_0 47 rfl) rfl ?_
        refine x_istore (E_X11_loss_0 48 rfl) rfl ?_
        refine x_ldc2 (z := 1000) (E_X11_loss_0 49 rfl) kc_X11_423 (by decide) ?_
        refine x_iload (E_X11_loss_0 50 rfl) rfl ?_
        refine x_i2l (E_X11_loss_0 51 rfl) (by omega) ?_
        refine x_lmul (E_X11_loss_0 52 rfl) ?_
        refine x_aload_n (E_X11_loss_0 53 rfl) rfl ?_
        refine x_getR (E_X11_loss_0 54 rfl) fl_X11_93 rfl (by decide) rfl ?_
        refine x_iconst (E_X11_loss_0 55 rfl) ?_
        refine x_ialde (f := τ9 141) (E_X11_loss_0 56 rfl) rfl (by decide) (by omega) rfl ?_
        refine x_i2l (E_X11_loss_0 57 rfl) (by omega) ?_
        refine x_iload_n (E_X11_loss_0 58 rfl) rfl ?_
        refine x_i2l (E_X11_loss_0 59 rfl) (by omega) ?_
        refine x_lmul (E_X11_loss_1 0 rfl) ?_
        refine x_lcmp (E_X11_loss_1 1 rfl) (by omega) (by omega) ?_
        have lc := lCmp_gt (x := 1000 * (σ 156 i * W9 - τ9 157 i)) (y := τ9 141 3 * (σ 156 i * W9))
        refine x_if_le (E_X11_loss_1 2 rfl) lCmp_rg (fun c4 => ?_) (fun c4 => ?_)
        · refine x_iconst (E_X11_loss_1 5 rfl) ?_
          refine x_istore (E_X11_loss_1 6 rfl) rfl ?_
          refine x_iload_n (E_X11_loss_1 7 rfl) rfl ?_
          refine x_if_ne (E_X11_loss_1 8 rfl) (by omega) (fun c5 => ?_) (fun c5 => ?_)
          · refine x_iload_n (E_X11_loss_1 11 rfl) rfl ?_
            refine x_iconst (E_X11_loss_1 12 rfl) ?_
            refine x_icmp_ne (E_X11_loss_1 13 rfl) (by omega) (by decide) (fun c6 => ?_) (fun c6 => ?_)
            · refine x_iload (E_X11_loss_1 20 rfl) rfl ?_
              refine x_if_eq (E_X11_loss_1 21 rfl) (by omega) (fun c7 => ?_) (fun c7 => ?_)
              · refine x_iconst (E_X11_loss_1 27 rfl) ?_
                refine z_iret (E_X11_loss_1 28 rfl) trivial ?_
                refine Or.inr (Or.inr ⟨by omega, by omega, ?_, k9⟩)
                rw [← eW, ← e77, ← e8, ← e7]
                unfold lsS
                rw [← eL]
                exact ((if_neg (by omega)).trans ((if_neg (by omega)).trans (if_neg (by omega)))).symm
              · exfalso; omega
            · refine x_iload (E_X11_loss_1 14 rfl) rfl ?_
              refine x_if_eq (E_X11_loss_1 15 rfl) (by omega) (fun c8 => ?_) (fun c8 => ?_)
              · refine x_iconst (E_X11_loss_1 18 rfl) ?_
                refine x_goto (E_X11_loss_1 19 rfl) ?_
                refine z_iret (E_X11_loss_1 28 rfl) trivial ?_
                refine Or.inr (Or.inr ⟨by omega, by omega, ?_, k9⟩)
                rw [← eW, ← e77, ← e8, ← e7]
                unfold lsS
                rw [← eL]
                exact ((if_neg (by omega)).trans ((if_pos (by omega)).trans (if_neg (by omega)))).symm
              · exfalso; omega
          · refine x_iload (E_X11_loss_1 9 rfl) rfl ?_
            refine x_goto (E_X11_loss_1 10 rfl) ?_
            refine z_iret (E_X11_loss_1 28 rfl) trivial ?_
            refine Or.inr (Or.inr ⟨by omega, by omega, ?_, k9⟩)
            rw [← eW, ← e77, ← e8, ← e7]
            unfold lsS
            rw [← eL]
            exact (if_pos (by omega)).symm
        · refine x_iconst (E_X11_loss_1 3 rfl) ?_
          refine x_goto (E_X11_loss_1 4 rfl) ?_
          refine x_istore (E_X11_loss_1 6 rfl) rfl ?_
          refine x_iload_n (E_X11_loss_1 7 rfl) rfl ?_
          refine x_if_ne (E_X11_loss_1 8 rfl) (by omega) (fun c9 => ?_) (fun c9 => ?_)
          · refine x_iload_n (E_X11_loss_1 11 rfl) rfl ?_
            refine x_iconst (E_X11_loss_1 12 rfl) ?_
            refine x_icmp_ne (E_X11_loss_1 13 rfl) (by omega) (by decide) (fun c10 => ?_) (fun c10 => ?_)
            · refine x_iload (E_X11_loss_1 20 rfl) rfl ?_
              refine x_if_eq (E_X11_loss_1 21 rfl) (by omega) (fun c11 => ?_) (fun c11 => ?_)
              · exfalso; omega
              · refine x_aload_n (E_X11_loss_1 22 rfl) rfl ?_
                refine x_getR (E_X11_loss_1 23 rfl) fl_X11_93 rfl (by decide) rfl ?_
                refine x_iconst (E_X11_loss_1 24 rfl) ?_
                refine x_ialde (f := τ9 141) (E_X11_loss_1 25 rfl) rfl (by decide) (by omega) rfl ?_
                refine x_goto (E_X11_loss_1 26 rfl) ?_
                refine z_iret (E_X11_loss_1 28 rfl) trivial ?_
                refine Or.inr (Or.inr ⟨by omega, by omega, ?_, k9⟩)
                rw [← eW, ← e77, ← e8, ← e7]
                unfold lsS
                rw [← eL]
                exact ((if_neg (by omega)).trans ((if_neg (by omega)).trans (if_pos (by omega)))).symm
            · refine x_iload (E_X11_loss_1 14 rfl) rfl ?_
              refine x_if_eq (E_X11_loss_1 15 rfl) (by omega) (fun c12 => ?_) (fun c12 => ?_)
              · exfalso; omega
              · refine x_iload (E_X11_loss_1 16 rfl) rfl ?_
                refine x_goto (E_X11_loss_1 17 rfl) ?_
                refine z_iret (E_X11_loss_1 28 rfl) trivial ?_
                refine Or.inr (Or.inr ⟨by omega, by omega, ?_, k9⟩)
                rw [← eW, ← e77, ← e8, ← e7]
                unfold lsS
                rw [← eL]
                exact ((if_neg (by omega)).trans ((if_pos (by omega)).trans (if_pos (by omega)))).symm
          · refine x_iload (E_X11_loss_1 9 rfl) rfl ?_
            refine x_goto (E_X11_loss_1 10 rfl) ?_
            refine z_iret (E_X11_loss_1 28 rfl) trivial ?_
            refine Or.inr (Or.inr ⟨by omega, by omega, ?_, k9⟩)
            rw [← eW, ← e77, ← e8, ← e7]
            unfold lsS
            rw [← eL]
            exact (if_pos (by omega)).symm
      · have eL : (0 : Int) = max 0 (σ 156 i * W9 - τ9 157 i) := by omega
        refine x_iconst (E_X11_loss_0 45 rfl) ?_
        refine x_goto (E_X11_loss_0 46 rfl) ?_
        refine x_istore (E_X11_loss_0 48 rfl) rfl ?_
        refine x_ldc2 (z := 1000) (E_X11_loss_0 49 rfl) kc_X11_423 (by decide) ?_
        refine x_iload (E_X11_loss_0 50 rfl) rfl ?_
        refine x_i2l (E_X11_loss_0 51 rfl) (by omega) ?_
        refine x_lmul (E_X11_loss_0 52 rfl) ?_
        refine x_aload_n (E_X11_loss_0 53 rfl) rfl ?_
        refine x_getR (E_X11_loss_0 54 rfl) fl_X11_93 rfl (by decide) rfl ?_
        refine x_iconst (E_X11_loss_0 55 rfl) ?_
        refine x_ialde (f := τ9 141) (E_X11_loss_0 56 rfl) rfl (by decide) (by omega) rfl ?_
        refine x_i2l (E_X11_loss_0 57 rfl) (by omega) ?_
        refine x_iload_n (E_X11_loss_0 58 rfl) rfl ?_
        refine x_i2l (E_X11_loss_0 59 rfl) (by omega) ?_
        refine x_lmul (E_X11_loss_1 0 rfl) ?_
        refine x_lcmp (E_X11_loss_1 1 rfl) (by omega) (by omega) ?_
        have lc := lCmp_gt (x := 1000 * 0) (y := τ9 141 3 * (σ 156 i * W9))
        refine x_if_le (E_X11_loss_1 2 rfl) lCmp_rg (fun c13 => ?_) (fun c13 => ?_)
        · refine x_iconst (E_X11_loss_1 5 rfl) ?_
          refine x_istore (E_X11_loss_1 6 rfl) rfl ?_
          refine x_iload_n (E_X11_loss_1 7 rfl) rfl ?_
          refine x_if_ne (E_X11_loss_1 8 rfl) (by omega) (fun c14 => ?_) (fun c14 => ?_)
          · refine x_iload_n (E_X11_loss_1 11 rfl) rfl ?_
            refine x_iconst (E_X11_loss_1 12 rfl) ?_
            refine x_icmp_ne (E_X11_loss_1 13 rfl) (by omega) (by decide) (fun c15 => ?_) (fun c15 => ?_)
            · refine x_iload (E_X11_loss_1 20 rfl) rfl ?_
              refine x_if_eq (E_X11_loss_1 21 rfl) (by omega) (fun c16 => ?_) (fun c16 => ?_)
              · refine x_iconst (E_X11_loss_1 27 rfl) ?_
                refine z_iret (E_X11_loss_1 28 rfl) trivial ?_
                refine Or.inr (Or.inr ⟨by omega, by omega, ?_, k9⟩)
                rw [← eW, ← e77, ← e8, ← e7]
                unfold lsS
                rw [← eL]
                exact ((if_neg (by omega)).trans ((if_neg (by omega)).trans (if_neg (by omega)))).symm
              · exfalso; omega
            · refine x_iload (E_X11_loss_1 14 rfl) rfl ?_
              refine x_if_eq (E_X11_loss_1 15 rfl) (by omega) (fun c17 => ?_) (fun c17 => ?_)
              · refine x_iconst (E_X11_loss_1 18 rfl) ?_
                refine x_goto (E_X11_loss_1 19 rfl) ?_
                refine z_iret (E_X11_loss_1 28 rfl) trivial ?_
                refine Or.inr (Or.inr ⟨by omega, by omega, ?_, k9⟩)
                rw [← eW, ← e77, ← e8, ← e7]
                unfold lsS
                rw [← eL]
                exact ((if_neg (by omega)).trans ((if_pos (by omega)).trans (if_neg (by omega)))).symm
              · exfalso; omega
          · refine x_iload (E_X11_loss_1 9 rfl) rfl ?_
            refine x_goto (E_X11_loss_1 10 rfl) ?_
            refine z_iret (E_X11_loss_1 28 rfl) trivial ?_
            refine Or.inr (Or.inr ⟨by omega, by omega, ?_, k9⟩)
            rw [← eW, ← e77, ← e8, ← e7]
            unfold lsS
            rw [← eL]
            exact (if_pos (by omega)).symm
        · refine x_iconst (E_X11_loss_1 3 rfl) ?_
          refine x_goto (E_X11_loss_1 4 rfl) ?_
          refine x_istore (E_X11_loss_1 6 rfl) rfl ?_
          refine x_iload_n (E_X11_loss_1 7 rfl) rfl ?_
          refine x_if_ne (E_X11_loss_1 8 rfl) (by omega) (fun c18 => ?_) (fun c18 => ?_)
          · refine x_iload_n (E_X11_loss_1 11 rfl) rfl ?_
            refine x_iconst (E_X11_loss_1 12 rfl) ?_
            refine x_icmp_ne (E_X11_loss_1 13 rfl) (by omega) (by decide) (fun c19 => ?_) (fun c19 => ?_)
            · refine x_iload (E_X11_loss_1 20 rfl) rfl ?_
              refine x_if_eq (E_X11_loss_1 21 rfl) (by omega) (fun c20 => ?_) (fun c20 => ?_)
              · exfalso; omega
              · refine x_aload_n (E_X11_loss_1 22 rfl) rfl ?_
                refine x_getR (E_X11_loss_1 23 rfl) fl_X11_93 rfl (by decide) rfl ?_
                refine x_iconst (E_X11_loss_1 24 rfl) ?_
                refine x_ialde (f := τ9 141) (E_X11_loss_1 25 rfl) rfl (by decide) (by omega) rfl ?_
                refine x_goto (E_X11_loss_1 26 rfl) ?_
                refine z_iret (E_X11_loss_1 28 rfl) trivial ?_
                refine Or.inr (Or.inr ⟨by omega, by omega, ?_, k9⟩)
                rw [← eW, ← e77, ← e8, ← e7]
                unfold lsS
                rw [← eL]
                exact ((if_neg (by omega)).trans ((if_neg (by omega)).trans (if_pos (by omega)))).symm
            · refine x_iload (E_X11_loss_1 14 rfl) rfl ?_
              refine x_if_eq (E_X11_loss_1 15 rfl) (by omega) (fun c21 => ?_) (fun c21 => ?_)
              · exfalso; omega
              · refine x_iload (E_X11_loss_1 16 rfl) rfl ?_
                refine x_goto (E_X11_loss_1 17 rfl) ?_
                refine z_iret (E_X11_loss_1 28 rfl) trivial ?_
                refine Or.inr (Or.inr ⟨by omega, by omega, ?_, k9⟩)
                rw [← eW, ← e77, ← e8, ← e7]
                unfold lsS
                rw [← eL]
                exact ((if_neg (by omega)).trans ((if_pos (by omega)).trans (if_pos (by omega)))).symm
          · refine x_iload (E_X11_loss_1 9 rfl) rfl ?_
            refine x_goto (E_X11_loss_1 10 rfl) ?_
            refine z_iret (E_X11_loss_1 28 rfl) trivial ?_
            refine Or.inr (Or.inr ⟨by omega, by omega, ?_, k9⟩)
            rw [← eW, ← e77, ← e8, ← e7]
            unfold lsS
            rw [← eL]
            exact (if_pos (by omega)).symm
    · refine x_if_ne (E_X11_loss_0 17 rfl) (by decide) (fun c9 => absurd c9 (by decide)) (fun _ => ?_)
      refine x_sipush (z := (-1002)) (E_X11_loss_0 18 rfl) (by decide) ?_
      refine z_iret (E_X11_loss_0 19 rfl) trivial ?_
      exact Or.inr (Or.inl ⟨by omega, by omega, rfl, rfl⟩)
  · refine x_if_ne (E_X11_loss_0 9 rfl) (by decide) (fun c9 => absurd c9 (by decide)) (fun _ => ?_)
    refine x_sipush (z := (-1001)) (E_X11_loss_0 10 rfl) (by decide) ?_
    refine z_iret (E_X11_loss_0 11 rfl) trivial ?_
    exact Or.inl ⟨by omega, rfl, rfl⟩

theorem lsS_rg {w a wd tol pay : Int} (ha : 0 ≤ a ∧ a ≤ 199800) (hwd : 0 ≤ wd) (hp : 0 ≤ pay ∧ pay ≤ 4095) : rgi (lsS w a wd tol pay) := by
  unfold lsS
  repeat' split
  all_goals omega
theorem pair_loss {i w : Int} (hR : RR σ) (q1 : rgi i) (q2 : rgi w) : Pair l G M_X10_loss 4 M_X11_loss 2 [vi i, vi w] σ := by
  have hR0 := hR
  obtain ⟨⟨e0, h0⟩, r2, -, -, r5, -, ⟨e54, h54, ⟨w1, w2, w3, w4⟩, hW⟩, -, -, -, -, r12⟩ := hR
  have ok := r5.ok
  have lok := r2.ok h0.2
  obtain ⟨e1, h1, ⟨m2, m3, m4, m5, m6⟩, -⟩ := r2
  refine ⟨_, c_X10_loss q1 q2 h54 hW h1 lok ok r5.2.2.2.2 r12, fun z τ c1 => ?_⟩
  have mod : ∀ τ, Sc σ τ → CI l G M_X11_loss 2 [vr 114, vi i, vi w] τ (fun z υ => (¬ (0 ≤ i ∧ i < σ 74 4) ∧ z = -1001 ∧ υ = τ) ∨ ((0 ≤ i ∧ i < σ 74 4) ∧ ¬ (0 ≤ w ∧ w ≤ 2) ∧ z = -1002 ∧ υ = τ) ∨ ((0 ≤ i ∧ i < σ 74 4) ∧ (0 ≤ w ∧ w ≤ 2) ∧ z = lsS w (σ 76 i * wtS (heldS (σ 18) (σ 19) (cdq σ) (vlq σ) (σ 17 8).toNat (σ 78 i) (5 + σ 2 (σ 75 i))) (σ 6 (σ 75 i)) (σ 4 (σ 75 i)) (σ 78 i)) (σ 77 i) (heldS (σ 18) (σ 19) (cdq σ) (vlq σ) (σ 17 8).toNat (σ 78 i) 3) (heldS (σ 18) (σ 19) (cdq σ) (vlq σ) (σ 17 8).toNat (σ 78 i) 4) ∧ FtP (σ 18) (σ 19) (cdq σ) (vlq σ) (σ 78 i) τ υ)) := by
    intro τ sc
    have f1 : τ 114 1 = σ 1 5 := (sc.2 (114, 1) (by decide)).trans e1
    have f22 : τ 114 22 = σ 17 8 := (sc.2 (114, 22) (by decide)).trans r5.1
    have f54 : τ 114 54 = σ 74 4 := (sc.2 (114, 54) (by decide)).trans e54
    have g2 : τ 115 = σ 2 := (sc.1 115 (by decide)).trans m2
    have g3 : τ 116 = σ 3 := (sc.1 116 (by decide)).trans m3
    have g4 : τ 117 = σ 4 := (sc.1 117 (by decide)).trans m4
    have g5 : τ 119 = σ 5 := (sc.1 119 (by decide)).trans m5
    have g6 : τ 120 = σ 6 := (sc.1 120 (by decide)).trans m6
    have k1 : τ 155 = σ 75 := (sc.1 155 (by decide)).trans w1
    have k2 : τ 156 = σ 76 := (sc.1 156 (by decide)).trans w2
    have k3 : τ 157 = σ 77 := (sc.1 157 (by decide)).trans w3
    have k4 : τ 158 = σ 78 := (sc.1 158 (by decide)).trans w4
    have c := c_X11_loss (l := l) (G := G) (σ := τ) (dy := σ 18) (cl := σ 19) (cd := cdq σ) (vl := vlq σ) q1 q2 (by rw [f54]; exact h54) (by rw [f54, f1, k1, k2, k3, k4]; exact hW) (by rw [f1]; exact h1) (by rw [f1, g2, g3, g4, g5, g6]; exact lok) (r5.model sc) (by rw [f22]; exact fun d q hq => ok.held hq)
    rw [f54, f22, g2, g4, g6, k1, k2, k3, k4] at c
    exact c
  rcases c1 with ⟨a, rfl, rfl⟩ | ⟨a, b, rfl, rfl⟩ | ⟨a, b, rfl, c1⟩
  · refine ⟨by omega, CI_mono (mod _ ⟨fun _ _ => rfl, fun _ _ => rfl⟩) (fun z υ c2 => ?_)⟩
    rcases c2 with ⟨_, rfl, rfl⟩ | ⟨b, -⟩ | ⟨b, -⟩
    · exact ⟨rfl, hR0⟩
    · exact absurd b a
    · exact absurd b a
  · refine ⟨by omega, CI_mono (mod _ ⟨fun _ _ => rfl, fun _ _ => rfl⟩) (fun z υ c2 => ?_)⟩
    rcases c2 with ⟨c, -⟩ | ⟨_, _, rfl, rfl⟩ | ⟨_, c, -⟩
    · exact absurd a c
    · exact ⟨rfl, hR0⟩
    · exact absurd c b
  · obtain ⟨p1, p2, p3, p4⟩ := hW i a.1 a.2
    have lk := lok _ p1.1 p1.2
    have hw := wtS_rg (dry := heldS (σ 18) (σ 19) (cdq σ) (vlq σ) (σ 17 8).toNat (σ 78 i) (5 + σ 2 (σ 75 i))) (since := σ 6 (σ 75 i)) (w := σ 4 (σ 75 i)) (d := σ 78 i) (ok.held (by have := lk.1; omega)).1 p4.1 (by have := lk.2.2.1; omega)
    have mm := mul_rg (a := σ 76 i) (A := 200) (B := 999) (by omega) hw
    refine ⟨lsS_rg (by omega) p3.1 (ok.held (by omega)), CI_mono (mod _ c1.sc) (fun z υ c2 => ?_)⟩
    rcases c2 with ⟨c, -⟩ | ⟨_, c, -⟩ | ⟨_, _, rfl, c2⟩
    · exact absurd a c
    · exact absurd b c
    · exact ⟨rfl, c2.sd.rr (c1.rr p4 hR0)⟩

