/-! calls without loops, on both -/
variable {l : Launch} {G : GC} {σ : Nat → Int → Int}

theorem c_X3_add {so n w f dd : Int} (h0 : 0 ≤ σ 1 5 ∧ σ 1 5 < 12) : CI l G M_X3_add 0 [vr 1, vi so, vi n, vi w, vi f, vi dd] σ (fun z τ => z = σ 1 5 ∧ τ = upq (upq (upq (upq (upq (upq σ 2 (σ 1 5) so) 3 (σ 1 5) n) 4 (σ 1 5) w) 5 (σ 1 5) f) 6 (σ 1 5) dd) 1 5 (σ 1 5 + 1)) := by
  refine Ct.of rfl (Nat.le_of_ble_eq_true rfl) ?_
  refine x_aload_n (E_X3_add_0 0 rfl) rfl ?_
  refine x_getIe (v := σ 1 5) (E_X3_add_0 1 rfl) fl_X3_27 rfl (by decide) rfl ?_
  refine x_istore (E_X3_add_0 2 rfl) rfl ?_
  refine x_aload_n (E_X3_add_0 3 rfl) rfl ?_
  refine x_getR (E_X3_add_0 4 rfl) fl_X3_9 rfl (by decide) rfl ?_
  refine x_iload (E_X3_add_0 5 rfl) rfl ?_
  refine x_iload_n (E_X3_add_0 6 rfl) rfl ?_
  refine x_iast (E_X3_add_0 7 rfl) rfl (by decide) (by omega) ?_
  refine x_aload_n (E_X3_add_0 8 rfl) rfl ?_
  refine x_getR (E_X3_add_0 9 rfl) fl_X3_15 rfl (by decide) rfl ?_
  refine x_iload (E_X3_add_0 10 rfl) rfl ?_
  refine x_iload_n (E_X3_add_0 11 rfl) rfl ?_
  refine x_iast (E_X3_add_0 12 rfl) rfl (by decide) (by omega) ?_
  refine x_aload_n (E_X3_add_0 13 rfl) rfl ?_
  refine x_getR (E_X3_add_0 14 rfl) fl_X3_18 rfl (by decide) rfl ?_
  refine x_iload (E_X3_add_0 15 rfl) rfl ?_
  refine x_iload_n (E_X3_add_0 16 rfl) rfl ?_
  refine x_iast (E_X3_add_0 17 rfl) rfl (by decide) (by omega) ?_
  refine x_aload_n (E_X3_add_0 18 rfl) rfl ?_
  refine x_getR (E_X3_add_0 19 rfl) fl_X3_21 rfl (by decide) rfl ?_
  refine x_iload (E_X3_add_0 20 rfl) rfl ?_
  refine x_iload (E_X3_add_0 21 rfl) rfl ?_
  refine x_iast (E_X3_add_0 22 rfl) rfl (by decide) (by omega) ?_
  refine x_aload_n (E_X3_add_0 23 rfl) rfl ?_
  refine x_getR (E_X3_add_0 24 rfl) fl_X3_24 rfl (by decide) rfl ?_
  refine x_iload (E_X3_add_0 25 rfl) rfl ?_
  refine x_iload (E_X3_add_0 26 rfl) rfl ?_
  refine x_iast (E_X3_add_0 27 rfl) rfl (by decide) (by omega) ?_
  refine x_aload_n (E_X3_add_0 28 rfl) rfl ?_
  refine x_dupr (E_X3_add_0 29 rfl) ?_
  refine x_getIe (v := σ 1 5) (E_X3_add_0 30 rfl) fl_X3_27 rfl (by decide) rfl ?_
  refine x_iconst (E_X3_add_0 31 rfl) ?_
  refine x_iadd (E_X3_add_0 32 rfl) ?_
  refine x_putI (E_X3_add_0 33 rfl) fl_X3_27 rfl (by decide) ?_
  refine x_iload (E_X3_add_0 34 rfl) rfl ?_
  refine z_iret (E_X3_add_0 35 rfl) trivial ?_
  exact ⟨rfl, rfl⟩

theorem c_X9_add {i n w d : Int} (h0 : 0 ≤ σ 74 4 ∧ σ 74 4 < 40) : CI l G M_X9_add 0 [vr 74, vi i, vi n, vi w, vi d] σ (fun z τ => z = σ 74 4 + 1 ∧ τ = upq (upq (upq (upq (upq σ 75 (σ 74 4) i) 76 (σ 74 4) n) 77 (σ 74 4) w) 78 (σ 74 4) d) 74 4 (σ 74 4 + 1)) := by
  refine Ct.of rfl (Nat.le_of_ble_eq_true rfl) ?_
  refine x_aload_n (E_X9_add_0 0 rfl) rfl ?_
  refine x_getR (E_X9_add_0 1 rfl) fl_X9_9 rfl (by decide) rfl ?_
  refine x_aload_n (E_X9_add_0 2 rfl) rfl ?_
  refine x_getIe (v := σ 74 4) (E_X9_add_0 3 rfl) fl_X9_22 rfl (by decide) rfl ?_
  refine x_iload_n (E_X9_add_0 4 rfl) rfl ?_
  refine x_iast (E_X9_add_0 5 rfl) rfl (by decide) (by omega) ?_
  refine x_aload_n (E_X9_add_0 6 rfl) rfl ?_
  refine x_getR (E_X9_add_0 7 rfl) fl_X9_13 rfl (by decide) rfl ?_
  refine x_aload_n (E_X9_add_0 8 rfl) rfl ?_
  refine x_getIe (v := σ 74 4) (E_X9_add_0 9 rfl) fl_X9_22 rfl (by decide) rfl ?_
  refine x_iload_n (E_X9_add_0 10 rfl) rfl ?_
  refine x_iast (E_X9_add_0 11 rfl) rfl (by decide) (by omega) ?_
  refine x_aload_n (E_X9_add_0 12 rfl) rfl ?_
  refine x_getR (E_X9_add_0 13 rfl) fl_X9_16 rfl (by decide) rfl ?_
  refine x_aload_n (E_X9_add_0 14 rfl) rfl ?_
  refine x_getIe (v := σ 74 4) (E_X9_add_0 15 rfl) fl_X9_22 rfl (by decide) rfl ?_
  refine x_iload_n (E_X9_add_0 16 rfl) rfl ?_
  refine x_iast (E_X9_add_0 17 rfl) rfl (by decide) (by omega) ?_
  refine x_aload_n (E_X9_add_0 18 rfl) rfl ?_
  refine x_getR (E_X9_add_0 19 rfl) fl_X9_19 rfl (by decide) rfl ?_
  refine x_aload_n (E_X9_add_0 20 rfl) rfl ?_
  refine x_getIe (v := σ 74 4) (E_X9_add_0 21 rfl) fl_X9_22 rfl (by decide) rfl ?_
  refine x_iload (E_X9_add_0 22 rfl) rfl ?_
  refine x_iast (E_X9_add_0 23 rfl) rfl (by decide) (by omega) ?_
  refine x_aload_n (E_X9_add_0 24 rfl) rfl ?_
  refine x_dupr (E_X9_add_0 25 rfl) ?_
  refine x_getIe (v := σ 74 4) (E_X9_add_0 26 rfl) fl_X9_22 rfl (by decide) rfl ?_
  refine x_iconst (E_X9_add_0 27 rfl) ?_
  refine x_iadd (E_X9_add_0 28 rfl) ?_
  refine x_putI (E_X9_add_0 29 rfl) fl_X9_22 rfl (by decide) ?_
  refine x_aload_n (E_X9_add_0 30 rfl) rfl ?_
  refine x_getI (E_X9_add_0 31 rfl) fl_X9_22 rfl (by decide) ?_
  refine z_iret (E_X9_add_0 32 rfl) trivial ?_
  exact ⟨rfl, rfl⟩

theorem c_X6_add {a b so n : Int} (h0 : 0 ≤ σ 88 7 ∧ σ 88 7 < 24) : CI l G M_X6_add 0 [vr 88, vi a, vi b, vi so, vi n] σ (fun z τ => z = σ 88 7 + 1 ∧ τ = upq (upq (upq (upq (upq σ 89 (σ 88 7) a) 90 (σ 88 7) b) 91 (σ 88 7) so) 92 (σ 88 7) n) 88 7 (σ 88 7 + 1)) := by
  refine Ct.of rfl (Nat.le_of_ble_eq_true rfl) ?_
  refine x_aload_n (E_X6_add_0 0 rfl) rfl ?_
  refine x_getR (E_X6_add_0 1 rfl) fl_X6_11 rfl (by decide) rfl ?_
  refine x_aload_n (E_X6_add_0 2 rfl) rfl ?_
  refine x_getIe (v := σ 88 7) (E_X6_add_0 3 rfl) fl_X6_33 rfl (by decide) rfl ?_
  refine x_iload_n (E_X6_add_0 4 rfl) rfl ?_
  refine x_iast (E_X6_add_0 5 rfl) rfl (by decide) (by omega) ?_
  refine x_aload_n (E_X6_add_0 6 rfl) rfl ?_
  refine x_getR (E_X6_add_0 7 rfl) fl_X6_15 rfl (by decide) rfl ?_
  refine x_aload_n (E_X6_add_0 8 rfl) rfl ?_
  refine x_getIe (v := σ 88 7) (E_X6_add_0 9 rfl) fl_X6_33 rfl (by decide) rfl ?_
  refine x_iload_n (E_X6_add_0 10 rfl) rfl ?_
  refine x_iast (E_X6_add_0 11 rfl) rfl (by decide) (by omega) ?_
  refine x_aload_n (E_X6_add_0 12 rfl) rfl ?_
  refine x_getR (E_X6_add_0 13 rfl) fl_X6_18 rfl (by decide) rfl ?_
  refine x_aload_n (E_X6_add_0 14 rfl) rfl ?_
  refine x_getIe (v := σ 88 7) (E_X6_add_0 15 rfl) fl_X6_33 rfl (by decide) rfl ?_
  refine x_iload_n (E_X6_add_0 16 rfl) rfl ?_
  refine x_iast (E_X6_add_0 17 rfl) rfl (by decide) (by omega) ?_
  refine x_aload_n (E_X6_add_0 18 rfl) rfl ?_
  refine x_getR (E_X6_add_0 19 rfl) fl_X6_21 rfl (by decide) rfl ?_
  refine x_aload_n (E_X6_add_0 20 rfl) rfl ?_
  refine x_getIe (v := σ 88 7) (E_X6_add_0 21 rfl) fl_X6_33 rfl (by decide) rfl ?_
  refine x_iload (E_X6_add_0 22 rfl) rfl ?_
  refine x_iast (E_X6_add_0 23 rfl) rfl (by decide) (by omega) ?_
  refine x_aload_n (E_X6_add_0 24 rfl) rfl ?_
  refine x_dupr (E_X6_add_0 25 rfl) ?_
  refine x_getIe (v := σ 88 7) (E_X6_add_0 26 rfl) fl_X6_33 rfl (by decide) rfl ?_
  refine x_iconst (E_X6_add_0 27 rfl) ?_
  refine x_iadd (E_X6_add_0 28 rfl) ?_
  refine x_putI (E_X6_add_0 29 rfl) fl_X6_33 rfl (by decide) ?_
  refine x_aload_n (E_X6_add_0 30 rfl) rfl ?_
  refine x_getI (E_X6_add_0 31 rfl) fl_X6_33 rfl (by decide) ?_
  refine z_iret (E_X6_add_0 32 rfl) trivial ?_
  exact ⟨rfl, rfl⟩

theorem c_X1_add {a b v : Int} (h0 : 0 ≤ σ 96 4 ∧ σ 96 4 < 24) : CI l G M_X1_add 0 [vr 96, vi a, vi b, vi v] σ (fun z τ => z = σ 96 4 + 1 ∧ τ = upq (upq (upq (upq σ 97 (σ 96 4) a) 98 (σ 96 4) b) 99 (σ 96 4) v) 96 4 (σ 96 4 + 1)) := by
  refine Ct.of rfl (Nat.le_of_ble_eq_true rfl) ?_
  refine x_aload_n (E_X1_add_0 0 rfl) rfl ?_
  refine x_getR (E_X1_add_0 1 rfl) fl_X1_11 rfl (by decide) rfl ?_
  refine x_aload_n (E_X1_add_0 2 rfl) rfl ?_
  refine x_getIe (v := σ 96 4) (E_X1_add_0 3 rfl) fl_X1_33 rfl (by decide) rfl ?_
  refine x_iload_n (E_X1_add_0 4 rfl) rfl ?_
  refine x_iast (E_X1_add_0 5 rfl) rfl (by decide) (by omega) ?_
  refine x_aload_n (E_X1_add_0 6 rfl) rfl ?_
  refine x_getR (E_X1_add_0 7 rfl) fl_X1_15 rfl (by decide) rfl ?_
  refine x_aload_n (E_X1_add_0 8 rfl) rfl ?_
  refine x_getIe (v := σ 96 4) (E_X1_add_0 9 rfl) fl_X1_33 rfl (by decide) rfl ?_
  refine x_iload_n (E_X1_add_0 10 rfl) rfl ?_
  refine x_iast (E_X1_add_0 11 rfl) rfl (by decide) (by omega) ?_
  refine x_aload_n (E_X1_add_0 12 rfl) rfl ?_
  refine x_getR (E_X1_add_0 13 rfl) fl_X1_18 rfl (by decide) rfl ?_
  refine x_aload_n (E_X1_add_0 14 rfl) rfl ?_
  refine x_getIe (v := σ 96 4) (E_X1_add_0 15 rfl) fl_X1_33 rfl (by decide) rfl ?_
  refine x_iload_n (E_X1_add_0 16 rfl) rfl ?_
  refine x_iast (E_X1_add_0 17 rfl) rfl (by decide) (by omega) ?_
  refine x_aload_n (E_X1_add_0 18 rfl) rfl ?_
  refine x_dupr (E_X1_add_0 19 rfl) ?_
  refine x_getIe (v := σ 96 4) (E_X1_add_0 20 rfl) fl_X1_33 rfl (by decide) rfl ?_
  refine x_iconst (E_X1_add_0 21 rfl) ?_
  refine x_iadd (E_X1_add_0 22 rfl) ?_
  refine x_putI (E_X1_add_0 23 rfl) fl_X1_33 rfl (by decide) ?_
  refine x_aload_n (E_X1_add_0 24 rfl) rfl ?_
  refine x_getI (E_X1_add_0 25 rfl) fl_X1_33 rfl (by decide) ?_
  refine z_iret (E_X1_add_0 26 rfl) trivial ?_
  exact ⟨rfl, rfl⟩

theorem c_X10_go {n : Int} (hn : rgi n) (hnow : 0 ≤ σ 0 0 ∧ σ 0 0 ≤ 2000) : CI l G M_X10_go 1 [vr 0, vi n] σ (fun z τ => z = (if ¬ (0 ≤ n ∧ n ≤ 999) then -1002 else if 2000 < σ 0 0 + n then -1003 else σ 0 0 + n) ∧ τ = if (0 ≤ n ∧ n ≤ 999) ∧ σ 0 0 + n ≤ 2000 then upq σ 0 0 (σ 0 0 + n) else σ) := by
  refine Ct.of rfl (Nat.le_of_ble_eq_true rfl) ?_
  refine x_iload_n (E_X10_go_0 0 rfl) rfl ?_
  refine x_iconst (E_X10_go_0 1 rfl) ?_
  refine x_sipush (z := 999) (E_X10_go_0 2 rfl) (by decide) ?_
  refine z_callSi (E_X10_go_0 3 rfl) ml_X10_100 ms_X10_within (c_X10_within (by omega) (by omega) (by omega)) (by decide) rfl rfl (Nat.le_of_ble_eq_true rfl) (fun z9 τ9 h9 => ?_)
  obtain ⟨rfl, ⟨rfl, c1⟩ | ⟨rfl, c1⟩⟩ := h9
  · refine x_if_ne (E_X10_go_0 4 rfl) (by decide) (fun _ => ?_) (fun c9 => absurd c9 (by decide))
    refine x_aload_n (E_X10_go_0 7 rfl) rfl ?_
    refine x_getIe (v := σ 0 0) (E_X10_go_0 8 rfl) fl_X10_7 rfl (by decide) rfl ?_
    refine x_iload_n (E_X10_go_0 9 rfl) rfl ?_
    refine x_iadd (E_X10_go_0 10 rfl) ?_
    refine x_sipush (z := 2000) (E_X10_go_0 11 rfl) (by decide) ?_
    refine x_icmp_le (E_X10_go_0 12 rfl) (by omega) (by decide) (fun c2 => ?_) (fun c2 => ?_)
    · refine x_aload_n (E_X10_go_0 15 rfl) rfl ?_
      refine x_dupr (E_X10_go_0 16 rfl) ?_
      refine x_getIe (v := σ 0 0) (E_X10_go_0 17 rfl) fl_X10_7 rfl (by decide) rfl ?_
      refine x_iload_n (E_X10_go_0 18 rfl) rfl ?_
      refine x_iadd (E_X10_go_0 19 rfl) ?_
      refine x_putI (E_X10_go_0 20 rfl) fl_X10_7 rfl (by decide) ?_
      refine x_aload_n (E_X10_go_0 21 rfl) rfl ?_
      refine x_getI (E_X10_go_0 22 rfl) fl_X10_7 rfl (by decide) ?_
      refine z_iret (E_X10_go_0 23 rfl) trivial ?_
      refine ⟨?_, (if_pos (by omega)).symm⟩
      show σ 0 0 + n = _
      exact (if_n (by omega) (if_n (by omega) rfl)).symm
    · refine x_sipush (z := (-1003)) (E_X10_go_0 13 rfl) (by decide) ?_
      refine z_iret (E_X10_go_0 14 rfl) trivial ?_
      exact ⟨(if_n (by omega) (if_p (by omega) rfl)).symm, (if_neg (by omega)).symm⟩
  · refine x_if_ne (E_X10_go_0 4 rfl) (by decide) (fun c9 => absurd c9 (by decide)) (fun _ => ?_)
    refine x_sipush (z := (-1002)) (E_X10_go_0 5 rfl) (by decide) ?_
    refine z_iret (E_X10_go_0 6 rfl) trivial ?_
    exact ⟨(if_p (by omega) rfl).symm, (if_neg (by omega)).symm⟩

theorem c_X11_go {n : Int} (hn : rgi n) (hnow : 0 ≤ σ 114 0 ∧ σ 114 0 ≤ 2000) : CI l G M_X11_go 1 [vr 114, vi n] σ (fun z τ => z = (if ¬ (0 ≤ n ∧ n ≤ 999) then -1002 else if 2000 < σ 114 0 + n then -1003 else σ 114 0 + n) ∧ τ = if (0 ≤ n ∧ n ≤ 999) ∧ σ 114 0 + n ≤ 2000 then upq σ 114 0 (σ 114 0 + n) else σ) := by
  refine Ct.of rfl (Nat.le_of_ble_eq_true rfl) ?_
  refine x_iload_n (E_X11_go_0 0 rfl) rfl ?_
  refine x_i2l (E_X11_go_0 1 rfl) (by omega) ?_
  refine x_lconst (z := 0) (E_X11_go_0 2 rfl) rfl ?_
  refine x_ldc2 (z := 999) (E_X11_go_0 3 rfl) kc_X11_211 (by decide) ?_
  refine z_callSi (E_X11_go_0 4 rfl) ml_X11_197 ms_X11_in (c_X11_in (by omega) (by omega) (by omega)) (by decide) rfl rfl (Nat.le_of_ble_eq_true rfl) (fun z9 τ9 h9 => ?_)
  obtain ⟨rfl, ⟨rfl, c1⟩ | ⟨rfl, c1⟩⟩ := h9
  · refine x_if_ne (E_X11_go_0 5 rfl) (by decide) (fun _ => ?_) (fun c9 => absurd c9 (by decide))
    refine x_aload_n (E_X11_go_0 8 rfl) rfl ?_
    refine x_getIe (v := σ 114 0) (E_X11_go_0 9 rfl) fl_X11_205 rfl (by decide) rfl ?_
    refine x_iload_n (E_X11_go_0 10 rfl) rfl ?_
    refine x_iadd (E_X11_go_0 11 rfl) ?_
    refine x_sipush (z := 2000) (E_X11_go_0 12 rfl) (by decide) ?_
    refine x_icmp_le (E_X11_go_0 13 rfl) (by omega) (by decide) (fun c2 => ?_) (fun c2 => ?_)
    · refine x_aload_n (E_X11_go_0 16 rfl) rfl ?_
      refine x_dupr (E_X11_go_0 17 rfl) ?_
      refine x_getIe (v := σ 114 0) (E_X11_go_0 18 rfl) fl_X11_205 rfl (by decide) rfl ?_
      refine x_iload_n (E_X11_go_0 19 rfl) rfl ?_
      refine x_iadd (E_X11_go_0 20 rfl) ?_
      refine x_putI (E_X11_go_0 21 rfl) fl_X11_205 rfl (by decide) ?_
      refine x_aload_n (E_X11_go_0 22 rfl) rfl ?_
      refine x_getI (E_X11_go_0 23 rfl) fl_X11_205 rfl (by decide) ?_
      refine z_iret (E_X11_go_0 24 rfl) trivial ?_
      refine ⟨?_, (if_pos (by omega)).symm⟩
      show σ 114 0 + n = _
      exact (if_n (by omega) (if_n (by omega) rfl)).symm
    · refine x_sipush (z := (-1003)) (E_X11_go_0 14 rfl) (by decide) ?_
      refine z_iret (E_X11_go_0 15 rfl) trivial ?_
      exact ⟨(if_n (by omega) (if_p (by omega) rfl)).symm, (if_neg (by omega)).symm⟩
  · refine x_if_ne (E_X11_go_0 5 rfl) (by decide) (fun c9 => absurd c9 (by decide)) (fun _ => ?_)
    refine x_sipush (z := (-1002)) (E_X11_go_0 6 rfl) (by decide) ?_
    refine z_iret (E_X11_go_0 7 rfl) trivial ?_
    exact ⟨(if_p (by omega) rfl).symm, (if_neg (by omega)).symm⟩

theorem c_X10_lot {so n w h f : Int} (hso : rgi so) (hn : rgi n) (hw : rgi w) (hh : rgi h) (hf : rgi f) (h0 : 0 ≤ σ 1 5 ∧ σ 1 5 ≤ 12) : CI l G M_X10_lot 2 [vr 0, vi so, vi n, vi w, vi h, vi f] σ (fun z τ => z = (if ¬ ((0 ≤ h ∧ h ≤ 7) ∧ 0 ≤ f ∧ f ≤ 5) then -1001 else if ¬ ((0 ≤ so ∧ so ≤ 3) ∧ (1 ≤ n ∧ n ≤ 200) ∧ 1 ≤ w ∧ w ≤ 999) then -1002 else if 12 ≤ σ 1 5 then -1004 else σ 1 5) ∧ τ = if ((0 ≤ h ∧ h ≤ 7) ∧ 0 ≤ f ∧ f ≤ 5) ∧ ((0 ≤ so ∧ so ≤ 3) ∧ (1 ≤ n ∧ n ≤ 200) ∧ 1 ≤ w ∧ w ≤ 999) ∧ σ 1 5 < 12 then upq (upq (upq (upq (upq (upq σ 2 (σ 1 5) so) 3 (σ 1 5) n) 4 (σ 1 5) w) 5 (σ 1 5) f) 6 (σ 1 5) (σ 0 0)) 1 5 (σ 1 5 + 1) else σ) := by
  refine Ct.of rfl (Nat.le_of_ble_eq_true rfl) ?_
  refine x_iload (E_X10_lot_0 0 rfl) rfl ?_
  refine z_callSi (E_X10_lot_0 1 rfl) ml_X10_104 ms_X10_isHouse (c_X10_isHouse (by omega)) (by decide) rfl rfl (Nat.le_of_ble_eq_true rfl) (fun z9 τ9 h9 => ?_)
  obtain ⟨rfl, ⟨rfl, c1⟩ | ⟨rfl, c1⟩⟩ := h9
  · refine x_if_eq (E_X10_lot_0 2 rfl) (by decide) (fun c9 => absurd c9 (by decide)) (fun _ => ?_)
    refine x_iload (E_X10_lot_0 3 rfl) rfl ?_
    refine z_callSi (E_X10_lot_0 4 rfl) ml_X10_108 ms_X10_isFloor (c_X10_isFloor (by omega)) (by decide) rfl rfl (Nat.le_of_ble_eq_true rfl) (fun z9 τ9 h9 => ?_)
    obtain ⟨rfl, ⟨rfl, c2⟩ | ⟨rfl, c2⟩⟩ := h9
    · refine x_if_ne (E_X10_lot_0 5 rfl) (by decide) (fun _ => ?_) (fun c9 => absurd c9 (by decide))
      refine x_iload_n (E_X10_lot_0 8 rfl) rfl ?_
      refine z_callSi (E_X10_lot_0 9 rfl) ml_X10_111 ms_X10_isSort (c_X10_isSort (by omega)) (by decide) rfl rfl (Nat.le_of_ble_eq_true rfl) (fun z9 τ9 h9 => ?_)
      obtain ⟨rfl, ⟨rfl, c3⟩ | ⟨rfl, c3⟩⟩ := h9
      · refine x_if_eq (E_X10_lot_0 10 rfl) (by decide) (fun c9 => absurd c9 (by decide)) (fun _ => ?_)
        refine x_iload_n (E_X10_lot_0 11 rfl) rfl ?_
        refine x_iconst (E_X10_lot_0 12 rfl) ?_
        refine x_sipush (z := 200) (E_X10_lot_0 13 rfl) (by decide) ?_
        refine z_callSi (E_X10_lot_0 14 rfl) ml_X10_100 ms_X10_within (c_X10_within (by omega) (by omega) (by omega)) (by decide) rfl rfl (Nat.le_of_ble_eq_true rfl) (fun z9 τ9 h9 => ?_)
        obtain ⟨rfl, ⟨rfl, c4⟩ | ⟨rfl, c4⟩⟩ := h9
        · refine x_if_eq (E_X10_lot_0 15 rfl) (by decide) (fun c9 => absurd c9 (by decide)) (fun _ => ?_)
          refine x_iload_n (E_X10_lot_0 16 rfl) rfl ?_
          refine x_iconst (E_X10_lot_0 17 rfl) ?_
          refine x_sipush (z := 999) (E_X10_lot_0 18 rfl) (by decide) ?_
          refine z_callSi (E_X10_lot_0 19 rfl) ml_X10_100 ms_X10_within (c_X10_within (by omega) (by omega) (by omega)) (by decide) rfl rfl (Nat.le_of_ble_eq_true rfl) (fun z9 τ9 h9 => ?_)
          obtain ⟨rfl, ⟨rfl, c5⟩ | ⟨rfl, c5⟩⟩ := h9
          · refine x_if_ne (E_X10_lot_0 20 rfl) (by decide) (fun _ => ?_) (fun c9 => absurd c9 (by decide))
            refine x_aload_n (E_X10_lot_0 23 rfl) rfl ?_
            refine x_getR (E_X10_lot_0 24 rfl) fl_X10_16 rfl (by decide) rfl ?_
            refine x_getIe (v := σ 1 5) (E_X10_lot_0 25 rfl) fl_X10_114 rfl (by decide) rfl ?_
            refine x_bipush (z := 12) (E_X10_lot_0 26 rfl) (by decide) ?_
            refine x_icmp_lt (E_X10_lot_0 27 rfl) (by omega) (by decide) (fun c6 => ?_) (fun c6 => ?_)
            · refine x_aload_n (E_X10_lot_0 30 rfl) rfl ?_
              refine x_getR (E_X10_lot_0 31 rfl) fl_X10_16 rfl (by decide) rfl ?_
              refine x_iload_n (E_X10_lot_0 32 rfl) rfl ?_
              refine x_iload_n (E_X10_lot_0 33 rfl) rfl ?_
              refine x_iload_n (E_X10_lot_0 34 rfl) rfl ?_
              refine x_iload (E_X10_lot_0 35 rfl) rfl ?_
              refine x_aload_n (E_X10_lot_0 36 rfl) rfl ?_
              refine x_getIe (v := σ 0 0) (E_X10_lot_0 37 rfl) fl_X10_7 rfl (by decide) rfl ?_
              refine z_callVi (E_X10_lot_0 38 rfl) ml_X10_117 mv_X3_add rfl (by decide) (by decide) (c_X3_add (by omega)) (by decide) rfl rfl (Nat.le_of_ble_eq_true rfl) (fun z9 τ9 h9 => ?_)
              obtain ⟨rfl, rfl⟩ := h9
              refine z_iret (E_X10_lot_0 39 rfl) trivial ?_
              exact ⟨(if_n (by omega) (if_n (by omega) (if_n (by omega) rfl))).symm, (if_pos (by omega)).symm⟩
            · refine x_sipush (z := (-1004)) (E_X10_lot_0 28 rfl) (by decide) ?_
              refine z_iret (E_X10_lot_0 29 rfl) trivial ?_
              exact ⟨(if_n (by omega) (if_n (by omega) (if_p (by omega) rfl))).symm, (if_neg (by omega)).symm⟩
          · refine x_if_ne (E_X10_lot_0 20 rfl) (by decide) (fun c9 => absurd c9 (by decide)) (fun _ => ?_)
            refine x_sipush (z := (-1002)) (E_X10_lot_0 21 rfl) (by decide) ?_
            refine z_iret (E_X10_lot_0 22 rfl) trivial ?_
            exact ⟨(if_n (by omega) (if_p (by omega) rfl)).symm, (if_neg (by omega)).symm⟩
        · refine x_if_eq (E_X10_lot_0 15 rfl) (by decide) (fun _ => ?_) (fun c9 => absurd (by decide) c9)
          refine x_sipush (z := (-1002)) (E_X10_lot_0 21 rfl) (by decide) ?_
          refine z_iret (E_X10_lot_0 22 rfl) trivial ?_
          exact ⟨(if_n (by omega) (if_p (by omega) rfl)).symm, (if_neg (by omega)).symm⟩
      · refine x_if_eq (E_X10_lot_0 10 rfl) (by decide) (fun _ => ?_) (fun c9 => absurd (by decide) c9)
        refine x_sipush (z := (-1002)) (E_X10_lot_0 21 rfl) (by decide) ?_
        refine z_iret (E_X10_lot_0 22 rfl) trivial ?_
        exact ⟨(if_n (by omega) (if_p (by omega) rfl)).symm, (if_neg (by omega)).symm⟩
    · refine x_if_ne (E_X10_lot_0 5 rfl) (by decide) (fun c9 => absurd c9 (by decide)) (fun _ => ?_)
      refine x_sipush (z := (-1001)) (E_X10_lot_0 6 rfl) (by decide) ?_
      refine z_iret (E_X10_lot_0 7 rfl) trivial ?_
      exact ⟨(if_p (by omega) rfl).symm, (if_neg (by omega)).symm⟩
  · refine x_if_eq (E_X10_lot_0 2 rfl) (by decide) (fun _ => ?_) (fun c9 => absurd (by decide) c9)
    refine x_sipush (z := (-1001)) (E_X10_lot_0 6 rfl) (by decide) ?_
    refine z_iret (E_X10_lot_0 7 rfl) trivial ?_
    exact ⟨(if_p (by omega) rfl).symm, (if_neg (by omega)).symm⟩

theorem c_X11_lot {so n w h f : Int} (hso : rgi so) (hn : rgi n) (hw : rgi w) (hh : rgi h) (hf : rgi f) (h0 : 0 ≤ σ 114 1 ∧ σ 114 1 ≤ 12) : CI l G M_X11_lot 2 [vr 114, vi so, vi n, vi w, vi h, vi f] σ (fun z τ => z = (if ¬ ((0 ≤ h ∧ h ≤ 7) ∧ 0 ≤ f ∧ f ≤ 5) then -1001 else if ¬ ((0 ≤ so ∧ so ≤ 3) ∧ (1 ≤ n ∧ n ≤ 200) ∧ 1 ≤ w ∧ w ≤ 999) then -1002 else if 12 ≤ σ 114 1 then -1004 else σ 114 1) ∧ τ = if ((0 ≤ h ∧ h ≤ 7) ∧ 0 ≤ f ∧ f ≤ 5) ∧ ((0 ≤ so ∧ so ≤ 3) ∧ (1 ≤ n ∧ n ≤ 200) ∧ 1 ≤ w ∧ w ≤ 999) ∧ σ 114 1 < 12 then upq (upq (upq (upq (upq (upq (upq σ 115 (σ 114 1) so) 116 (σ 114 1) n) 117 (σ 114 1) w) 118 (σ 114 1) h) 119 (σ 114 1) f) 120 (σ 114 1) (σ 114 0)) 114 1 (σ 114 1 + 1) else σ) := by
  refine Ct.of rfl (Nat.le_of_ble_eq_true rfl) ?_
  refine x_iload (E_X11_lot_0 0 rfl) rfl ?_
  refine z_callSi (E_X11_lot_0 1 rfl) ml_X11_213 ms_X11_isHouse (c_X11_isHouse (by omega)) (by decide) rfl rfl (Nat.le_of_ble_eq_true rfl) (fun z9 τ9 h9 => ?_)
  obtain ⟨rfl, ⟨rfl, c1⟩ | ⟨rfl, c1⟩⟩ := h9
  · refine x_if_eq (E_X11_lot_0 2 rfl) (by decide) (fun c9 => absurd c9 (by decide)) (fun _ => ?_)
    refine x_iload (E_X11_lot_0 3 rfl) rfl ?_
    refine z_callSi (E_X11_lot_0 4 rfl) ml_X11_217 ms_X11_isFloor (c_X11_isFloor (by omega)) (by decide) rfl rfl (Nat.le_of_ble_eq_true rfl) (fun z9 τ9 h9 => ?_)
    obtain ⟨rfl, ⟨rfl, c2⟩ | ⟨rfl, c2⟩⟩ := h9
    · refine x_if_ne (E_X11_lot_0 5 rfl) (by decide) (fun _ => ?_) (fun c9 => absurd c9 (by decide))
      refine x_iload_n (E_X11_lot_0 8 rfl) rfl ?_
      refine x_i2l (E_X11_lot_0 9 rfl) (by omega) ?_
      refine x_lconst (z := 0) (E_X11_lot_0 10 rfl) rfl ?_
      refine x_ldc2 (z := 3) (E_X11_lot_0 11 rfl) kc_X11_220 (by decide) ?_
      refine z_callSi (E_X11_lot_0 12 rfl) ml_X11_197 ms_X11_in (c_X11_in (by omega) (by omega) (by omega)) (by decide) rfl rfl (Nat.le_of_ble_eq_true rfl) (fun z9 τ9 h9 => ?_)
      obtain ⟨rfl, ⟨rfl, c3⟩ | ⟨rfl, c3⟩⟩ := h9
      · refine x_if_eq (E_X11_lot_0 13 rfl) (by decide) (fun c9 => absurd c9 (by decide)) (fun _ => ?_)
        refine x_iload_n (E_X11_lot_0 14 rfl) rfl ?_
        refine x_i2l (E_X11_lot_0 15 rfl) (by omega) ?_
        refine x_lconst (z := 1) (E_X11_lot_0 16 rfl) rfl ?_
        refine x_ldc2 (z := 200) (E_X11_lot_0 17 rfl) kc_X11_222 (by decide) ?_
        refine z_callSi (E_X11_lot_0 18 rfl) ml_X11_197 ms_X11_in (c_X11_in (by omega) (by omega) (by omega)) (by decide) rfl rfl (Nat.le_of_ble_eq_true rfl) (fun z9 τ9 h9 => ?_)
        obtain ⟨rfl, ⟨rfl, c4⟩ | ⟨rfl, c4⟩⟩ := h9
        · refine x_if_eq (E_X11_lot_0 19 rfl) (by decide) (fun c9 => absurd c9 (by decide)) (fun _ => ?_)
          refine x_iload_n (E_X11_lot_0 20 rfl) rfl ?_
          refine x_i2l (E_X11_lot_0 21 rfl) (by omega) ?_
          refine x_lconst (z := 1) (E_X11_lot_0 22 rfl) rfl ?_
          refine x_ldc2 (z := 999) (E_X11_lot_0 23 rfl) kc_X11_211 (by decide) ?_
          refine z_callSi (E_X11_lot_0 24 rfl) ml_X11_197 ms_X11_in (c_X11_in (by omega) (by omega) (by omega)) (by decide) rfl rfl (Nat.le_of_ble_eq_true rfl) (fun z9 τ9 h9 => ?_)
          obtain ⟨rfl, ⟨rfl, c5⟩ | ⟨rfl, c5⟩⟩ := h9
          · refine x_if_ne (E_X11_lot_0 25 rfl) (by decide) (fun _ => ?_) (fun c9 => absurd c9 (by decide))
            refine x_aload_n (E_X11_lot_0 28 rfl) rfl ?_
            refine x_getIe (v := σ 114 1) (E_X11_lot_0 29 rfl) fl_X11_208 rfl (by decide) rfl ?_
            refine x_bipush (z := 12) (E_X11_lot_0 30 rfl) (by decide) ?_
            refine x_icmp_ne (E_X11_lot_0 31 rfl) (by omega) (by decide) (fun c6 => ?_) (fun c6 => ?_)
            · refine x_aload_n (E_X11_lot_0 34 rfl) rfl ?_
              refine x_getR (E_X11_lot_0 35 rfl) fl_X11_7 rfl (by decide) rfl ?_
              refine x_aload_n (E_X11_lot_0 36 rfl) rfl ?_
              refine x_getIe (v := σ 114 1) (E_X11_lot_0 37 rfl) fl_X11_208 rfl (by decide) rfl ?_
              refine x_iload_n (E_X11_lot_0 38 rfl) rfl ?_
              refine x_iast (E_X11_lot_0 39 rfl) rfl (by decide) (by omega) ?_
              refine x_aload_n (E_X11_lot_0 40 rfl) rfl ?_
              refine x_getR (E_X11_lot_0 41 rfl) fl_X11_13 rfl (by decide) rfl ?_
              refine x_aload_n (E_X11_lot_0 42 rfl) rfl ?_
              refine x_getIe (v := σ 114 1) (E_X11_lot_0 43 rfl) fl_X11_208 rfl (by decide) rfl ?_
              refine x_iload_n (E_X11_lot_0 44 rfl) rfl ?_
              refine x_iast (E_X11_lot_0 45 rfl) rfl (by decide) (by omega) ?_
              refine x_aload_n (E_X11_lot_0 46 rfl) rfl ?_
              refine x_getR (E_X11_lot_0 47 rfl) fl_X11_16 rfl (by decide) rfl ?_
              refine x_aload_n (E_X11_lot_0 48 rfl) rfl ?_
              refine x_getIe (v := σ 114 1) (E_X11_lot_0 49 rfl) fl_X11_208 rfl (by decide) rfl ?_
              refine x_iload_n (E_X11_lot_0 50 rfl) rfl ?_
              refine x_iast (E_X11_lot_0 51 rfl) rfl (by decide) (by omega) ?_
              refine x_aload_n (E_X11_lot_0 52 rfl) rfl ?_
              refine x_getR (E_X11_lot_0 53 rfl) fl_X11_19 rfl (by decide) rfl ?_
              refine x_aload_n (E_X11_lot_0 54 rfl) rfl ?_
              refine x_getIe (v := σ 114 1) (E_X11_lot_0 55 rfl) fl_X11_208 rfl (by decide) rfl ?_
              refine x_iload (E_X11_lot_0 56 rfl) rfl ?_
              refine x_iast (E_X11_lot_0 57 rfl) rfl (by decide) (by omega) ?_
              refine x_aload_n (E_X11_lot_0 58 rfl) rfl ?_
              refine x_getR (E_X11_lot_0 59 rfl) fl_X11_22 rfl (by decide) rfl ?_
              refine x_aload_n (E_X11_lot_1 0 rfl) rfl ?_
              refine x_getIe (v := σ 114 1) (E_X11_lot_1 1 rfl) fl_X11_208 rfl (by decide) rfl ?_
              refine x_iload (E_X11_lot_1 2 rfl) rfl ?_
              refine x_iast (E_X11_lot_1 3 rfl) rfl (by decide) (by omega) ?_
              refine x_aload_n (E_X11_lot_1 4 rfl) rfl ?_
              refine x_getR (E_X11_lot_1 5 rfl) fl_X11_25 rfl (by decide) rfl ?_
              refine x_aload_n (E_X11_lot_1 6 rfl) rfl ?_
              refine x_getIe (v := σ 114 1) (E_X11_lot_1 7 rfl) fl_X11_208 rfl (by decide) rfl ?_
              refine x_aload_n (E_X11_lot_1 8 rfl) rfl ?_
              refine x_getIe (v := σ 114 0) (E_X11_lot_1 9 rfl) fl_X11_205 rfl (by decide) rfl ?_
              refine x_iast (E_X11_lot_1 10 rfl) rfl (by decide) (by omega) ?_
              refine x_aload_n (E_X11_lot_1 11 rfl) rfl ?_
              refine x_dupr (E_X11_lot_1 12 rfl) ?_
              refine x_getIe (v := σ 114 1) (E_X11_lot_1 13 rfl) fl_X11_208 rfl (by decide) rfl ?_
              refine x_iconst (E_X11_lot_1 14 rfl) ?_
              refine x_iadd (E_X11_lot_1 15 rfl) ?_
              refine x_putI (E_X11_lot_1 16 rfl) fl_X11_208 rfl (by decide) ?_
              refine x_aload_n (E_X11_lot_1 17 rfl) rfl ?_
              refine x_getI (E_X11_lot_1 18 rfl) fl_X11_208 rfl (by decide) ?_
              refine x_iconst (E_X11_lot_1 19 rfl) ?_
              refine x_isub (E_X11_lot_1 20 rfl) ?_
              refine z_iret (E_X11_lot_1 21 rfl) trivial ?_
              refine ⟨?_, (if_pos (by omega)).symm⟩
              show σ 114 1 + 1 - 1 = _
              exact (if_n (by omega) (if_n (by omega) (if_n (by omega) (by omega)))).symm
            · refine x_sipush (z := (-1004)) (E_X11_lot_0 32 rfl) (by decide) ?_
              refine z_iret (E_X11_lot_0 33 rfl) trivial ?_
              exact ⟨(if_n (by omega) (if_n (by omega) (if_p (by omega) rfl))).symm, (if_neg (by omega)).symm⟩
          · refine x_if_ne (E_X11_lot_0 25 rfl) (by decide) (fun c9 => absurd c9 (by decide)) (fun _ => ?_)
            refine x_sipush (z := (-1002)) (E_X11_lot_0 26 rfl) (by decide) ?_
            refine z_iret (E_X11_lot_0 27 rfl) trivial ?_
            exact ⟨(if_n (by omega) (if_p (by omega) rfl)).symm, (if_neg (by omega)).symm⟩
        · refine x_if_eq (E_X11_lot_0 19 rfl) (by decide) (fun _ => ?_) (fun c9 => absurd (by decide) c9)
          refine x_sipush (z := (-1002)) (E_X11_lot_0 26 rfl) (by decide) ?_
          refine z_iret (E_X11_lot_0 27 rfl) trivial ?_
          exact ⟨(if_n (by omega) (if_p (by omega) rfl)).symm, (if_neg (by omega)).symm⟩
      · refine x_if_eq (E_X11_lot_0 13 rfl) (by decide) (fun _ => ?_) (fun c9 => absurd (by decide) c9)
        refine x_sipush (z := (-1002)) (E_X11_lot_0 26 rfl) (by decide) ?_
        refine z_iret (E_X11_lot_0 27 rfl) trivial ?_
        exact ⟨(if_n (by omega) (if_p (by omega) rfl)).symm, (if_neg (by omega)).symm⟩
    · refine x_if_ne (E_X11_lot_0 5 rfl) (by decide) (fun c9 => absurd c9 (by decide)) (fun _ => ?_)
      refine x_sipush (z := (-1001)) (E_X11_lot_0 6 rfl) (by decide) ?_
      refine z_iret (E_X11_lot_0 7 rfl) trivial ?_
      exact ⟨(if_p (by omega) rfl).symm, (if_neg (by omega)).symm⟩
  · refine x_if_eq (E_X11_lot_0 2 rfl) (by decide) (fun _ => ?_) (fun c9 => absurd (by decide) c9)
    refine x_sipush (z := (-1001)) (E_X11_lot_0 6 rfl) (by decide) ?_
    refine z_iret (E_X11_lot_0 7 rfl) trivial ?_
    exact ⟨(if_p (by omega) rfl).symm, (if_neg (by omega)).symm⟩

theorem c_X10_room {f v : Int} (hf : rgi f) (hv : rgi v)  : CI l G M_X10_room 2 [vr 0, vi f, vi v] σ (fun z τ => z = (if ¬ (0 ≤ f ∧ f ≤ 5) then -1001 else if ¬ (0 ≤ v ∧ v ≤ 999) then -1002 else σ 105 f) ∧ τ = if (0 ≤ f ∧ f ≤ 5) ∧ 0 ≤ v ∧ v ≤ 999 then upq σ 105 f v else σ) := by
  refine Ct.of rfl (Nat.le_of_ble_eq_true rfl) ?_
  refine x_iload_n (E_X10_room_0 0 rfl) rfl ?_
  refine z_callSi (E_X10_room_0 1 rfl) ml_X10_108 ms_X10_isFloor (c_X10_isFloor (by omega)) (by decide) rfl rfl (Nat.le_of_ble_eq_true rfl) (fun z9 τ9 h9 => ?_)
  obtain ⟨rfl, ⟨rfl, c1⟩ | ⟨rfl, c1⟩⟩ := h9
  · refine x_if_ne (E_X10_room_0 2 rfl) (by decide) (fun _ => ?_) (fun c9 => absurd c9 (by decide))
    refine x_iload_n (E_X10_room_0 5 rfl) rfl ?_
    refine x_iconst (E_X10_room_0 6 rfl) ?_
    refine x_sipush (z := 999) (E_X10_room_0 7 rfl) (by decide) ?_
    refine z_callSi (E_X10_room_0 8 rfl) ml_X10_100 ms_X10_within (c_X10_within (by omega) (by omega) (by omega)) (by decide) rfl rfl (Nat.le_of_ble_eq_true rfl) (fun z9 τ9 h9 => ?_)
    obtain ⟨rfl, ⟨rfl, c2⟩ | ⟨rfl, c2⟩⟩ := h9
    · refine x_if_ne (E_X10_room_0 9 rfl) (by decide) (fun _ => ?_) (fun c9 => absurd c9 (by decide))
      refine x_aload_n (E_X10_room_0 12 rfl) rfl ?_
      refine x_getR (E_X10_room_0 13 rfl) fl_X10_86 rfl (by decide) rfl ?_
      refine x_iload_n (E_X10_room_0 14 rfl) rfl ?_
      refine x_ialde (f := σ 105) (E_X10_room_0 15 rfl) rfl (by decide) (by omega) rfl ?_
      refine x_istore_n (E_X10_room_0 16 rfl) rfl ?_
      refine x_aload_n (E_X10_room_0 17 rfl) rfl ?_
      refine x_getR (E_X10_room_0 18 rfl) fl_X10_86 rfl (by decide) rfl ?_
      refine x_iload_n (E_X10_room_0 19 rfl) rfl ?_
      refine x_iload_n (E_X10_room_0 20 rfl) rfl ?_
      refine x_iast (E_X10_room_0 21 rfl) rfl (by decide) (by omega) ?_
      refine x_iload_n (E_X10_room_0 22 rfl) rfl ?_
      refine z_iret (E_X10_room_0 23 rfl) trivial ?_
      exact ⟨(if_n (by omega) (if_n (by omega) rfl)).symm, (if_pos (by omega)).symm⟩
    · refine x_if_ne (E_X10_room_0 9 rfl) (by decide) (fun c9 => absurd c9 (by decide)) (fun _ => ?_)
      refine x_sipush (z := (-1002)) (E_X10_room_0 10 rfl) (by decide) ?_
      refine z_iret (E_X10_room_0 11 rfl) trivial ?_
      exact ⟨(if_n (by omega) (if_p (by omega) rfl)).symm, (if_neg (by omega)).symm⟩
  · refine x_if_ne (E_X10_room_0 2 rfl) (by decide) (fun c9 => absurd c9 (by decide)) (fun _ => ?_)
    refine x_sipush (z := (-1001)) (E_X10_room_0 3 rfl) (by decide) ?_
    refine z_iret (E_X10_room_0 4 rfl) trivial ?_
    exact ⟨(if_p (by omega) rfl).symm, (if_neg (by omega)).symm⟩

theorem c_X11_room {f v : Int} (hf : rgi f) (hv : rgi v)  : CI l G M_X11_room 2 [vr 114, vi f, vi v] σ (fun z τ => z = (if ¬ (0 ≤ f ∧ f ≤ 5) then -1001 else if ¬ (0 ≤ v ∧ v ≤ 999) then -1002 else σ 121 f) ∧ τ = if (0 ≤ f ∧ f ≤ 5) ∧ 0 ≤ v ∧ v ≤ 999 then upq σ 121 f v else σ) := by
  refine Ct.of rfl (Nat.le_of_ble_eq_true rfl) ?_
  refine x_iload_n (E_X11_room_0 0 rfl) rfl ?_
  refine z_callSi (E_X11_room_0 1 rfl) ml_X11_217 ms_X11_isFloor (c_X11_isFloor (by omega)) (by decide) rfl rfl (Nat.le_of_ble_eq_true rfl) (fun z9 τ9 h9 => ?_)
  obtain ⟨rfl, ⟨rfl, c1⟩ | ⟨rfl, c1⟩⟩ := h9
  · refine x_if_ne (E_X11_room_0 2 rfl) (by decide) (fun _ => ?_) (fun c9 => absurd c9 (by decide))
    refine x_iload_n (E_X11_room_0 5 rfl) rfl ?_
    refine x_i2l (E_X11_room_0 6 rfl) (by omega) ?_
    refine x_lconst (z := 0) (E_X11_room_0 7 rfl) rfl ?_
    refine x_ldc2 (z := 999) (E_X11_room_0 8 rfl) kc_X11_211 (by decide) ?_
    refine z_callSi (E_X11_room_0 9 rfl) ml_X11_197 ms_X11_in (c_X11_in (by omega) (by omega) (by omega)) (by decide) rfl rfl (Nat.le_of_ble_eq_true rfl) (fun z9 τ9 h9 => ?_)
    obtain ⟨rfl, ⟨rfl, c2⟩ | ⟨rfl, c2⟩⟩ := h9
    · refine x_if_ne (E_X11_room_0 10 rfl) (by decide) (fun _ => ?_) (fun c9 => absurd c9 (by decide))
      refine x_aload_n (E_X11_room_0 13 rfl) rfl ?_
      refine x_getR (E_X11_room_0 14 rfl) fl_X11_28 rfl (by decide) rfl ?_
      refine x_iload_n (E_X11_room_0 15 rfl) rfl ?_
      refine x_ialde (f := σ 121) (E_X11_room_0 16 rfl) rfl (by decide) (by omega) rfl ?_
      refine x_istore_n (E_X11_room_0 17 rfl) rfl ?_
      refine x_aload_n (E_X11_room_0 18 rfl) rfl ?_
      refine x_getR (E_X11_room_0 19 rfl) fl_X11_28 rfl (by decide) rfl ?_
      refine x_iload_n (E_X11_room_0 20 rfl) rfl ?_
      refine x_iload_n (E_X11_room_0 21 rfl) rfl ?_
      refine x_iast (E_X11_room_0 22 rfl) rfl (by decide) (by omega) ?_
      refine x_iload_n (E_X11_room_0 23 rfl) rfl ?_
      refine z_iret (E_X11_room_0 24 rfl) trivial ?_
      exact ⟨(if_n (by omega) (if_n (by omega) rfl)).symm, (if_pos (by omega)).symm⟩
    · refine x_if_ne (E_X11_room_0 10 rfl) (by decide) (fun c9 => absurd c9 (by decide)) (fun _ => ?_)
      refine x_sipush (z := (-1002)) (E_X11_room_0 11 rfl) (by decide) ?_
      refine z_iret (E_X11_room_0 12 rfl) trivial ?_
      exact ⟨(if_n (by omega) (if_p (by omega) rfl)).symm, (if_neg (by omega)).symm⟩
  · refine x_if_ne (E_X11_room_0 2 rfl) (by decide) (fun c9 => absurd c9 (by decide)) (fun _ => ?_)
    refine x_sipush (z := (-1001)) (E_X11_room_0 3 rfl) (by decide) ?_
    refine z_iret (E_X11_room_0 4 rfl) trivial ?_
    exact ⟨(if_p (by omega) rfl).symm, (if_neg (by omega)).symm⟩

theorem c_X10_move {i f : Int} (hi : rgi i) (hf : rgi f) (h0 : 0 ≤ σ 1 5 ∧ σ 1 5 ≤ 12) (hfl : ∀ i, 0 ≤ i → i < σ 1 5 → 0 ≤ σ 5 i ∧ σ 5 i ≤ 5) : CI l G M_X10_move 2 [vr 0, vi i, vi f] σ (fun z τ => z = (if ¬ ((0 ≤ i ∧ i < σ 1 5) ∧ 0 ≤ f ∧ f ≤ 5) then -1001 else if σ 5 i = f then -1003 else σ 5 i) ∧ τ = if ((0 ≤ i ∧ i < σ 1 5) ∧ 0 ≤ f ∧ f ≤ 5) ∧ σ 5 i ≠ f then upq σ 5 i f else σ) := by
  refine Ct.of rfl (Nat.le_of_ble_eq_true rfl) ?_
  refine x_aload_n (E_X10_move_0 0 rfl) rfl ?_
  refine x_getR (E_X10_move_0 1 rfl) fl_X10_16 rfl (by decide) rfl ?_
  refine x_iload_n (E_X10_move_0 2 rfl) rfl ?_
  refine z_callVi (E_X10_move_0 3 rfl) ml_X10_121 mv_X3_has rfl (by decide) (by decide) (c_X3_has (by omega) (by omega)) (by decide) rfl rfl (Nat.le_of_ble_eq_true rfl) (fun z9 τ9 h9 => ?_)
  obtain ⟨rfl, ⟨rfl, c1⟩ | ⟨rfl, c1⟩⟩ := h9
  · refine x_if_eq (E_X10_move_0 4 rfl) (by decide) (fun c9 => absurd c9 (by decide)) (fun _ => ?_)
    refine x_iload_n (E_X10_move_0 5 rfl) rfl ?_
    refine z_callSi (E_X10_move_0 6 rfl) ml_X10_108 ms_X10_isFloor (c_X10_isFloor (by omega)) (by decide) rfl rfl (Nat.le_of_ble_eq_true rfl) (fun z9 τ9 h9 => ?_)
    obtain ⟨rfl, ⟨rfl, c2⟩ | ⟨rfl, c2⟩⟩ := h9
    · refine x_if_ne (E_X10_move_0 7 rfl) (by decide) (fun _ => ?_) (fun c9 => absurd c9 (by decide))
      refine x_aload_n (E_X10_move_0 10 rfl) rfl ?_
      refine x_getR (E_X10_move_0 11 rfl) fl_X10_16 rfl (by decide) rfl ?_
      refine x_getR (E_X10_move_0 12 rfl) fl_X10_124 rfl (by decide) rfl ?_
      refine x_iload_n (E_X10_move_0 13 rfl) rfl ?_
      refine x_ialde (f := σ 5) (E_X10_move_0 14 rfl) rfl (by decide) (by omega) rfl ?_
      refine x_istore_n (E_X10_move_0 15 rfl) rfl ?_
      have hx9 := hfl i (by omega) (by omega)
      refine x_iload_n (E_X10_move_0 16 rfl) rfl ?_
      refine x_iload_n (E_X10_move_0 17 rfl) rfl ?_
      refine x_icmp_ne (E_X10_move_0 18 rfl) (by omega) (by omega) (fun c3 => ?_) (fun c3 => ?_)
      · refine x_aload_n (E_X10_move_0 21 rfl) rfl ?_
        refine x_getR (E_X10_move_0 22 rfl) fl_X10_16 rfl (by decide) rfl ?_
        refine x_getR (E_X10_move_0 23 rfl) fl_X10_124 rfl (by decide) rfl ?_
        refine x_iload_n (E_X10_move_0 24 rfl) rfl ?_
        refine x_iload_n (E_X10_move_0 25 rfl) rfl ?_
        refine x_iast (E_X10_move_0 26 rfl) rfl (by decide) (by omega) ?_
        refine x_iload_n (E_X10_move_0 27 rfl) rfl ?_
        refine z_iret (E_X10_move_0 28 rfl) trivial ?_
        exact ⟨(if_n (by omega) (if_n (by omega) rfl)).symm, (if_pos (by omega)).symm⟩
      · refine x_sipush (z := (-1003)) (E_X10_move_0 19 rfl) (by decide) ?_
        refine z_iret (E_X10_move_0 20 rfl) trivial ?_
        exact ⟨(if_n (by omega) (if_p (by omega) rfl)).symm, (if_neg (by omega)).symm⟩
    · refine x_if_ne (E_X10_move_0 7 rfl) (by decide) (fun c9 => absurd c9 (by decide)) (fun _ => ?_)
      refine x_sipush (z := (-1001)) (E_X10_move_0 8 rfl) (by decide) ?_
      refine z_iret (E_X10_move_0 9 rfl) trivial ?_
      exact ⟨(if_p (by omega) rfl).symm, (if_neg (by omega)).symm⟩
  · refine x_if_eq (E_X10_move_0 4 rfl) (by decide) (fun _ => ?_) (fun c9 => absurd (by decide) c9)
    refine x_sipush (z := (-1001)) (E_X10_move_0 8 rfl) (by decide) ?_
    refine z_iret (E_X10_move_0 9 rfl) trivial ?_
    exact ⟨(if_p (by omega) rfl).symm, (if_neg (by omega)).symm⟩

theorem c_X11_move {i f : Int} (hi : rgi i) (hf : rgi f) (h0 : 0 ≤ σ 114 1 ∧ σ 114 1 ≤ 12) (hfl : ∀ i, 0 ≤ i → i < σ 114 1 → 0 ≤ σ 119 i ∧ σ 119 i ≤ 5) : CI l G M_X11_move 2 [vr 114, vi i, vi f] σ (fun z τ => z = (if ¬ ((0 ≤ i ∧ i < σ 114 1) ∧ 0 ≤ f ∧ f ≤ 5) then -1001 else if σ 119 i = f then -1003 else σ 119 i) ∧ τ = if ((0 ≤ i ∧ i < σ 114 1) ∧ 0 ≤ f ∧ f ≤ 5) ∧ σ 119 i ≠ f then upq σ 119 i f else σ) := by
  refine Ct.of rfl (Nat.le_of_ble_eq_true rfl) ?_
  refine x_aload_n (E_X11_move_0 0 rfl) rfl ?_
  refine x_iload_n (E_X11_move_0 1 rfl) rfl ?_
  refine z_callVi (E_X11_move_0 2 rfl) ml_X11_224 mv_X11_noLot rfl (by decide) (by decide) (c_X11_noLot (by omega) (by omega)) (by decide) rfl rfl (Nat.le_of_ble_eq_true rfl) (fun z9 τ9 h9 => ?_)
  obtain ⟨rfl, ⟨rfl, c1⟩ | ⟨rfl, c1⟩⟩ := h9
  · refine x_if_ne (E_X11_move_0 3 rfl) (by decide) (fun _ => ?_) (fun c9 => absurd c9 (by decide))
    refine x_sipush (z := (-1001)) (E_X11_move_0 7 rfl) (by decide) ?_
    refine z_iret (E_X11_move_0 8 rfl) trivial ?_
    exact ⟨(if_p (by omega) rfl).symm, (if_neg (by omega)).symm⟩
  · refine x_if_ne (E_X11_move_0 3 rfl) (by decide) (fun c9 => absurd c9 (by decide)) (fun _ => ?_)
    refine x_iload_n (E_X11_move_0 4 rfl) rfl ?_
    refine z_callSi (E_X11_move_0 5 rfl) ml_X11_217 ms_X11_isFloor (c_X11_isFloor (by omega)) (by decide) rfl rfl (Nat.le_of_ble_eq_true rfl) (fun z9 τ9 h9 => ?_)
    obtain ⟨rfl, ⟨rfl, c2⟩ | ⟨rfl, c2⟩⟩ := h9
    · refine x_if_ne (E_X11_move_0 6 rfl) (by decide) (fun _ => ?_) (fun c9 => absurd c9 (by decide))
      refine x_aload_n (E_X11_move_0 9 rfl) rfl ?_
      refine x_getR (E_X11_move_0 10 rfl) fl_X11_22 rfl (by decide) rfl ?_
      refine x_iload_n (E_X11_move_0 11 rfl) rfl ?_
      refine x_ialde (f := σ 119) (E_X11_move_0 12 rfl) rfl (by decide) (by omega) rfl ?_
      have hx9 := hfl i (by omega) (by omega)
      refine x_iload_n (E_X11_move_0 13 rfl) rfl ?_
      refine x_icmp_ne (E_X11_move_0 14 rfl) (by omega) (by omega) (fun c3 => ?_) (fun c3 => ?_)
      · refine x_aload_n (E_X11_move_0 17 rfl) rfl ?_
        refine x_getR (E_X11_move_0 18 rfl) fl_X11_22 rfl (by decide) rfl ?_
        refine x_iload_n (E_X11_move_0 19 rfl) rfl ?_
        refine x_ialde (f := σ 119) (E_X11_move_0 20 rfl) rfl (by decide) (by omega) rfl ?_
        refine x_istore_n (E_X11_move_0 21 rfl) rfl ?_
        refine x_aload_n (E_X11_move_0 22 rfl) rfl ?_
        refine x_getR (E_X11_move_0 23 rfl) fl_X11_22 rfl (by decide) rfl ?_
        refine x_iload_n (E_X11_move_0 24 rfl) rfl ?_
        refine x_iload_n (E_X11_move_0 25 rfl) rfl ?_
        refine x_iast (E_X11_move_0 26 rfl) rfl (by decide) (by omega) ?_
        refine x_iload_n (E_X11_move_0 27 rfl) rfl ?_
        refine z_iret (E_X11_move_0 28 rfl) trivial ?_
        exact ⟨(if_n (by omega) (if_n (by omega) rfl)).symm, (if_pos (by omega)).symm⟩
      · refine x_sipush (z := (-1003)) (E_X11_move_0 15 rfl) (by decide) ?_
        refine z_iret (E_X11_move_0 16 rfl) trivial ?_
        exact ⟨(if_n (by omega) (if_p (by omega) rfl)).symm, (if_neg (by omega)).symm⟩
    · refine x_if_ne (E_X11_move_0 6 rfl) (by decide) (fun c9 => absurd c9 (by decide)) (fun _ => ?_)
      refine x_sipush (z := (-1001)) (E_X11_move_0 7 rfl) (by decide) ?_
      refine z_iret (E_X11_move_0 8 rfl) trivial ?_
      exact ⟨(if_p (by omega) rfl).symm, (if_neg (by omega)).symm⟩

theorem c_X10_fault  : CI l G M_X10_fault 0 [vr 0] σ (fun z τ => z = (σ 41 6) ∧ τ = if True then σ else σ) := by
  refine Ct.of rfl (Nat.le_of_ble_eq_true rfl) ?_
  refine x_aload_n (E_X10_fault_0 0 rfl) rfl ?_
  refine x_getR (E_X10_fault_0 1 rfl) fl_X10_37 rfl (by decide) rfl ?_
  refine x_getIe (v := σ 41 6) (E_X10_fault_0 2 rfl) fl_X10_219 rfl (by decide) rfl ?_
  refine z_iret (E_X10_fault_0 3 rfl) trivial ?_
  exact ⟨rfl, (if_pos trivial).symm⟩

theorem c_X11_fault  : CI l G M_X11_fault 0 [vr 114] σ (fun z τ => z = (σ 114 32) ∧ τ = if True then σ else σ) := by
  refine Ct.of rfl (Nat.le_of_ble_eq_true rfl) ?_
  refine x_aload_n (E_X11_fault_0 0 rfl) rfl ?_
  refine x_getIe (v := σ 114 32) (E_X11_fault_0 1 rfl) fl_X11_83 rfl (by decide) rfl ?_
  refine z_iret (E_X11_fault_0 2 rfl) trivial ?_
  exact ⟨rfl, (if_pos trivial).symm⟩

theorem c_X10_weigh {i n w : Int} (hi : rgi i) (hn : rgi n) (hw : rgi w) (h0 : 0 ≤ σ 1 5 ∧ σ 1 5 ≤ 12) (h1 : 0 ≤ σ 74 4 ∧ σ 74 4 ≤ 40) : CI l G M_X10_weigh 1 [vr 0, vi i, vi n, vi w] σ (fun z τ => z = (if ¬ (0 ≤ i ∧ i < σ 1 5) then -1001 else if ¬ ((1 ≤ n ∧ n ≤ 200) ∧ 0 ≤ w ∧ w ≤ 199999) then -1002 else if 40 ≤ σ 74 4 then -1004 else σ 74 4 + 1) ∧ τ = if (0 ≤ i ∧ i < σ 1 5) ∧ ((1 ≤ n ∧ n ≤ 200) ∧ 0 ≤ w ∧ w ≤ 199999) ∧ σ 74 4 < 40 then upq (upq (upq (upq (upq σ 75 (σ 74 4) i) 76 (σ 74 4) n) 77 (σ 74 4) w) 78 (σ 74 4) (σ 0 0)) 74 4 (σ 74 4 + 1) else σ) := by
  refine Ct.of rfl (Nat.le_of_ble_eq_true rfl) ?_
  refine x_aload_n (E_X10_weigh_0 0 rfl) rfl ?_
  refine x_getR (E_X10_weigh_0 1 rfl) fl_X10_16 rfl (by decide) rfl ?_
  refine x_iload_n (E_X10_weigh_0 2 rfl) rfl ?_
  refine z_callVi (E_X10_weigh_0 3 rfl) ml_X10_121 mv_X3_has rfl (by decide) (by decide) (c_X3_has (by omega) (by omega)) (by decide) rfl rfl (Nat.le_of_ble_eq_true rfl) (fun z9 τ9 h9 => ?_)
  obtain ⟨rfl, ⟨rfl, c1⟩ | ⟨rfl, c1⟩⟩ := h9
  · refine x_if_ne (E_X10_weigh_0 4 rfl) (by decide) (fun _ => ?_) (fun c9 => absurd c9 (by decide))
    refine x_iload_n (E_X10_weigh_0 7 rfl) rfl ?_
    refine x_iconst (E_X10_weigh_0 8 rfl) ?_
    refine x_sipush (z := 200) (E_X10_weigh_0 9 rfl) (by decide) ?_
    refine z_callSi (E_X10_weigh_0 10 rfl) ml_X10_100 ms_X10_within (c_X10_within (by omega) (by omega) (by omega)) (by decide) rfl rfl (Nat.le_of_ble_eq_true rfl) (fun z9 τ9 h9 => ?_)
    obtain ⟨rfl, ⟨rfl, c2⟩ | ⟨rfl, c2⟩⟩ := h9
    · refine x_if_eq (E_X10_weigh_0 11 rfl) (by decide) (fun c9 => absurd c9 (by decide)) (fun _ => ?_)
      refine x_iload_n (E_X10_weigh_0 12 rfl) rfl ?_
      refine x_iconst (E_X10_weigh_0 13 rfl) ?_
      refine x_ldcw (z := 199999) (E_X10_weigh_0 14 rfl) kc_X10_303 (by decide) ?_
      refine z_callSi (E_X10_weigh_0 15 rfl) ml_X10_100 ms_X10_within (c_X10_within (by omega) (by omega) (by omega)) (by decide) rfl rfl (Nat.le_of_ble_eq_true rfl) (fun z9 τ9 h9 => ?_)
      obtain ⟨rfl, ⟨rfl, c3⟩ | ⟨rfl, c3⟩⟩ := h9
      · refine x_if_ne (E_X10_weigh_0 16 rfl) (by decide) (fun _ => ?_) (fun c9 => absurd c9 (by decide))
        refine x_aload_n (E_X10_weigh_0 19 rfl) rfl ?_
        refine x_getR (E_X10_weigh_0 20 rfl) fl_X10_63 rfl (by decide) rfl ?_
        refine x_getIe (v := σ 74 4) (E_X10_weigh_0 21 rfl) fl_X10_204 rfl (by decide) rfl ?_
        refine x_bipush (z := 40) (E_X10_weigh_0 22 rfl) (by decide) ?_
        refine x_icmp_lt (E_X10_weigh_0 23 rfl) (by omega) (by decide) (fun c4 => ?_) (fun c4 => ?_)
        · refine x_aload_n (E_X10_weigh_0 26 rfl) rfl ?_
          refine x_getR (E_X10_weigh_0 27 rfl) fl_X10_63 rfl (by decide) rfl ?_
          refine x_iload_n (E_X10_weigh_0 28 rfl) rfl ?_
          refine x_iload_n (E_X10_weigh_0 29 rfl) rfl ?_
          refine x_iload_n (E_X10_weigh_0 30 rfl) rfl ?_
          refine x_aload_n (E_X10_weigh_0 31 rfl) rfl ?_
          refine x_getIe (v := σ 0 0) (E_X10_weigh_0 32 rfl) fl_X10_7 rfl (by decide) rfl ?_
          refine z_callVi (E_X10_weigh_0 33 rfl) ml_X10_304 mv_X9_add rfl (by decide) (by decide) (c_X9_add (by omega)) (by decide) rfl rfl (Nat.le_of_ble_eq_true rfl) (fun z9 τ9 h9 => ?_)
          obtain ⟨rfl, rfl⟩ := h9
          refine z_iret (E_X10_weigh_0 34 rfl) trivial ?_
          exact ⟨(if_n (by omega) (if_n (by omega) (if_n (by omega) rfl))).symm, (if_pos (by omega)).symm⟩
        · refine x_sipush (z := (-1004)) (E_X10_weigh_0 24 rfl) (by decide) ?_
          refine z_iret (E_X10_weigh_0 25 rfl) trivial ?_
          exact ⟨(if_n (by omega) (if_n (by omega) (if_p (by omega) rfl))).symm, (if_neg (by omega)).symm⟩
      · refine x_if_ne (E_X10_weigh_0 16 rfl) (by decide) (fun c9 => absurd c9 (by decide)) (fun _ => ?_)
        refine x_sipush (z := (-1002)) (E_X10_weigh_0 17 rfl) (by decide) ?_
        refine z_iret (E_X10_weigh_0 18 rfl) trivial ?_
        exact ⟨(if_n (by omega) (if_p (by omega) rfl)).symm, (if_neg (by omega)).symm⟩
    · refine x_if_eq (E_X10_weigh_0 11 rfl) (by decide) (fun _ => ?_) (fun c9 => absurd (by decide) c9)
      refine x_sipush (z := (-1002)) (E_X10_weigh_0 17 rfl) (by decide) ?_
      refine z_iret (E_X10_weigh_0 18 rfl) trivial ?_
      exact ⟨(if_n (by omega) (if_p (by omega) rfl)).symm, (if_neg (by omega)).symm⟩
  · refine x_if_ne (E_X10_weigh_0 4 rfl) (by decide) (fun c9 => absurd c9 (by decide)) (fun _ => ?_)
    refine x_sipush (z := (-1001)) (E_X10_weigh_0 5 rfl) (by decide) ?_
    refine z_iret (E_X10_weigh_0 6 rfl) trivial ?_
    exact ⟨(if_p (by omega) rfl).symm, (if_neg (by omega)).symm⟩

theorem c_X11_weigh {i n w : Int} (hi : rgi i) (hn : rgi n) (hw : rgi w) (h0 : 0 ≤ σ 114 1 ∧ σ 114 1 ≤ 12) (h1 : 0 ≤ σ 114 54 ∧ σ 114 54 ≤ 40) : CI l G M_X11_weigh 2 [vr 114, vi i, vi n, vi w] σ (fun z τ => z = (if ¬ (0 ≤ i ∧ i < σ 114 1) then -1001 else if ¬ ((1 ≤ n ∧ n ≤ 200) ∧ 0 ≤ w ∧ w ≤ 199999) then -1002 else if 40 ≤ σ 114 54 then -1004 else σ 114 54 + 1) ∧ τ = if (0 ≤ i ∧ i < σ 114 1) ∧ ((1 ≤ n ∧ n ≤ 200) ∧ 0 ≤ w ∧ w ≤ 199999) ∧ σ 114 54 < 40 then upq (upq (upq (upq (upq σ 155 (σ 114 54) i) 156 (σ 114 54) n) 157 (σ 114 54) w) 158 (σ 114 54) (σ 114 0)) 114 54 (σ 114 54 + 1) else σ) := by
  refine Ct.of rfl (Nat.le_of_ble_eq_true rfl) ?_
  refine x_aload_n (E_X11_weigh_0 0 rfl) rfl ?_
  refine x_iload_n (E_X11_weigh_0 1 rfl) rfl ?_
  refine z_callVi (E_X11_weigh_0 2 rfl) ml_X11_224 mv_X11_noLot rfl (by decide) (by decide) (c_X11_noLot (by omega) (by omega)) (by decide) rfl rfl (Nat.le_of_ble_eq_true rfl) (fun z9 τ9 h9 => ?_)
  obtain ⟨rfl, ⟨rfl, c1⟩ | ⟨rfl, c1⟩⟩ := h9
  · refine x_if_eq (E_X11_weigh_0 3 rfl) (by decide) (fun c9 => absurd c9 (by decide)) (fun _ => ?_)
    refine x_sipush (z := (-1001)) (E_X11_weigh_0 4 rfl) (by decide) ?_
    refine z_iret (E_X11_weigh_0 5 rfl) trivial ?_
    exact ⟨(if_p (by omega) rfl).symm, (if_neg (by omega)).symm⟩
  · refine x_if_eq (E_X11_weigh_0 3 rfl) (by decide) (fun _ => ?_) (fun c9 => absurd (by decide) c9)
    refine x_iload_n (E_X11_weigh_0 6 rfl) rfl ?_
    refine x_i2l (E_X11_weigh_0 7 rfl) (by omega) ?_
    refine x_lconst (z := 1) (E_X11_weigh_0 8 rfl) rfl ?_
    refine x_ldc2 (z := 200) (E_X11_weigh_0 9 rfl) kc_X11_222 (by decide) ?_
    refine z_callSi (E_X11_weigh_0 10 rfl) ml_X11_197 ms_X11_in (c_X11_in (by omega) (by omega) (by omega)) (by decide) rfl rfl (Nat.le_of_ble_eq_true rfl) (fun z9 τ9 h9 => ?_)
    obtain ⟨rfl, ⟨rfl, c2⟩ | ⟨rfl, c2⟩⟩ := h9
    · refine x_if_eq (E_X11_weigh_0 11 rfl) (by decide) (fun c9 => absurd c9 (by decide)) (fun _ => ?_)
      refine x_iload_n (E_X11_weigh_0 12 rfl) rfl ?_
      refine x_i2l (E_X11_weigh_0 13 rfl) (by omega) ?_
      refine x_lconst (z := 0) (E_X11_weigh_0 14 rfl) rfl ?_
      refine x_ldc2 (z := 199999) (E_X11_weigh_0 15 rfl) kc_X11_419 (by decide) ?_
      refine z_callSi (E_X11_weigh_0 16 rfl) ml_X11_197 ms_X11_in (c_X11_in (by omega) (by omega) (by omega)) (by decide) rfl rfl (Nat.le_of_ble_eq_true rfl) (fun z9 τ9 h9 => ?_)
      obtain ⟨rfl, ⟨rfl, c3⟩ | ⟨rfl, c3⟩⟩ := h9
      · refine x_if_ne (E_X11_weigh_0 17 rfl) (by decide) (fun _ => ?_) (fun c9 => absurd c9 (by decide))
        refine x_aload_n (E_X11_weigh_0 20 rfl) rfl ?_
        refine x_getIe (v := σ 114 54) (E_X11_weigh_0 21 rfl) fl_X11_393 rfl (by decide) rfl ?_
        refine x_bipush (z := 40) (E_X11_weigh_0 22 rfl) (by decide) ?_
        refine x_icmp_ne (E_X11_weigh_0 23 rfl) (by omega) (by decide) (fun c4 => ?_) (fun c4 => ?_)
        · refine x_aload_n (E_X11_weigh_0 26 rfl) rfl ?_
          refine x_getR (E_X11_weigh_0 27 rfl) fl_X11_135 rfl (by decide) rfl ?_
          refine x_aload_n (E_X11_weigh_0 28 rfl) rfl ?_
          refine x_getIe (v := σ 114 54) (E_X11_weigh_0 29 rfl) fl_X11_393 rfl (by decide) rfl ?_
          refine x_iload_n (E_X11_weigh_0 30 rfl) rfl ?_
          refine x_iast (E_X11_weigh_0 31 rfl) rfl (by decide) (by omega) ?_
          refine x_aload_n (E_X11_weigh_0 32 rfl) rfl ?_
          refine x_getR (E_X11_weigh_0 33 rfl) fl_X11_138 rfl (by decide) rfl ?_
          refine x_aload_n (E_X11_weigh_0 34 rfl) rfl ?_
          refine x_getIe (v := σ 114 54) (E_X11_weigh_0 35 rfl) fl_X11_393 rfl (by decide) rfl ?_
          refine x_iload_n (E_X11_weigh_0 36 rfl) rfl ?_
          refine x_iast (E_X11_weigh_0 37 rfl) rfl (by decide) (by omega) ?_
          refine x_aload_n (E_X11_weigh_0 38 rfl) rfl ?_
          refine x_getR (E_X11_weigh_0 39 rfl) fl_X11_141 rfl (by decide) rfl ?_
          refine x_aload_n (E_X11_weigh_0 40 rfl) rfl ?_
          refine x_getIe (v := σ 114 54) (E_X11_weigh_0 41 rfl) fl_X11_393 rfl (by decide) rfl ?_
          refine x_iload_n (E_X11_weigh_0 42 rfl) rfl ?_
          refine x_iast (E_X11_weigh_0 43 rfl) rfl (by decide) (by omega) ?_
          refine x_aload_n (E_X11_weigh_0 44 rfl) rfl ?_
          refine x_getR (E_X11_weigh_0 45 rfl) fl_X11_144 rfl (by decide) rfl ?_
          refine x_aload_n (E_X11_weigh_0 46 rfl) rfl ?_
          refine x_getIe (v := σ 114 54) (E_X11_weigh_0 47 rfl) fl_X11_393 rfl (by decide) rfl ?_
          refine x_aload_n (E_X11_weigh_0 48 rfl) rfl ?_
          refine x_getIe (v := σ 114 0) (E_X11_weigh_0 49 rfl) fl_X11_205 rfl (by decide) rfl ?_
          refine x_iast (E_X11_weigh_0 50 rfl) rfl (by decide) (by omega) ?_
          refine x_aload_n (E_X11_weigh_0 51 rfl) rfl ?_
          refine x_dupr (E_X11_weigh_0 52 rfl) ?_
          refine x_getIe (v := σ 114 54) (E_X11_weigh_0 53 rfl) fl_X11_393 rfl (by decide) rfl ?_
          refine x_iconst (E_X11_weigh_0 54 rfl) ?_
          refine x_iadd (E_X11_weigh_0 55 rfl) ?_
          refine x_putI (E_X11_weigh_0 56 rfl) fl_X11_393 rfl (by decide) ?_
          refine x_aload_n (E_X11_weigh_0 57 rfl) rfl ?_
          refine x_getI (E_X11_weigh_0 58 rfl) fl_X11_393 rfl (by decide) ?_
          refine z_iret (E_X11_weigh_0 59 rfl) trivial ?_
          refine ⟨?_, (if_pos (by omega)).symm⟩
          show σ 114 54 + 1 = _
          exact (if_n (by omega) (if_n (by omega) (if_n (by omega) rfl))).symm
        · refine x_sipush (z := (-1004)) (E_X11_weigh_0 24 rfl) (by decide) ?_
          refine z_iret (E_X11_weigh_0 25 rfl) trivial ?_
          exact ⟨(if_n (by omega) (if_n (by omega) (if_p (by omega) rfl))).symm, (if_neg (by omega)).symm⟩
      · refine x_if_ne (E_X11_weigh_0 17 rfl) (by decide) (fun c9 => absurd c9 (by decide)) (fun _ => ?_)
        refine x_sipush (z := (-1002)) (E_X11_weigh_0 18 rfl) (by decide) ?_
        refine z_iret (E_X11_weigh_0 19 rfl) trivial ?_
        exact ⟨(if_n (by omega) (if_p (by omega) rfl)).symm, (if_neg (by omega)).symm⟩
    · refine x_if_eq (E_X11_weigh_0 11 rfl) (by decide) (fun _ => ?_) (fun c9 => absurd (by decide) c9)
      refine x_sipush (z := (-1002)) (E_X11_weigh_0 18 rfl) (by decide) ?_
      refine z_iret (E_X11_weigh_0 19 rfl) trivial ?_
      exact ⟨(if_n (by omega) (if_p (by omega) rfl)).symm, (if_neg (by omega)).symm⟩

theorem shp_up {h : Int} (h0 : 0 ≤ h ∧ h ≤ 7) : shp (80 + h.toNat) = (12, 12) ∧ ρ0 79 h = some (80 + h.toNat) := by
  obtain ⟨n, rfl⟩ : ∃ n : Nat, h = n := ⟨h.toNat, by omega⟩
  have : n < 8 := by omega
  match n, this with
  | 0, _ | 1, _ | 2, _ | 3, _ | 4, _ | 5, _ | 6, _ | 7, _ => exact ⟨rfl, rfl⟩
  | n + 8, h => omega

theorem c_X10_unpaid {h i v : Int} (hh : rgi h) (hi : rgi i) (hv : rgi v) (h0 : 0 ≤ σ 1 5 ∧ σ 1 5 ≤ 12) : CI l G M_X10_unpaid 2 [vr 0, vi h, vi i, vi v] σ (fun z τ => z = (if ¬ ((0 ≤ h ∧ h ≤ 7) ∧ 0 ≤ i ∧ i < σ 1 5) then -1001 else if ¬ (0 ≤ v ∧ v ≤ 9999) then -1002 else σ (80 + h.toNat) i) ∧ τ = if ((0 ≤ h ∧ h ≤ 7) ∧ 0 ≤ i ∧ i < σ 1 5) ∧ 0 ≤ v ∧ v ≤ 9999 then upq σ (80 + h.toNat) i v else σ) := by
  refine Ct.of rfl (Nat.le_of_ble_eq_true rfl) ?_
  refine x_iload_n (E_X10_unpaid_0 0 rfl) rfl ?_
  refine z_callSi (E_X10_unpaid_0 1 rfl) ml_X10_104 ms_X10_isHouse (c_X10_isHouse (by omega)) (by decide) rfl rfl (Nat.le_of_ble_eq_true rfl) (fun z9 τ9 h9 => ?_)
  obtain ⟨rfl, ⟨rfl, c1⟩ | ⟨rfl, c1⟩⟩ := h9
  · refine x_if_eq (E_X10_unpaid_0 2 rfl) (by decide) (fun c9 => absurd c9 (by decide)) (fun _ => ?_)
    refine x_aload_n (E_X10_unpaid_0 3 rfl) rfl ?_
    refine x_getR (E_X10_unpaid_0 4 rfl) fl_X10_16 rfl (by decide) rfl ?_
    refine x_iload_n (E_X10_unpaid_0 5 rfl) rfl ?_
    refine z_callVi (E_X10_unpaid_0 6 rfl) ml_X10_121 mv_X3_has rfl (by decide) (by decide) (c_X3_has (by omega) (by omega)) (by decide) rfl rfl (Nat.le_of_ble_eq_true rfl) (fun z9 τ9 h9 => ?_)
    obtain ⟨rfl, ⟨rfl, c2⟩ | ⟨rfl, c2⟩⟩ := h9
    · refine x_if_ne (E_X10_unpaid_0 7 rfl) (by decide) (fun _ => ?_) (fun c9 => absurd c9 (by decide))
      refine x_iload_n (E_X10_unpaid_0 10 rfl) rfl ?_
      refine x_iconst (E_X10_unpaid_0 11 rfl) ?_
      refine x_sipush (z := 9999) (E_X10_unpaid_0 12 rfl) (by decide) ?_
      refine z_callSi (E_X10_unpaid_0 13 rfl) ml_X10_100 ms_X10_within (c_X10_within (by omega) (by omega) (by omega)) (by decide) rfl rfl (Nat.le_of_ble_eq_true rfl) (fun z9 τ9 h9 => ?_)
      obtain ⟨rfl, ⟨rfl, c3⟩ | ⟨rfl, c3⟩⟩ := h9
      · refine x_if_ne (E_X10_unpaid_0 14 rfl) (by decide) (fun _ => ?_) (fun c9 => absurd c9 (by decide))
        refine x_aload_n (E_X10_unpaid_0 17 rfl) rfl ?_
        refine x_getR (E_X10_unpaid_0 18 rfl) fl_X10_69 rfl (by decide) rfl ?_
        refine x_iload_n (E_X10_unpaid_0 19 rfl) rfl ?_
        refine x_aald (E_X10_unpaid_0 20 rfl) rfl (by decide) (by omega) (shp_up (by omega)).2 ?_
        refine x_iload_n (E_X10_unpaid_0 21 rfl) rfl ?_
        refine x_iald (E_X10_unpaid_0 22 rfl) (shp_up (by omega)).1 (by omega) (by omega) ?_
        refine x_istore (E_X10_unpaid_0 23 rfl) rfl ?_
        refine x_aload_n (E_X10_unpaid_0 24 rfl) rfl ?_
        refine x_getR (E_X10_unpaid_0 25 rfl) fl_X10_69 rfl (by decide) rfl ?_
        refine x_iload_n (E_X10_unpaid_0 26 rfl) rfl ?_
        refine x_aald (E_X10_unpaid_0 27 rfl) rfl (by decide) (by omega) (shp_up (by omega)).2 ?_
        refine x_iload_n (E_X10_unpaid_0 28 rfl) rfl ?_
        refine x_iload_n (E_X10_unpaid_0 29 rfl) rfl ?_
        refine x_iast (E_X10_unpaid_0 30 rfl) (shp_up (by omega)).1 (by omega) (by omega) ?_
        refine x_iload (E_X10_unpaid_0 31 rfl) rfl ?_
        refine z_iret (E_X10_unpaid_0 32 rfl) trivial ?_
        exact ⟨(if_n (by omega) (if_n (by omega) rfl)).symm, (if_pos (by omega)).symm⟩
      · refine x_if_ne (E_X10_unpaid_0 14 rfl) (by decide) (fun c9 => absurd c9 (by decide)) (fun _ => ?_)
        refine x_sipush (z := (-1002)) (E_X10_unpaid_0 15 rfl) (by decide) ?_
        refine z_iret (E_X10_unpaid_0 16 rfl) trivial ?_
        exact ⟨(if_n (by omega) (if_p (by omega) rfl)).symm, (if_neg (by omega)).symm⟩
    · refine x_if_ne (E_X10_unpaid_0 7 rfl) (by decide) (fun c9 => absurd c9 (by decide)) (fun _ => ?_)
      refine x_sipush (z := (-1001)) (E_X10_unpaid_0 8 rfl) (by decide) ?_
      refine z_iret (E_X10_unpaid_0 9 rfl) trivial ?_
      exact ⟨(if_p (by omega) rfl).symm, (if_neg (by omega)).symm⟩
  · refine x_if_eq (E_X10_unpaid_0 2 rfl) (by decide) (fun _ => ?_) (fun c9 => absurd (by decide) c9)
    refine x_sipush (z := (-1001)) (E_X10_unpaid_0 8 rfl) (by decide) ?_
    refine z_iret (E_X10_unpaid_0 9 rfl) trivial ?_
    exact ⟨(if_p (by omega) rfl).symm, (if_neg (by omega)).symm⟩

theorem c_X11_unpaid {h i v : Int} (hh : rgi h) (hi : rgi i) (hv : rgi v) (h0 : 0 ≤ σ 114 1 ∧ σ 114 1 ≤ 12) : CI l G M_X11_unpaid 2 [vr 114, vi h, vi i, vi v] σ (fun z τ => z = (if ¬ ((0 ≤ h ∧ h ≤ 7) ∧ 0 ≤ i ∧ i < σ 114 1) then -1001 else if ¬ (0 ≤ v ∧ v ≤ 9999) then -1002 else σ 159 (8 * i + h)) ∧ τ = if ((0 ≤ h ∧ h ≤ 7) ∧ 0 ≤ i ∧ i < σ 114 1) ∧ 0 ≤ v ∧ v ≤ 9999 then upq σ 159 (8 * i + h) v else σ) := by
  refine Ct.of rfl (Nat.le_of_ble_eq_true rfl) ?_
  refine x_iload_n (E_X11_unpaid_0 0 rfl) rfl ?_
  refine z_callSi (E_X11_unpaid_0 1 rfl) ml_X11_213 ms_X11_isHouse (c_X11_isHouse (by omega)) (by decide) rfl rfl (Nat.le_of_ble_eq_true rfl) (fun z9 τ9 h9 => ?_)
  obtain ⟨rfl, ⟨rfl, c1⟩ | ⟨rfl, c1⟩⟩ := h9
  · refine x_if_eq (E_X11_unpaid_0 2 rfl) (by decide) (fun c9 => absurd c9 (by decide)) (fun _ => ?_)
    refine x_aload_n (E_X11_unpaid_0 3 rfl) rfl ?_
    refine x_iload_n (E_X11_unpaid_0 4 rfl) rfl ?_
    refine z_callVi (E_X11_unpaid_0 5 rfl) ml_X11_224 mv_X11_noLot rfl (by decide) (by decide) (c_X11_noLot (by omega) (by omega)) (by decide) rfl rfl (Nat.le_of_ble_eq_true rfl) (fun z9 τ9 h9 => ?_)
    obtain ⟨rfl, ⟨rfl, c2⟩ | ⟨rfl, c2⟩⟩ := h9
    · refine x_if_eq (E_X11_unpaid_0 6 rfl) (by decide) (fun c9 => absurd c9 (by decide)) (fun _ => ?_)
      refine x_sipush (z := (-1001)) (E_X11_unpaid_0 7 rfl) (by decide) ?_
      refine z_iret (E_X11_unpaid_0 8 rfl) trivial ?_
      exact ⟨(if_p (by omega) rfl).symm, (if_neg (by omega)).symm⟩
    · refine x_if_eq (E_X11_unpaid_0 6 rfl) (by decide) (fun _ => ?_) (fun c9 => absurd (by decide) c9)
      refine x_iload_n (E_X11_unpaid_0 9 rfl) rfl ?_
      refine x_i2l (E_X11_unpaid_0 10 rfl) (by omega) ?_
      refine x_lconst (z := 0) (E_X11_unpaid_0 11 rfl) rfl ?_
      refine x_ldc2 (z := 9999) (E_X11_unpaid_0 12 rfl) kc_X11_425 (by decide) ?_
      refine z_callSi (E_X11_unpaid_0 13 rfl) ml_X11_197 ms_X11_in (c_X11_in (by omega) (by omega) (by omega)) (by decide) rfl rfl (Nat.le_of_ble_eq_true rfl) (fun z9 τ9 h9 => ?_)
      obtain ⟨rfl, ⟨rfl, c3⟩ | ⟨rfl, c3⟩⟩ := h9
      · refine x_if_ne (E_X11_unpaid_0 14 rfl) (by decide) (fun _ => ?_) (fun c9 => absurd c9 (by decide))
        refine x_aload_n (E_X11_unpaid_0 17 rfl) rfl ?_
        refine x_getR (E_X11_unpaid_0 18 rfl) fl_X11_147 rfl (by decide) rfl ?_
        refine x_bipush (z := 8) (E_X11_unpaid_0 19 rfl) (by decide) ?_
        refine x_iload_n (E_X11_unpaid_0 20 rfl) rfl ?_
        refine x_imul (E_X11_unpaid_0 21 rfl) ?_
        refine x_iload_n (E_X11_unpaid_0 22 rfl) rfl ?_
        refine x_iadd (E_X11_unpaid_0 23 rfl) ?_
        refine x_ialde (f := σ 159) (E_X11_unpaid_0 24 rfl) rfl (by decide) (by omega) rfl ?_
        refine x_istore (E_X11_unpaid_0 25 rfl) rfl ?_
        refine x_aload_n (E_X11_unpaid_0 26 rfl) rfl ?_
        refine x_getR (E_X11_unpaid_0 27 rfl) fl_X11_147 rfl (by decide) rfl ?_
        refine x_bipush (z := 8) (E_X11_unpaid_0 28 rfl) (by decide) ?_
        refine x_iload_n (E_X11_unpaid_0 29 rfl) rfl ?_
        refine x_imul (E_X11_unpaid_0 30 rfl) ?_
        refine x_iload_n (E_X11_unpaid_0 31 rfl) rfl ?_
        refine x_iadd (E_X11_unpaid_0 32 rfl) ?_
        refine x_iload_n (E_X11_unpaid_0 33 rfl) rfl ?_
        refine x_iast (E_X11_unpaid_0 34 rfl) rfl (by decide) (by omega) ?_
        refine x_iload (E_X11_unpaid_0 35 rfl) rfl ?_
        refine z_iret (E_X11_unpaid_0 36 rfl) trivial ?_
        exact ⟨(if_n (by omega) (if_n (by omega) rfl)).symm, (if_pos (by omega)).symm⟩
      · refine x_if_ne (E_X11_unpaid_0 14 rfl) (by decide) (fun c9 => absurd c9 (by decide)) (fun _ => ?_)
        refine x_sipush (z := (-1002)) (E_X11_unpaid_0 15 rfl) (by decide) ?_
        refine z_iret (E_X11_unpaid_0 16 rfl) trivial ?_
        exact ⟨(if_n (by omega) (if_p (by omega) rfl)).symm, (if_neg (by omega)).symm⟩
  · refine x_if_eq (E_X11_unpaid_0 2 rfl) (by decide) (fun _ => ?_) (fun c9 => absurd (by decide) c9)
    refine x_sipush (z := (-1001)) (E_X11_unpaid_0 7 rfl) (by decide) ?_
    refine z_iret (E_X11_unpaid_0 8 rfl) trivial ?_
    exact ⟨(if_p (by omega) rfl).symm, (if_neg (by omega)).symm⟩

theorem c_X10_sale {a b so n : Int} (ha : rgi a) (hb : rgi b) (hso : rgi so) (hn : rgi n) (h1 : 0 ≤ σ 88 7 ∧ σ 88 7 ≤ 24) : CI l G M_X10_sale 2 [vr 0, vi a, vi b, vi so, vi n] σ (fun z τ => z = (if ¬ ((0 ≤ a ∧ a ≤ 7) ∧ 0 ≤ b ∧ b ≤ 7) then -1001 else if ¬ (a ≠ b ∧ (0 ≤ so ∧ so ≤ 3) ∧ 1 ≤ n ∧ n ≤ 99) then -1002 else if 24 ≤ σ 88 7 then -1004 else σ 88 7 + 1) ∧ τ = if ((0 ≤ a ∧ a ≤ 7) ∧ 0 ≤ b ∧ b ≤ 7) ∧ (a ≠ b ∧ (0 ≤ so ∧ so ≤ 3) ∧ 1 ≤ n ∧ n ≤ 99) ∧ σ 88 7 < 24 then upq (upq (upq (upq (upq σ 89 (σ 88 7) a) 90 (σ 88 7) b) 91 (σ 88 7) so) 92 (σ 88 7) n) 88 7 (σ 88 7 + 1) else σ) := by
  refine Ct.of rfl (Nat.le_of_ble_eq_true rfl) ?_
  refine x_iload_n (E_X10_sale_0 0 rfl) rfl ?_
  refine z_callSi (E_X10_sale_0 1 rfl) ml_X10_104 ms_X10_isHouse (c_X10_isHouse (by omega)) (by decide) rfl rfl (Nat.le_of_ble_eq_true rfl) (fun z9 τ9 h9 => ?_)
  obtain ⟨rfl, ⟨rfl, c1⟩ | ⟨rfl, c1⟩⟩ := h9
  · refine x_if_eq (E_X10_sale_0 2 rfl) (by decide) (fun c9 => absurd c9 (by decide)) (fun _ => ?_)
    refine x_iload_n (E_X10_sale_0 3 rfl) rfl ?_
    refine z_callSi (E_X10_sale_0 4 rfl) ml_X10_104 ms_X10_isHouse (c_X10_isHouse (by omega)) (by decide) rfl rfl (Nat.le_of_ble_eq_true rfl) (fun z9 τ9 h9 => ?_)
    obtain ⟨rfl, ⟨rfl, c2⟩ | ⟨rfl, c2⟩⟩ := h9
    · refine x_if_ne (E_X10_sale_0 5 rfl) (by decide) (fun _ => ?_) (fun c9 => absurd c9 (by decide))
      refine x_iload_n (E_X10_sale_0 8 rfl) rfl ?_
      refine x_iload_n (E_X10_sale_0 9 rfl) rfl ?_
      refine x_icmp_eq (E_X10_sale_0 10 rfl) (by omega) (by omega) (fun c3 => ?_) (fun c3 => ?_)
      · refine x_sipush (z := (-1002)) (E_X10_sale_0 19 rfl) (by decide) ?_
        refine z_iret (E_X10_sale_0 20 rfl) trivial ?_
        exact ⟨(if_n (by omega) (if_p (by omega) rfl)).symm, (if_neg (by omega)).symm⟩
      · refine x_iload_n (E_X10_sale_0 11 rfl) rfl ?_
        refine z_callSi (E_X10_sale_0 12 rfl) ml_X10_111 ms_X10_isSort (c_X10_isSort (by omega)) (by decide) rfl rfl (Nat.le_of_ble_eq_true rfl) (fun z9 τ9 h9 => ?_)
        obtain ⟨rfl, ⟨rfl, c4⟩ | ⟨rfl, c4⟩⟩ := h9
        · refine x_if_eq (E_X10_sale_0 13 rfl) (by decide) (fun c9 => absurd c9 (by decide)) (fun _ => ?_)
          refine x_iload (E_X10_sale_0 14 rfl) rfl ?_
          refine x_iconst (E_X10_sale_0 15 rfl) ?_
          refine x_bipush (z := 99) (E_X10_sale_0 16 rfl) (by decide) ?_
          refine z_callSi (E_X10_sale_0 17 rfl) ml_X10_100 ms_X10_within (c_X10_within (by omega) (by omega) (by omega)) (by decide) rfl rfl (Nat.le_of_ble_eq_true rfl) (fun z9 τ9 h9 => ?_)
          obtain ⟨rfl, ⟨rfl, c5⟩ | ⟨rfl, c5⟩⟩ := h9
          · refine x_if_ne (E_X10_sale_0 18 rfl) (by decide) (fun _ => ?_) (fun c9 => absurd c9 (by decide))
            refine x_aload_n (E_X10_sale_0 21 rfl) rfl ?_
            refine x_getR (E_X10_sale_0 22 rfl) fl_X10_75 rfl (by decide) rfl ?_
            refine x_getIe (v := σ 88 7) (E_X10_sale_0 23 rfl) fl_X10_199 rfl (by decide) rfl ?_
            refine x_bipush (z := 24) (E_X10_sale_0 24 rfl) (by decide) ?_
            refine x_icmp_lt (E_X10_sale_0 25 rfl) (by omega) (by decide) (fun c6 => ?_) (fun c6 => ?_)
            · refine x_aload_n (E_X10_sale_0 28 rfl) rfl ?_
              refine x_getR (E_X10_sale_0 29 rfl) fl_X10_75 rfl (by decide) rfl ?_
              refine x_iload_n (E_X10_sale_0 30 rfl) rfl ?_
              refine x_iload_n (E_X10_sale_0 31 rfl) rfl ?_
              refine x_iload_n (E_X10_sale_0 32 rfl) rfl ?_
              refine x_iload (E_X10_sale_0 33 rfl) rfl ?_
              refine z_callVi (E_X10_sale_0 34 rfl) ml_X10_327 mv_X6_add rfl (by decide) (by decide) (c_X6_add (by omega)) (by decide) rfl rfl (Nat.le_of_ble_eq_true rfl) (fun z9 τ9 h9 => ?_)
              obtain ⟨rfl, rfl⟩ := h9
              refine z_iret (E_X10_sale_0 35 rfl) trivial ?_
              exact ⟨(if_n (by omega) (if_n (by omega) (if_n (by omega) rfl))).symm, (if_pos (by omega)).symm⟩
            · refine x_sipush (z := (-1004)) (E_X10_sale_0 26 rfl) (by decide) ?_
              refine x_goto (E_X10_sale_0 27 rfl) ?_
              refine z_iret (E_X10_sale_0 35 rfl) trivial ?_
              exact ⟨(if_n (by omega) (if_n (by omega) (if_p (by omega) rfl))).symm, (if_neg (by omega)).symm⟩
          · refine x_if_ne (E_X10_sale_0 18 rfl) (by decide) (fun c9 => absurd c9 (by decide)) (fun _ => ?_)
            refine x_sipush (z := (-1002)) (E_X10_sale_0 19 rfl) (by decide) ?_
            refine z_iret (E_X10_sale_0 20 rfl) trivial ?_
            exact ⟨(if_n (by omega) (if_p (by omega) rfl)).symm, (if_neg (by omega)).symm⟩
        · refine x_if_eq (E_X10_sale_0 13 rfl) (by decide) (fun _ => ?_) (fun c9 => absurd (by decide) c9)
          refine x_sipush (z := (-1002)) (E_X10_sale_0 19 rfl) (by decide) ?_
          refine z_iret (E_X10_sale_0 20 rfl) trivial ?_
          exact ⟨(if_n (by omega) (if_p (by omega) rfl)).symm, (if_neg (by omega)).symm⟩
    · refine x_if_ne (E_X10_sale_0 5 rfl) (by decide) (fun c9 => absurd c9 (by decide)) (fun _ => ?_)
      refine x_sipush (z := (-1001)) (E_X10_sale_0 6 rfl) (by decide) ?_
      refine z_iret (E_X10_sale_0 7 rfl) trivial ?_
      exact ⟨(if_p (by omega) rfl).symm, (if_neg (by omega)).symm⟩
  · refine x_if_eq (E_X10_sale_0 2 rfl) (by decide) (fun _ => ?_) (fun c9 => absurd (by decide) c9)
    refine x_sipush (z := (-1001)) (E_X10_sale_0 6 rfl) (by decide) ?_
    refine z_iret (E_X10_sale_0 7 rfl) trivial ?_
    exact ⟨(if_p (by omega) rfl).symm, (if_neg (by omega)).symm⟩

theorem c_X11_sale {a b so n : Int} (ha : rgi a) (hb : rgi b) (hso : rgi so) (hn : rgi n) (h1 : 0 ≤ σ 114 60 ∧ σ 114 60 ≤ 24) : CI l G M_X11_sale 2 [vr 114, vi a, vi b, vi so, vi n] σ (fun z τ => z = (if ¬ ((0 ≤ a ∧ a ≤ 7) ∧ 0 ≤ b ∧ b ≤ 7) then -1001 else if ¬ (a ≠ b ∧ (0 ≤ so ∧ so ≤ 3) ∧ 1 ≤ n ∧ n ≤ 99) then -1002 else if 24 ≤ σ 114 60 then -1004 else σ 114 60 + 1) ∧ τ = if ((0 ≤ a ∧ a ≤ 7) ∧ 0 ≤ b ∧ b ≤ 7) ∧ (a ≠ b ∧ (0 ≤ so ∧ so ≤ 3) ∧ 1 ≤ n ∧ n ≤ 99) ∧ σ 114 60 < 24 then upq (upq (upq σ 160 (8 * so + a) (σ 160 (8 * so + a) - n)) 160 (8 * so + b) (upq σ 160 (8 * so + a) (σ 160 (8 * so + a) - n) 160 (8 * so + b) + n)) 114 60 (σ 114 60 + 1) else σ) := by
  refine Ct.of rfl (Nat.le_of_ble_eq_true rfl) ?_
  refine x_iload_n (E_X11_sale_0 0 rfl) rfl ?_
  refine z_callSi (E_X11_sale_0 1 rfl) ml_X11_213 ms_X11_isHouse (c_X11_isHouse (by omega)) (by decide) rfl rfl (Nat.le_of_ble_eq_true rfl) (fun z9 τ9 h9 => ?_)
  obtain ⟨rfl, ⟨rfl, c1⟩ | ⟨rfl, c1⟩⟩ := h9
  · refine x_if_eq (E_X11_sale_0 2 rfl) (by decide) (fun c9 => absurd c9 (by decide)) (fun _ => ?_)
    refine x_iload_n (E_X11_sale_0 3 rfl) rfl ?_
    refine z_callSi (E_X11_sale_0 4 rfl) ml_X11_213 ms_X11_isHouse (c_X11_isHouse (by omega)) (by decide) rfl rfl (Nat.le_of_ble_eq_true rfl) (fun z9 τ9 h9 => ?_)
    obtain ⟨rfl, ⟨rfl, c2⟩ | ⟨rfl, c2⟩⟩ := h9
    · refine x_if_ne (E_X11_sale_0 5 rfl) (by decide) (fun _ => ?_) (fun c9 => absurd c9 (by decide))
      refine x_iload_n (E_X11_sale_0 8 rfl) rfl ?_
      refine x_iload_n (E_X11_sale_0 9 rfl) rfl ?_
      refine x_icmp_eq (E_X11_sale_0 10 rfl) (by omega) (by omega) (fun c3 => ?_) (fun c3 => ?_)
      · refine x_sipush (z := (-1002)) (E_X11_sale_0 23 rfl) (by decide) ?_
        refine z_iret (E_X11_sale_0 24 rfl) trivial ?_
        exact ⟨(if_n (by omega) (if_p (by omega) rfl)).symm, (if_neg (by omega)).symm⟩
      · refine x_iload_n (E_X11_sale_0 11 rfl) rfl ?_
        refine x_i2l (E_X11_sale_0 12 rfl) (by omega) ?_
        refine x_lconst (z := 0) (E_X11_sale_0 13 rfl) rfl ?_
        refine x_ldc2 (z := 3) (E_X11_sale_0 14 rfl) kc_X11_220 (by decide) ?_
        refine z_callSi (E_X11_sale_0 15 rfl) ml_X11_197 ms_X11_in (c_X11_in (by omega) (by omega) (by omega)) (by decide) rfl rfl (Nat.le_of_ble_eq_true rfl) (fun z9 τ9 h9 => ?_)
        obtain ⟨rfl, ⟨rfl, c4⟩ | ⟨rfl, c4⟩⟩ := h9
        · refine x_if_eq (E_X11_sale_0 16 rfl) (by decide) (fun c9 => absurd c9 (by decide)) (fun _ => ?_)
          refine x_iload (E_X11_sale_0 17 rfl) rfl ?_
          refine x_i2l (E_X11_sale_0 18 rfl) (by omega) ?_
          refine x_lconst (z := 1) (E_X11_sale_0 19 rfl) rfl ?_
          refine x_ldc2 (z := 99) (E_X11_sale_0 20 rfl) kc_X11_436 (by decide) ?_
          refine z_callSi (E_X11_sale_0 21 rfl) ml_X11_197 ms_X11_in (c_X11_in (by omega) (by omega) (by omega)) (by decide) rfl rfl (Nat.le_of_ble_eq_true rfl) (fun z9 τ9 h9 => ?_)
          obtain ⟨rfl, ⟨rfl, c5⟩ | ⟨rfl, c5⟩⟩ := h9
          · refine x_if_ne (E_X11_sale_0 22 rfl) (by decide) (fun _ => ?_) (fun c9 => absurd c9 (by decide))
            refine x_aload_n (E_X11_sale_0 25 rfl) rfl ?_
            refine x_getIe (v := σ 114 60) (E_X11_sale_0 26 rfl) fl_X11_387 rfl (by decide) rfl ?_
            refine x_bipush (z := 24) (E_X11_sale_0 27 rfl) (by decide) ?_
            refine x_icmp_ne (E_X11_sale_0 28 rfl) (by omega) (by decide) (fun c6 => ?_) (fun c6 => ?_)
            · refine x_aload_n (E_X11_sale_0 31 rfl) rfl ?_
              refine x_getR (E_X11_sale_0 32 rfl) fl_X11_150 rfl (by decide) rfl ?_
              refine x_bipush (z := 8) (E_X11_sale_0 33 rfl) (by decide) ?_
              refine x_iload_n (E_X11_sale_0 34 rfl) rfl ?_
              refine x_imul (E_X11_sale_0 35 rfl) ?_
              refine x_iload_n (E_X11_sale_0 36 rfl) rfl ?_
              refine x_iadd (E_X11_sale_0 37 rfl) ?_
              refine x_dup2 (E_X11_sale_0 38 rfl) ?_
              refine x_ialde (f := σ 160) (E_X11_sale_0 39 rfl) rfl (by decide) (by omega) rfl ?_
              refine x_iload (E_X11_sale_0 40 rfl) rfl ?_
              refine x_isub (E_X11_sale_0 41 rfl) ?_
              refine x_iast (E_X11_sale_0 42 rfl) rfl (by decide) (by omega) ?_
              refine x_aload_n (E_X11_sale_0 43 rfl) rfl ?_
              refine x_getR (E_X11_sale_0 44 rfl) fl_X11_150 rfl (by decide) rfl ?_
              refine x_bipush (z := 8) (E_X11_sale_0 45 rfl) (by decide) ?_
              refine x_iload_n (E_X11_sale_0 46 rfl) rfl ?_
              refine x_imul (E_X11_sale_0 47 rfl) ?_
              refine x_iload_n (E_X11_sale_0 48 rfl) rfl ?_
              refine x_iadd (E_X11_sale_0 49 rfl) ?_
              refine x_dup2 (E_X11_sale_0 50 rfl) ?_
              refine x_iald (E_X11_sale_0 51 rfl) rfl (by decide) (by omega) ?_
              refine x_iload (E_X11_sale_0 52 rfl) rfl ?_
              refine x_iadd (E_X11_sale_0 53 rfl) ?_
              refine x_iast (E_X11_sale_0 54 rfl) rfl (by decide) (by omega) ?_
              refine x_aload_n (E_X11_sale_0 55 rfl) rfl ?_
              refine x_dupr (E_X11_sale_0 56 rfl) ?_
              refine x_getIe (v := σ 114 60) (E_X11_sale_0 57 rfl) fl_X11_387 rfl (by decide) rfl ?_
              refine x_iconst (E_X11_sale_0 58 rfl) ?_
              refine x_iadd (E_X11_sale_0 59 rfl) ?_
              refine x_putI (E_X11_sale_1 0 rfl) fl_X11_387 rfl (by decide) ?_
              refine x_aload_n (E_X11_sale_1 1 rfl) rfl ?_
              refine x_getI (E_X11_sale_1 2 rfl) fl_X11_387 rfl (by decide) ?_
              refine z_iret (E_X11_sale_1 3 rfl) trivial ?_
              refine ⟨?_, (if_pos (by omega)).symm⟩
              show σ 114 60 + 1 = _
              exact (if_n (by omega) (if_n (by omega) (if_n (by omega) rfl))).symm
            · refine x_sipush (z := (-1004)) (E_X11_sale_0 29 rfl) (by decide) ?_
              refine z_iret (E_X11_sale_0 30 rfl) trivial ?_
              exact ⟨(if_n (by omega) (if_n (by omega) (if_p (by omega) rfl))).symm, (if_neg (by omega)).symm⟩
          · refine x_if_ne (E_X11_sale_0 22 rfl) (by decide) (fun c9 => absurd c9 (by decide)) (fun _ => ?_)
            refine x_sipush (z := (-1002)) (E_X11_sale_0 23 rfl) (by decide) ?_
            refine z_iret (E_X11_sale_0 24 rfl) trivial ?_
            exact ⟨(if_n (by omega) (if_p (by omega) rfl)).symm, (if_neg (by omega)).symm⟩
        · refine x_if_eq (E_X11_sale_0 16 rfl) (by decide) (fun _ => ?_) (fun c9 => absurd (by decide) c9)
          refine x_sipush (z := (-1002)) (E_X11_sale_0 23 rfl) (by decide) ?_
          refine z_iret (E_X11_sale_0 24 rfl) trivial ?_
          exact ⟨(if_n (by omega) (if_p (by omega) rfl)).symm, (if_neg (by omega)).symm⟩
    · refine x_if_ne (E_X11_sale_0 5 rfl) (by decide) (fun c9 => absurd c9 (by decide)) (fun _ => ?_)
      refine x_sipush (z := (-1001)) (E_X11_sale_0 6 rfl) (by decide) ?_
      refine z_iret (E_X11_sale_0 7 rfl) trivial ?_
      exact ⟨(if_p (by omega) rfl).symm, (if_neg (by omega)).symm⟩
  · refine x_if_eq (E_X11_sale_0 2 rfl) (by decide) (fun _ => ?_) (fun c9 => absurd (by decide) c9)
    refine x_sipush (z := (-1001)) (E_X11_sale_0 6 rfl) (by decide) ?_
    refine z_iret (E_X11_sale_0 7 rfl) trivial ?_
    exact ⟨(if_p (by omega) rfl).symm, (if_neg (by omega)).symm⟩

theorem c_X10_due {a b v : Int} (ha : rgi a) (hb : rgi b) (hv : rgi v) (h1 : 0 ≤ σ 96 4 ∧ σ 96 4 ≤ 24) : CI l G M_X10_due 2 [vr 0, vi a, vi b, vi v] σ (fun z τ => z = (if ¬ ((0 ≤ a ∧ a ≤ 7) ∧ 0 ≤ b ∧ b ≤ 7) then -1001 else if ¬ (a ≠ b ∧ 1 ≤ v ∧ v ≤ 9999) then -1002 else if 24 ≤ σ 96 4 then -1004 else σ 96 4 + 1) ∧ τ = if ((0 ≤ a ∧ a ≤ 7) ∧ 0 ≤ b ∧ b ≤ 7) ∧ (a ≠ b ∧ 1 ≤ v ∧ v ≤ 9999) ∧ σ 96 4 < 24 then upq (upq (upq (upq σ 97 (σ 96 4) a) 98 (σ 96 4) b) 99 (σ 96 4) v) 96 4 (σ 96 4 + 1) else σ) := by
  refine Ct.of rfl (Nat.le_of_ble_eq_true rfl) ?_
  refine x_iload_n (E_X10_due_0 0 rfl) rfl ?_
  refine z_callSi (E_X10_due_0 1 rfl) ml_X10_104 ms_X10_isHouse (c_X10_isHouse (by omega)) (by decide) rfl rfl (Nat.le_of_ble_eq_true rfl) (fun z9 τ9 h9 => ?_)
  obtain ⟨rfl, ⟨rfl, c1⟩ | ⟨rfl, c1⟩⟩ := h9
  · refine x_if_eq (E_X10_due_0 2 rfl) (by decide) (fun c9 => absurd c9 (by decide)) (fun _ => ?_)
    refine x_iload_n (E_X10_due_0 3 rfl) rfl ?_
    refine z_callSi (E_X10_due_0 4 rfl) ml_X10_104 ms_X10_isHouse (c_X10_isHouse (by omega)) (by decide) rfl rfl (Nat.le_of_ble_eq_true rfl) (fun z9 τ9 h9 => ?_)
    obtain ⟨rfl, ⟨rfl, c2⟩ | ⟨rfl, c2⟩⟩ := h9
    · refine x_if_ne (E_X10_due_0 5 rfl) (by decide) (fun _ => ?_) (fun c9 => absurd c9 (by decide))
      refine x_iload_n (E_X10_due_0 8 rfl) rfl ?_
      refine x_iload_n (E_X10_due_0 9 rfl) rfl ?_
      refine x_icmp_eq (E_X10_due_0 10 rfl) (by omega) (by omega) (fun c3 => ?_) (fun c3 => ?_)
      · refine x_sipush (z := (-1002)) (E_X10_due_0 16 rfl) (by decide) ?_
        refine z_iret (E_X10_due_0 17 rfl) trivial ?_
        exact ⟨(if_n (by omega) (if_p (by omega) rfl)).symm, (if_neg (by omega)).symm⟩
      · refine x_iload_n (E_X10_due_0 11 rfl) rfl ?_
        refine x_iconst (E_X10_due_0 12 rfl) ?_
        refine x_sipush (z := 9999) (E_X10_due_0 13 rfl) (by decide) ?_
        refine z_callSi (E_X10_due_0 14 rfl) ml_X10_100 ms_X10_within (c_X10_within (by omega) (by omega) (by omega)) (by decide) rfl rfl (Nat.le_of_ble_eq_true rfl) (fun z9 τ9 h9 => ?_)
        obtain ⟨rfl, ⟨rfl, c4⟩ | ⟨rfl, c4⟩⟩ := h9
        · refine x_if_ne (E_X10_due_0 15 rfl) (by decide) (fun _ => ?_) (fun c9 => absurd c9 (by decide))
          refine x_aload_n (E_X10_due_0 18 rfl) rfl ?_
          refine x_getR (E_X10_due_0 19 rfl) fl_X10_82 rfl (by decide) rfl ?_
          refine x_getIe (v := σ 96 4) (E_X10_due_0 20 rfl) fl_X10_200 rfl (by decide) rfl ?_
          refine x_bipush (z := 24) (E_X10_due_0 21 rfl) (by decide) ?_
          refine x_icmp_lt (E_X10_due_0 22 rfl) (by omega) (by decide) (fun c5 => ?_) (fun c5 => ?_)
          · refine x_aload_n (E_X10_due_0 25 rfl) rfl ?_
            refine x_getR (E_X10_due_0 26 rfl) fl_X10_82 rfl (by decide) rfl ?_
            refine x_iload_n (E_X10_due_0 27 rfl) rfl ?_
            refine x_iload_n (E_X10_due_0 28 rfl) rfl ?_
            refine x_iload_n (E_X10_due_0 29 rfl) rfl ?_
            refine z_callVi (E_X10_due_0 30 rfl) ml_X10_334 mv_X1_add rfl (by decide) (by decide) (c_X1_add (by omega)) (by decide) rfl rfl (Nat.le_of_ble_eq_true rfl) (fun z9 τ9 h9 => ?_)
            obtain ⟨rfl, rfl⟩ := h9
            refine z_iret (E_X10_due_0 31 rfl) trivial ?_
            exact ⟨(if_n (by omega) (if_n (by omega) (if_n (by omega) rfl))).symm, (if_pos (by omega)).symm⟩
          · refine x_sipush (z := (-1004)) (E_X10_due_0 23 rfl) (by decide) ?_
            refine x_goto (E_X10_due_0 24 rfl) ?_
            refine z_iret (E_X10_due_0 31 rfl) trivial ?_
            exact ⟨(if_n (by omega) (if_n (by omega) (if_p (by omega) rfl))).symm, (if_neg (by omega)).symm⟩
        · refine x_if_ne (E_X10_due_0 15 rfl) (by decide) (fun c9 => absurd c9 (by decide)) (fun _ => ?_)
          refine x_sipush (z := (-1002)) (E_X10_due_0 16 rfl) (by decide) ?_
          refine z_iret (E_X10_due_0 17 rfl) trivial ?_
          exact ⟨(if_n (by omega) (if_p (by omega) rfl)).symm, (if_neg (by omega)).symm⟩
    · refine x_if_ne (E_X10_due_0 5 rfl) (by decide) (fun c9 => absurd c9 (by decide)) (fun _ => ?_)
      refine x_sipush (z := (-1001)) (E_X10_due_0 6 rfl) (by decide) ?_
      refine z_iret (E_X10_due_0 7 rfl) trivial ?_
      exact ⟨(if_p (by omega) rfl).symm, (if_neg (by omega)).symm⟩
  · refine x_if_eq (E_X10_due_0 2 rfl) (by decide) (fun _ => ?_) (fun c9 => absurd (by decide) c9)
    refine x_sipush (z := (-1001)) (E_X10_due_0 6 rfl) (by decide) ?_
    refine z_iret (E_X10_due_0 7 rfl) trivial ?_
    exact ⟨(if_p (by omega) rfl).symm, (if_neg (by omega)).symm⟩

theorem c_X11_due {a b v : Int} (ha : rgi a) (hb : rgi b) (hv : rgi v) (h1 : 0 ≤ σ 114 63 ∧ σ 114 63 ≤ 24) : CI l G M_X11_due 2 [vr 114, vi a, vi b, vi v] σ (fun z τ => z = (if ¬ ((0 ≤ a ∧ a ≤ 7) ∧ 0 ≤ b ∧ b ≤ 7) then -1001 else if ¬ (a ≠ b ∧ 1 ≤ v ∧ v ≤ 9999) then -1002 else if 24 ≤ σ 114 63 then -1004 else σ 114 63 + 1) ∧ τ = if ((0 ≤ a ∧ a ≤ 7) ∧ 0 ≤ b ∧ b ≤ 7) ∧ (a ≠ b ∧ 1 ≤ v ∧ v ≤ 9999) ∧ σ 114 63 < 24 then upq (upq (upq (upq σ 162 (σ 114 63) a) 163 (σ 114 63) b) 164 (σ 114 63) v) 114 63 (σ 114 63 + 1) else σ) := by
  refine Ct.of rfl (Nat.le_of_ble_eq_true rfl) ?_
  refine x_iload_n (E_X11_due_0 0 rfl) rfl ?_
  refine z_callSi (E_X11_due_0 1 rfl) ml_X11_213 ms_X11_isHouse (c_X11_isHouse (by omega)) (by decide) rfl rfl (Nat.le_of_ble_eq_true rfl) (fun z9 τ9 h9 => ?_)
  obtain ⟨rfl, ⟨rfl, c1⟩ | ⟨rfl, c1⟩⟩ := h9
  · refine x_if_eq (E_X11_due_0 2 rfl) (by decide) (fun c9 => absurd c9 (by decide)) (fun _ => ?_)
    refine x_iload_n (E_X11_due_0 3 rfl) rfl ?_
    refine z_callSi (E_X11_due_0 4 rfl) ml_X11_213 ms_X11_isHouse (c_X11_isHouse (by omega)) (by decide) rfl rfl (Nat.le_of_ble_eq_true rfl) (fun z9 τ9 h9 => ?_)
    obtain ⟨rfl, ⟨rfl, c2⟩ | ⟨rfl, c2⟩⟩ := h9
    · refine x_if_ne (E_X11_due_0 5 rfl) (by decide) (fun _ => ?_) (fun c9 => absurd c9 (by decide))
      refine x_iload_n (E_X11_due_0 8 rfl) rfl ?_
      refine x_iload_n (E_X11_due_0 9 rfl) rfl ?_
      refine x_icmp_eq (E_X11_due_0 10 rfl) (by omega) (by omega) (fun c3 => ?_) (fun c3 => ?_)
      · refine x_sipush (z := (-1002)) (E_X11_due_0 17 rfl) (by decide) ?_
        refine z_iret (E_X11_due_0 18 rfl) trivial ?_
        exact ⟨(if_n (by omega) (if_p (by omega) rfl)).symm, (if_neg (by omega)).symm⟩
      · refine x_iload_n (E_X11_due_0 11 rfl) rfl ?_
        refine x_i2l (E_X11_due_0 12 rfl) (by omega) ?_
        refine x_lconst (z := 1) (E_X11_due_0 13 rfl) rfl ?_
        refine x_ldc2 (z := 9999) (E_X11_due_0 14 rfl) kc_X11_425 (by decide) ?_
        refine z_callSi (E_X11_due_0 15 rfl) ml_X11_197 ms_X11_in (c_X11_in (by omega) (by omega) (by omega)) (by decide) rfl rfl (Nat.le_of_ble_eq_true rfl) (fun z9 τ9 h9 => ?_)
        obtain ⟨rfl, ⟨rfl, c4⟩ | ⟨rfl, c4⟩⟩ := h9
        · refine x_if_ne (E_X11_due_0 16 rfl) (by decide) (fun _ => ?_) (fun c9 => absurd c9 (by decide))
          refine x_aload_n (E_X11_due_0 19 rfl) rfl ?_
          refine x_getIe (v := σ 114 63) (E_X11_due_0 20 rfl) fl_X11_390 rfl (by decide) rfl ?_
          refine x_bipush (z := 24) (E_X11_due_0 21 rfl) (by decide) ?_
          refine x_icmp_ne (E_X11_due_0 22 rfl) (by omega) (by decide) (fun c5 => ?_) (fun c5 => ?_)
          · refine x_aload_n (E_X11_due_0 25 rfl) rfl ?_
            refine x_getR (E_X11_due_0 26 rfl) fl_X11_156 rfl (by decide) rfl ?_
            refine x_aload_n (E_X11_due_0 27 rfl) rfl ?_
            refine x_getIe (v := σ 114 63) (E_X11_due_0 28 rfl) fl_X11_390 rfl (by decide) rfl ?_
            refine x_iload_n (E_X11_due_0 29 rfl) rfl ?_
            refine x_iast (E_X11_due_0 30 rfl) rfl (by decide) (by omega) ?_
            refine x_aload_n (E_X11_due_0 31 rfl) rfl ?_
            refine x_getR (E_X11_due_0 32 rfl) fl_X11_159 rfl (by decide) rfl ?_
            refine x_aload_n (E_X11_due_0 33 rfl) rfl ?_
            refine x_getIe (v := σ 114 63) (E_X11_due_0 34 rfl) fl_X11_390 rfl (by decide) rfl ?_
            refine x_iload_n (E_X11_due_0 35 rfl) rfl ?_
            refine x_iast (E_X11_due_0 36 rfl) rfl (by decide) (by omega) ?_
            refine x_aload_n (E_X11_due_0 37 rfl) rfl ?_
            refine x_getR (E_X11_due_0 38 rfl) fl_X11_162 rfl (by decide) rfl ?_
            refine x_aload_n (E_X11_due_0 39 rfl) rfl ?_
            refine x_getIe (v := σ 114 63) (E_X11_due_0 40 rfl) fl_X11_390 rfl (by decide) rfl ?_
            refine x_iload_n (E_X11_due_0 41 rfl) rfl ?_
            refine x_iast (E_X11_due_0 42 rfl) rfl (by decide) (by omega) ?_
            refine x_aload_n (E_X11_due_0 43 rfl) rfl ?_
            refine x_dupr (E_X11_due_0 44 rfl) ?_
            refine x_getIe (v := σ 114 63) (E_X11_due_0 45 rfl) fl_X11_390 rfl (by decide) rfl ?_
            refine x_iconst (E_X11_due_0 46 rfl) ?_
            refine x_iadd (E_X11_due_0 47 rfl) ?_
            refine x_putI (E_X11_due_0 48 rfl) fl_X11_390 rfl (by decide) ?_
            refine x_aload_n (E_X11_due_0 49 rfl) rfl ?_
            refine x_getI (E_X11_due_0 50 rfl) fl_X11_390 rfl (by decide) ?_
            refine z_iret (E_X11_due_0 51 rfl) trivial ?_
            refine ⟨?_, (if_pos (by omega)).symm⟩
            show σ 114 63 + 1 = _
            exact (if_n (by omega) (if_n (by omega) (if_n (by omega) rfl))).symm
          · refine x_sipush (z := (-1004)) (E_X11_due_0 23 rfl) (by decide) ?_
            refine z_iret (E_X11_due_0 24 rfl) trivial ?_
            exact ⟨(if_n (by omega) (if_n (by omega) (if_p (by omega) rfl))).symm, (if_neg (by omega)).symm⟩
        · refine x_if_ne (E_X11_due_0 16 rfl) (by decide) (fun c9 => absurd c9 (by decide)) (fun _ => ?_)
          refine x_sipush (z := (-1002)) (E_X11_due_0 17 rfl) (by decide) ?_
          refine z_iret (E_X11_due_0 18 rfl) trivial ?_
          exact ⟨(if_n (by omega) (if_p (by omega) rfl)).symm, (if_neg (by omega)).symm⟩
    · refine x_if_ne (E_X11_due_0 5 rfl) (by decide) (fun c9 => absurd c9 (by decide)) (fun _ => ?_)
      refine x_sipush (z := (-1001)) (E_X11_due_0 6 rfl) (by decide) ?_
      refine z_iret (E_X11_due_0 7 rfl) trivial ?_
      exact ⟨(if_p (by omega) rfl).symm, (if_neg (by omega)).symm⟩
  · refine x_if_eq (E_X11_due_0 2 rfl) (by decide) (fun _ => ?_) (fun c9 => absurd (by decide) c9)
    refine x_sipush (z := (-1001)) (E_X11_due_0 6 rfl) (by decide) ?_
    refine z_iret (E_X11_due_0 7 rfl) trivial ?_
    exact ⟨(if_p (by omega) rfl).symm, (if_neg (by omega)).symm⟩

theorem c_X10_coin {h v : Int} (hh : rgi h) (hv : rgi v)  : CI l G M_X10_coin 2 [vr 0, vi h, vi v] σ (fun z τ => z = (if ¬ (0 ≤ h ∧ h ≤ 7) then -1001 else if ¬ (0 ≤ v ∧ v ≤ 9999) then -1002 else σ 101 h) ∧ τ = if (0 ≤ h ∧ h ≤ 7) ∧ 0 ≤ v ∧ v ≤ 9999 then upq σ 101 h v else σ) := by
  refine Ct.of rfl (Nat.le_of_ble_eq_true rfl) ?_
  refine x_iload_n (E_X10_coin_0 0 rfl) rfl ?_
  refine z_callSi (E_X10_coin_0 1 rfl) ml_X10_104 ms_X10_isHouse (c_X10_isHouse (by omega)) (by decide) rfl rfl (Nat.le_of_ble_eq_true rfl) (fun z9 τ9 h9 => ?_)
  obtain ⟨rfl, ⟨rfl, c1⟩ | ⟨rfl, c1⟩⟩ := h9
  · refine x_if_ne (E_X10_coin_0 2 rfl) (by decide) (fun _ => ?_) (fun c9 => absurd c9 (by decide))
    refine x_iload_n (E_X10_coin_0 5 rfl) rfl ?_
    refine x_iconst (E_X10_coin_0 6 rfl) ?_
    refine x_sipush (z := 9999) (E_X10_coin_0 7 rfl) (by decide) ?_
    refine z_callSi (E_X10_coin_0 8 rfl) ml_X10_100 ms_X10_within (c_X10_within (by omega) (by omega) (by omega)) (by decide) rfl rfl (Nat.le_of_ble_eq_true rfl) (fun z9 τ9 h9 => ?_)
    obtain ⟨rfl, ⟨rfl, c2⟩ | ⟨rfl, c2⟩⟩ := h9
    · refine x_if_ne (E_X10_coin_0 9 rfl) (by decide) (fun _ => ?_) (fun c9 => absurd c9 (by decide))
      refine x_aload_n (E_X10_coin_0 12 rfl) rfl ?_
      refine x_getR (E_X10_coin_0 13 rfl) fl_X10_82 rfl (by decide) rfl ?_
      refine x_getR (E_X10_coin_0 14 rfl) fl_X10_337 rfl (by decide) rfl ?_
      refine x_iload_n (E_X10_coin_0 15 rfl) rfl ?_
      refine x_ialde (f := σ 101) (E_X10_coin_0 16 rfl) rfl (by decide) (by omega) rfl ?_
      refine x_istore_n (E_X10_coin_0 17 rfl) rfl ?_
      refine x_aload_n (E_X10_coin_0 18 rfl) rfl ?_
      refine x_getR (E_X10_coin_0 19 rfl) fl_X10_82 rfl (by decide) rfl ?_
      refine x_getR (E_X10_coin_0 20 rfl) fl_X10_337 rfl (by decide) rfl ?_
      refine x_iload_n (E_X10_coin_0 21 rfl) rfl ?_
      refine x_iload_n (E_X10_coin_0 22 rfl) rfl ?_
      refine x_iast (E_X10_coin_0 23 rfl) rfl (by decide) (by omega) ?_
      refine x_iload_n (E_X10_coin_0 24 rfl) rfl ?_
      refine z_iret (E_X10_coin_0 25 rfl) trivial ?_
      exact ⟨(if_n (by omega) (if_n (by omega) rfl)).symm, (if_pos (by omega)).symm⟩
    · refine x_if_ne (E_X10_coin_0 9 rfl) (by decide) (fun c9 => absurd c9 (by decide)) (fun _ => ?_)
      refine x_sipush (z := (-1002)) (E_X10_coin_0 10 rfl) (by decide) ?_
      refine z_iret (E_X10_coin_0 11 rfl) trivial ?_
      exact ⟨(if_n (by omega) (if_p (by omega) rfl)).symm, (if_neg (by omega)).symm⟩
  · refine x_if_ne (E_X10_coin_0 2 rfl) (by decide) (fun c9 => absurd c9 (by decide)) (fun _ => ?_)
    refine x_sipush (z := (-1001)) (E_X10_coin_0 3 rfl) (by decide) ?_
    refine z_iret (E_X10_coin_0 4 rfl) trivial ?_
    exact ⟨(if_p (by omega) rfl).symm, (if_neg (by omega)).symm⟩

theorem c_X11_coin {h v : Int} (hh : rgi h) (hv : rgi v)  : CI l G M_X11_coin 2 [vr 114, vi h, vi v] σ (fun z τ => z = (if ¬ (0 ≤ h ∧ h ≤ 7) then -1001 else if ¬ (0 ≤ v ∧ v ≤ 9999) then -1002 else σ 167 h) ∧ τ = if (0 ≤ h ∧ h ≤ 7) ∧ 0 ≤ v ∧ v ≤ 9999 then upq σ 167 h v else σ) := by
  refine Ct.of rfl (Nat.le_of_ble_eq_true rfl) ?_
  refine x_iload_n (E_X11_coin_0 0 rfl) rfl ?_
  refine z_callSi (E_X11_coin_0 1 rfl) ml_X11_213 ms_X11_isHouse (c_X11_isHouse (by omega)) (by decide) rfl rfl (Nat.le_of_ble_eq_true rfl) (fun z9 τ9 h9 => ?_)
  obtain ⟨rfl, ⟨rfl, c1⟩ | ⟨rfl, c1⟩⟩ := h9
  · refine x_if_ne (E_X11_coin_0 2 rfl) (by decide) (fun _ => ?_) (fun c9 => absurd c9 (by decide))
    refine x_iload_n (E_X11_coin_0 5 rfl) rfl ?_
    refine x_i2l (E_X11_coin_0 6 rfl) (by omega) ?_
    refine x_lconst (z := 0) (E_X11_coin_0 7 rfl) rfl ?_
    refine x_ldc2 (z := 9999) (E_X11_coin_0 8 rfl) kc_X11_425 (by decide) ?_
    refine z_callSi (E_X11_coin_0 9 rfl) ml_X11_197 ms_X11_in (c_X11_in (by omega) (by omega) (by omega)) (by decide) rfl rfl (Nat.le_of_ble_eq_true rfl) (fun z9 τ9 h9 => ?_)
    obtain ⟨rfl, ⟨rfl, c2⟩ | ⟨rfl, c2⟩⟩ := h9
    · refine x_if_ne (E_X11_coin_0 10 rfl) (by decide) (fun _ => ?_) (fun c9 => absurd c9 (by decide))
      refine x_aload_n (E_X11_coin_0 13 rfl) rfl ?_
      refine x_getR (E_X11_coin_0 14 rfl) fl_X11_171 rfl (by decide) rfl ?_
      refine x_iload_n (E_X11_coin_0 15 rfl) rfl ?_
      refine x_ialde (f := σ 167) (E_X11_coin_0 16 rfl) rfl (by decide) (by omega) rfl ?_
      refine x_istore_n (E_X11_coin_0 17 rfl) rfl ?_
      refine x_aload_n (E_X11_coin_0 18 rfl) rfl ?_
      refine x_getR (E_X11_coin_0 19 rfl) fl_X11_171 rfl (by decide) rfl ?_
      refine x_iload_n (E_X11_coin_0 20 rfl) rfl ?_
      refine x_iload_n (E_X11_coin_0 21 rfl) rfl ?_
      refine x_iast (E_X11_coin_0 22 rfl) rfl (by decide) (by omega) ?_
      refine x_iload_n (E_X11_coin_0 23 rfl) rfl ?_
      refine z_iret (E_X11_coin_0 24 rfl) trivial ?_
      exact ⟨(if_n (by omega) (if_n (by omega) rfl)).symm, (if_pos (by omega)).symm⟩
    · refine x_if_ne (E_X11_coin_0 10 rfl) (by decide) (fun c9 => absurd c9 (by decide)) (fun _ => ?_)
      refine x_sipush (z := (-1002)) (E_X11_coin_0 11 rfl) (by decide) ?_
      refine z_iret (E_X11_coin_0 12 rfl) trivial ?_
      exact ⟨(if_n (by omega) (if_p (by omega) rfl)).symm, (if_neg (by omega)).symm⟩
  · refine x_if_ne (E_X11_coin_0 2 rfl) (by decide) (fun c9 => absurd c9 (by decide)) (fun _ => ?_)
    refine x_sipush (z := (-1001)) (E_X11_coin_0 3 rfl) (by decide) ?_
    refine z_iret (E_X11_coin_0 4 rfl) trivial ?_
    exact ⟨(if_p (by omega) rfl).symm, (if_neg (by omega)).symm⟩

theorem c_X11_net {h so : Int} (hh : rgi h) (hso : rgi so) : CI l G M_X11_net 2 [vr 114, vi h, vi so] σ (fun z τ => z = (if ¬ (0 ≤ h ∧ h ≤ 7) then -1001 else if ¬ (0 ≤ so ∧ so ≤ 3) then -1002 else σ 160 (8 * so + h)) ∧ σ = τ) := by
  refine Ct.of rfl (Nat.le_of_ble_eq_true rfl) ?_
  refine x_iload_n (E_X11_net_0 0 rfl) rfl ?_
  refine z_callSi (E_X11_net_0 1 rfl) ml_X11_213 ms_X11_isHouse (c_X11_isHouse (by omega)) (by decide) rfl rfl (Nat.le_of_ble_eq_true rfl) (fun z9 τ9 h9 => ?_)
  obtain ⟨rfl, ⟨rfl, c1⟩ | ⟨rfl, c1⟩⟩ := h9
  · refine x_if_ne (E_X11_net_0 2 rfl) (by decide) (fun _ => ?_) (fun c9 => absurd c9 (by decide))
    refine x_iload_n (E_X11_net_0 5 rfl) rfl ?_
    refine x_i2l (E_X11_net_0 6 rfl) (by omega) ?_
    refine x_lconst (z := 0) (E_X11_net_0 7 rfl) rfl ?_
    refine x_ldc2 (z := 3) (E_X11_net_0 8 rfl) kc_X11_220 (by decide) ?_
    refine z_callSi (E_X11_net_0 9 rfl) ml_X11_197 ms_X11_in (c_X11_in (by omega) (by omega) (by omega)) (by decide) rfl rfl (Nat.le_of_ble_eq_true rfl) (fun z9 τ9 h9 => ?_)
    obtain ⟨rfl, ⟨rfl, c2⟩ | ⟨rfl, c2⟩⟩ := h9
    · refine x_if_eq (E_X11_net_0 10 rfl) (by decide) (fun c9 => absurd c9 (by decide)) (fun _ => ?_)
      refine x_aload_n (E_X11_net_0 11 rfl) rfl ?_
      refine x_getR (E_X11_net_0 12 rfl) fl_X11_150 rfl (by decide) rfl ?_
      refine x_bipush (z := 8) (E_X11_net_0 13 rfl) (by decide) ?_
      refine x_iload_n (E_X11_net_0 14 rfl) rfl ?_
      refine x_imul (E_X11_net_0 15 rfl) ?_
      refine x_iload_n (E_X11_net_0 16 rfl) rfl ?_
      refine x_iadd (E_X11_net_0 17 rfl) ?_
      refine x_ialde (f := σ 160) (E_X11_net_0 18 rfl) rfl (by decide) (by omega) rfl ?_
      refine x_goto (E_X11_net_0 19 rfl) ?_
      refine z_iret (E_X11_net_0 21 rfl) trivial ?_
      exact ⟨(if_n (by omega) (if_n (by omega) rfl)).symm, rfl⟩
    · refine x_if_eq (E_X11_net_0 10 rfl) (by decide) (fun _ => ?_) (fun c9 => absurd (by decide) c9)
      refine x_sipush (z := (-1002)) (E_X11_net_0 20 rfl) (by decide) ?_
      refine z_iret (E_X11_net_0 21 rfl) trivial ?_
      exact ⟨(if_n (by omega) (if_p (by omega) rfl)).symm, rfl⟩
  · refine x_if_ne (E_X11_net_0 2 rfl) (by decide) (fun c9 => absurd c9 (by decide)) (fun _ => ?_)
    refine x_sipush (z := (-1001)) (E_X11_net_0 3 rfl) (by decide) ?_
    refine z_iret (E_X11_net_0 4 rfl) trivial ?_
    exact ⟨(if_p (by omega) rfl).symm, rfl⟩

