/-! the class reads a clause, and a text -/
variable {l : Launch} {G : GC} {σ : Nat → Int → Int}

/-- a clause, head and all -/
def clsR (tx : Int → Int) (len nt cnt p : Int) : CR := if wkS tx len 9 4 p = -1 then erR 1 (blS tx len p) else if 10 ≤ cnt then erR 5 (blS tx len p) else clR tx len nt (wkS tx len 9 4 p - 9) (weS tx len p)
set_option maxHeartbeats 2000000 in
theorem c_X5_readClause {nt : Int} (hn : 0 ≤ nt ∧ nt ≤ 8) (hf : σ 41 5 = 0) (h4 : 0 ≤ σ 41 4 ∧ σ 41 4 ≤ 10) (ht : TxOk (σ 41 1) (σ 42)) (h0 : 0 ≤ σ 41 7 ∧ σ 41 7 ≤ σ 41 1) : CV l G M_X5_readClause 8 [vr 41, vi nt] σ (RdP (clsR (σ 42) (σ 41 1) nt (σ 41 4) (σ 41 7)) σ) := by
  have br := bl_rg (tx := σ 42) h0.2
  have wr := we_rg (tx := σ 42) h0.2
  have kr : (wkS (σ 42) (σ 41 1) 9 4 (σ 41 7)) = -1 ∨ (9 ≤ (wkS (σ 42) (σ 41 1) 9 4 (σ 41 7)) ∧ (wkS (σ 42) (σ 41 1) 9 4 (σ 41 7)) < 9 + ((4 : Nat) : Int)) := lkF_rg
  refine Ct.of rfl (Nat.le_of_ble_eq_true rfl) ?_
  refine x_aload_n (E_X5_readClause_0 0 rfl) rfl ?_
  refine x_bipush (z := 9) (E_X5_readClause_0 1 rfl) (by decide) ?_
  refine x_bipush (z := 12) (E_X5_readClause_0 2 rfl) (by decide) ?_
  refine z_callVi (E_X5_readClause_0 3 rfl) ml_X5_44 mv_X5_takeWord rfl (by decide) (by decide) (c_X5_takeWord (a := 9) (b := 12) (n := 4) (by omega) ht h0) (by decide) rfl rfl (Nat.le_of_ble_eq_true rfl) (fun v9 τ9 h9 => ?_)
  unfold TwP at h9
  obtain ⟨z9, s9, a9, f9, w9, F9, O9⟩ := h9
  have l9 := O9 1 (by decide)
  have k9 := O9 4 (by decide)
  have x9 : τ9 42 = σ 42 := F9 42 (by decide)
  have t9 : TxOk (τ9 41 1) (τ9 42) := by rw [l9, x9]; exact ht
  have f9r : rgi (τ9 41 5) := by rw [f9]; split <;> omega
  refine x_istore_n (E_X5_readClause_0 4 rfl) rfl ?_
  refine x_aload_n (E_X5_readClause_0 5 rfl) rfl ?_
  refine x_getIe (v := τ9 41 5) (E_X5_readClause_0 6 rfl) fl_X5_34 rfl (by decide) rfl ?_
  refine x_if_ne (E_X5_readClause_0 7 rfl) (by omega) (fun c1 => ?_) (fun c1 => ?_)
  · refine x_aload_n (E_X5_readClause_0 17 rfl) rfl ?_
    refine x_getIe (v := τ9 41 5) (E_X5_readClause_0 18 rfl) fl_X5_34 rfl (by decide) rfl ?_
    refine x_if_eq (E_X5_readClause_0 19 rfl) (by omega) (fun c1 => ?_) (fun c1 => ?_)
    · exfalso; omega
    · refine z_vret (E_X5_readClause_0 20 rfl) trivial ?_
      have hk : (wkS (σ 42) (σ 41 1) 9 4 (σ 41 7)) = -1 := Classical.byContradiction (fun h => by rw [if_neg h] at f9; omega)
      rw [if_pos hk] at a9 f9 w9
      unfold clsR
      rw [if_pos hk]
      exact RdP.er (by decide) f9 w9 k9 (by omega) F9 O9
  · have hk : ¬ (wkS (σ 42) (σ 41 1) 9 4 (σ 41 7)) = -1 := fun h => by rw [if_pos h] at f9; omega
    rw [if_neg hk] at z9 a9 f9 w9
    refine x_aload_n (E_X5_readClause_0 8 rfl) rfl ?_
    refine x_getIe (v := τ9 41 4) (E_X5_readClause_0 9 rfl) fl_X5_31 rfl (by decide) rfl ?_
    refine x_bipush (z := 10) (E_X5_readClause_0 10 rfl) (by decide) ?_
    refine x_icmp_lt (E_X5_readClause_0 11 rfl) (by omega) (by decide) (fun c2 => ?_) (fun c2 => ?_)
    · refine x_aload_n (E_X5_readClause_0 17 rfl) rfl ?_
      refine x_getIe (v := τ9 41 5) (E_X5_readClause_0 18 rfl) fl_X5_34 rfl (by decide) rfl ?_
      refine x_if_eq (E_X5_readClause_0 19 rfl) (by omega) (fun c1 => ?_) (fun c1 => ?_)
      · refine x_iload_n (E_X5_readClause_0 21 rfl) rfl ?_
        by_cases w0 : v9 = 0
        · subst w0
          refine x_tsw (t := 68) (E_X5_readClause_0 22 rfl) (by decide) (by decide) (by decide) ?_
          refine x_aload_n (E_X5_readClause_0 23 rfl) rfl ?_
          refine z_callVv (E_X5_readClause_0 24 rfl) ml_X5_55 mv_X5_readLet rfl (by decide) (by decide) (c_X5_readLet (by omega) (by omega) t9 (by omega)) (by decide) rfl rfl (Nat.le_of_ble_eq_true rfl) (fun τ7 h7 => ?_)
          refine x_goto (E_X5_readClause_0 25 rfl) ?_
          refine z_vret (E_X5_readClause_0 41 rfl) trivial ?_
          have r7 := h7.pre (σ := σ) k9 (by omega) F9 O9
          rw [x9, l9, a9] at r7
          unfold clsR
          rw [if_neg hk, if_neg (by omega)]
          unfold clR
          rw [if_pos (show (wkS (σ 42) (σ 41 1) 9 4 (σ 41 7)) - 9 = 0 by omega)]
          exact r7
        by_cases w1 : v9 = 1
        · subst w1
          refine x_tsw (t := 75) (E_X5_readClause_0 22 rfl) (by decide) (by decide) (by decide) ?_
          refine x_aload_n (E_X5_readClause_0 26 rfl) rfl ?_
          refine z_callVv (E_X5_readClause_0 27 rfl) ml_X5_58 mv_X5_readDry rfl (by decide) (by decide) (c_X5_readDry (by omega) (by omega) t9 (by omega)) (by decide) rfl rfl (Nat.le_of_ble_eq_true rfl) (fun τ7 h7 => ?_)
          refine x_goto (E_X5_readClause_0 28 rfl) ?_
          refine z_vret (E_X5_readClause_0 41 rfl) trivial ?_
          have r7 := h7.pre (σ := σ) k9 (by omega) F9 O9
          rw [x9, l9, a9] at r7
          unfold clsR
          rw [if_neg hk, if_neg (by omega)]
          unfold clR
          rw [if_neg (show ¬ (wkS (σ 42) (σ 41 1) 9 4 (σ 41 7)) - 9 = 0 by omega)]
          rw [if_pos (show (wkS (σ 42) (σ 41 1) 9 4 (σ 41 7)) - 9 = 1 by omega)]
          exact r7
        by_cases w2 : v9 = 2
        · subst w2
          refine x_tsw (t := 82) (E_X5_readClause_0 22 rfl) (by decide) (by decide) (by decide) ?_
          refine x_aload_n (E_X5_readClause_0 29 rfl) rfl ?_
          refine x_bipush (z := 9) (E_X5_readClause_0 30 rfl) (by decide) ?_
          refine x_aload_n (E_X5_readClause_0 31 rfl) rfl ?_
          refine z_callVi (E_X5_readClause_0 32 rfl) ml_X5_61 mv_X5_takeKeys rfl (by decide) (by decide) (c_X5_takeKeys (by omega) (by omega) t9 (by omega)) (by decide) rfl rfl (Nat.le_of_ble_eq_true rfl) (fun v7 τ7 h7 => ?_)
          unfold KyP at h7
          rw [l9, x9, a9] at h7
          obtain ⟨h7, r7, F7, O7⟩ := h7
          have l7 := O7 1 (by decide)
          have k7 := O7 4 (by decide)
          have x7 : τ7 42 = τ9 42 := F7 42 (by decide)
          have t7 : TxOk (τ7 41 1) (τ7 42) := by rw [l7, x7]; exact t9
          have F97 : Fr [41] σ τ7 := Fr.trans F9 F7 (fun k h => h) (fun k h => h)
          have O97 : Fo 41 [5, 6, 7, 8] σ τ7 := Fo.trans O9 O7 (fun k h => h) (fun k h => h)
          have w2 : ¬ (wkS (σ 42) (σ 41 1) 9 4 (σ 41 7)) - 9 = 0 := by omega
          have w3 : ¬ (wkS (σ 42) (σ 41 1) 9 4 (σ 41 7)) - 9 = 1 := by omega
          have w4 : (wkS (σ 42) (σ 41 1) 9 4 (σ 41 7)) - 9 = 2 := by omega
          rcases h7 with ⟨q1, q2, q3, q4, q5⟩ | ⟨q1, q2, q3⟩
          · refine z_callVv (E_X5_readClause_0 33 rfl) ml_X5_65 mv_X5_keep rfl (by decide) (by decide) (c_X5_keep (ck := 2) (fi := (kyQ (σ 42) (σ 41 1) 5 (weS (σ 42) (σ 41 1) (σ 41 7)) 0 0 0 0).2.2.2.2.1) (se := ((kyQ (σ 42) (σ 41 1) 5 (weS (σ 42) (σ 41 1) (σ 41 7)) 0 0 0 0).2.2.2.1 : Nat)) rfl (by omega) (by omega) t7 (by omega)) (by decide) rfl rfl (Nat.le_of_ble_eq_true rfl) (fun τ6 h6 => ?_)
            refine x_goto (E_X5_readClause_0 34 rfl) ?_
            refine z_vret (E_X5_readClause_0 41 rfl) trivial ?_
            have r6 := h6.pre (σ := σ) (by omega) (by omega) F97 O97
            rw [x7, x9, l7, l9, q4, q5] at r6
            unfold clsR
            rw [if_neg hk, if_neg (by omega)]
            unfold clR
            rw [if_neg w2, if_neg w3, if_pos w4]
            unfold rnkR
            rw [if_neg (fun h => h q1)]
            exact r6
          · refine z_callVv (E_X5_readClause_0 33 rfl) ml_X5_65 mv_X5_keep rfl (by decide) (by decide) (c_X5_keep0 (by omega) (by omega)) (by decide) rfl rfl (Nat.le_of_ble_eq_true rfl) (fun τ6 h6 => ?_)
            refine x_goto (E_X5_readClause_0 34 rfl) ?_
            refine z_vret (E_X5_readClause_0 41 rfl) trivial ?_
            subst h6
            unfold clsR
            rw [if_neg hk, if_neg (by omega)]
            unfold clR
            rw [if_neg w2, if_neg w3, if_pos w4]
            unfold rnkR
            rw [if_pos q1]
            exact RdP.er q1 q2 q3 (by omega) (by omega) F97 O97
        refine x_tswD (t := 95) (E_X5_readClause_0 22 rfl) (by omega) (by omega) (by decide) ?_
        refine x_aload_n (E_X5_readClause_0 35 rfl) rfl ?_
        refine x_bipush (z := 10) (E_X5_readClause_0 36 rfl) (by decide) ?_
        refine x_aload_n (E_X5_readClause_0 37 rfl) rfl ?_
        refine x_iload_n (E_X5_readClause_0 38 rfl) rfl ?_
        refine z_callVi (E_X5_readClause_0 39 rfl) ml_X5_68 mv_X5_takeTerm rfl (by decide) (by decide) (c_X5_takeTerm hn (by omega) (by omega) t9 (by omega)) (by decide) rfl rfl (Nat.le_of_ble_eq_true rfl) (fun v7 τ7 h7 => ?_)
        rw [l9, x9, a9] at h7
        obtain ⟨z7, a7, f7, w7, u7, F7, O7⟩ := h7
        have l7 := O7 1 (by decide)
        have k7 := O7 4 (by decide)
        have x7 : τ7 42 = τ9 42 := F7 42 (by decide)
        have t7 : TxOk (τ7 41 1) (τ7 42) := by rw [l7, x7]; exact t9
        have F97 : Fr [41] σ τ7 := Fr.trans F9 F7 (fun k h => h) (fun k h => h)
        have O97 : Fo 41 [5, 6, 7, 8] σ τ7 := Fo.trans O9 O7 (fun k h => h) (fun k h => h)
        have dr := de_rg (tx := σ 42) (p := (weS (σ 42) (σ 41 1) (σ 41 7))) wr.2
        have br3 := bl_rg (tx := σ 42) (p := (weS (σ 42) (σ 41 1) (σ 41 7))) wr.2
        have n01 := nf_01 (tx := σ 42) (len := σ 41 1) (most := 9999) (p := (weS (σ 42) (σ 41 1) (σ 41 7)))
        have w2 : ¬ (wkS (σ 42) (σ 41 1) 9 4 (σ 41 7)) - 9 = 0 := by omega
        have w3 : ¬ (wkS (σ 42) (σ 41 1) 9 4 (σ 41 7)) - 9 = 1 := by omega
        have w4 : ¬ (wkS (σ 42) (σ 41 1) 9 4 (σ 41 7)) - 9 = 2 := by omega
        by_cases hn : (nfS (σ 42) (σ 41 1) 9999 (weS (σ 42) (σ 41 1) (σ 41 7))) ≠ 0
        · rw [if_pos hn] at f7
          refine z_callVv (E_X5_readClause_0 40 rfl) ml_X5_65 mv_X5_keep rfl (by decide) (by decide) (c_X5_keep0 (by omega) (by omega)) (by decide) rfl rfl (Nat.le_of_ble_eq_true rfl) (fun τ6 h6 => ?_)
          refine z_vret (E_X5_readClause_0 41 rfl) trivial ?_
          subst h6
          unfold clsR
          rw [if_neg hk, if_neg (by omega)]
          unfold clR
          rw [if_neg w2, if_neg w3, if_neg w4]
          unfold strR
          rw [if_pos hn]
          exact RdP.er hn f7 (w7 (by omega)) (by omega) (by omega) F97 O97
        · rw [if_neg hn] at f7
          by_cases hm : nt ≤ (nmS (σ 42) (σ 41 1) (weS (σ 42) (σ 41 1) (σ 41 7)))
          · rw [if_pos hm] at f7
            refine z_callVv (E_X5_readClause_0 40 rfl) ml_X5_65 mv_X5_keep rfl (by decide) (by decide) (c_X5_keep0 (by omega) (by omega)) (by decide) rfl rfl (Nat.le_of_ble_eq_true rfl) (fun τ6 h6 => ?_)
            refine z_vret (E_X5_readClause_0 41 rfl) trivial ?_
            subst h6
            unfold clsR
            rw [if_neg hk, if_neg (by omega)]
            unfold clR
            rw [if_neg w2, if_neg w3, if_neg w4]
            unfold strR
            rw [if_neg hn, if_pos hm]
            exact RdP.er (by decide) f7 (w7 (by omega)) (by omega) (by omega) F97 O97
          · rw [if_neg hm] at f7
            have u7 := u7 (by omega)
            refine z_callVv (E_X5_readClause_0 40 rfl) ml_X5_65 mv_X5_keep rfl (by decide) (by decide) (c_X5_keep (ck := 3) (fi := v7) (se := 0) rfl (by omega) (by omega) t7 (by omega)) (by decide) rfl rfl (Nat.le_of_ble_eq_true rfl) (fun τ6 h6 => ?_)
            refine z_vret (E_X5_readClause_0 41 rfl) trivial ?_
            have r6 := h6.pre (σ := σ) (by omega) (by omega) F97 O97
            rw [x7, x9, l7, l9, a7, z7] at r6
            unfold clsR
            rw [if_neg hk, if_neg (by omega)]
            unfold clR
            rw [if_neg w2, if_neg w3, if_neg w4]
            unfold strR
            rw [if_neg hn, if_neg hm]
            exact r6
      · exfalso; omega
    · refine x_aload_n (E_X5_readClause_0 12 rfl) rfl ?_
      refine x_iconst (E_X5_readClause_0 13 rfl) ?_
      refine x_aload_n (E_X5_readClause_0 14 rfl) rfl ?_
      refine x_getIe (v := τ9 41 8) (E_X5_readClause_0 15 rfl) fl_X5_48 rfl (by decide) rfl ?_
      refine z_callVv (E_X5_readClause_0 16 rfl) ml_X5_51 mv_X5_fail rfl (by decide) (by decide) c_X5_fail (by decide) rfl rfl (Nat.le_of_ble_eq_true rfl) (fun τ8 h8 => ?_)
      have f8 : τ8 41 5 = 5 := by rw [h8]; rfl
      refine x_aload_n (E_X5_readClause_0 17 rfl) rfl ?_
      refine x_getIe (v := τ8 41 5) (E_X5_readClause_0 18 rfl) fl_X5_34 rfl (by decide) rfl ?_
      refine x_if_eq (E_X5_readClause_0 19 rfl) (by omega) (fun c1 => ?_) (fun c1 => ?_)
      · exfalso; omega
      · refine z_vret (E_X5_readClause_0 20 rfl) trivial ?_
        unfold clsR
        rw [if_neg hk, if_pos (by omega), h8]
        exact RdP.er (by decide) rfl s9 k9 (show 0 ≤ τ9 41 7 ∧ τ9 41 7 ≤ _ by omega) ((F9.up (by decide)).up (by decide)) ((O9.up (by decide)).up (by decide))

/-- where clause j begins, and how it reads -/
def psA (tx : Int → Int) (len nt : Int) : Nat → Int
  | 0 => blS tx len 0
  | j + 1 => blS tx len (clsR tx len nt (j : Nat) (psA tx len nt j)).2.2.1
def clA (tx : Int → Int) (len nt : Int) (j : Nat) : CR := clsR tx len nt (j : Nat) (psA tx len nt j)
def StopA (tx : Int → Int) (len nt : Int) (N : Nat) : Prop := (∀ j, j < N → psA tx len nt j < len ∧ (clA tx len nt j).1 = 0) ∧ (len ≤ psA tx len nt N ∨ (clA tx len nt N).1 ≠ 0)
theorem StopA.one {tx : Int → Int} {len nt : Int} {N N' : Nat} (h : StopA tx len nt N) (h' : StopA tx len nt N') : N = N' := by
  rcases Nat.lt_trichotomy N N' with q | q | q
  · have := h'.1 N q
    rcases h.2 with a | a
    · omega
    · exact absurd this.2 a
  · exact q
  · have := h.1 N' q
    rcases h'.2 with a | a
    · omega
    · exact absurd this.2 a
theorem clA_10 {tx : Int → Int} {len nt : Int} {j : Nat} (hj : 10 ≤ j) : (clA tx len nt j).1 ≠ 0 := by
  unfold clA clsR
  split
  · show (1 : Int) ≠ 0; decide
  · rw [if_pos (by omega)]; show (5 : Int) ≠ 0; decide
/-- the fault of a text that stopped at clause N -/
def fltA (tx : Int → Int) (len nt : Int) (N : Nat) : Int × Int := if len ≤ psA tx len nt N then (0, -1) else ((clA tx len nt N).1, (clA tx len nt N).2.1)
def RtP (nt : Int) (σ τ : Nat → Int → Int) : Prop := ∃ N : Nat, N ≤ 10 ∧ StopA (σ 42) (σ 41 1) nt N ∧ (τ 41 5 = (fltA (σ 42) (σ 41 1) nt N).1 ∧ τ 41 6 = (fltA (σ 42) (σ 41 1) nt N).2) ∧ τ 41 4 = N ∧ (τ 41 5 = 0 → ∀ j : Nat, j < N → τ 43 j = codq (clA (σ 42) (σ 41 1) nt j).2.2.2.1 (clA (σ 42) (σ 41 1) nt j).2.2.2.2.1 ∧ τ 44 j = (clA (σ 42) (σ 41 1) nt j).2.2.2.2.2.2) ∧ τ 41 1 = 0 ∧ Fr [41, 43, 44] σ τ ∧ Fo 41 [1, 4, 5, 6, 7, 8] σ τ
theorem RtP.rg {R : CR} {ρ τ : Nat → Int → Int} (h : RdP R ρ τ) (hR : 0 ≤ R.1 ∧ R.1 ≤ 5) : τ 41 5 = R.1 ∧ rgi (τ 41 5) := by
  rcases h.1 with a | a <;> (constructor <;> omega)
theorem er_f {f w : Int} (h : 0 ≤ f ∧ f ≤ 5) : 0 ≤ (erR f w).1 ∧ (erR f w).1 ≤ 5 := h
theorem sem_f {tx : Int → Int} {len p ck fi se vl : Int} : 0 ≤ (semR tx len p ck fi se vl).1 ∧ (semR tx len p ck fi se vl).1 ≤ 5 := by
  unfold semR
  split
  · show (0 : Int) ≤ 0 ∧ (0 : Int) ≤ 5; decide
  · exact er_f (by decide)
theorem nf_f {tx : Int → Int} {len most p : Int} : 0 ≤ nfS tx len most p ∧ nfS tx len most p ≤ 5 := by
  have := nf_01 (tx := tx) (len := len) (most := most) (p := p)
  omega
theorem ky_f {tx : Int → Int} {len : Int} : ∀ {t : Nat} {p seen : Int} {n : Nat} {row vl : Int}, 0 ≤ (kyQ tx len t p seen n row vl).1 ∧ (kyQ tx len t p seen n row vl).1 ≤ 5
  | 0, _, _, _, _, _ => (by decide : (0 : Int) ≤ 0 ∧ (0 : Int) ≤ 5)
  | t + 1, p, seen, n, row, vl => by
    unfold kyQ
    split
    · show (0 : Int) ≤ 1 ∧ (1 : Int) ≤ 5; decide
    · split
      · show (0 : Int) ≤ 4 ∧ (4 : Int) ≤ 5; decide
      · split
        · exact ky_f
        · show (0 : Int) ≤ 0 ∧ (0 : Int) ≤ 5; decide
theorem cls_f {tx : Int → Int} {len nt cnt p : Int} : 0 ≤ (clsR tx len nt cnt p).1 ∧ (clsR tx len nt cnt p).1 ≤ 5 := by
  unfold clsR clR letR dryR rnkR strR
  repeat' split
  all_goals first
    | exact er_f (by decide)
    | exact sem_f
    | exact er_f nf_f
    | exact er_f ky_f

set_option maxHeartbeats 1000000 in
theorem c_X5_read {nt : Int} (hn : 0 ≤ nt ∧ nt ≤ 8) (ht : TxOk (σ 41 1) (σ 42)) : CV l G M_X5_read 9 [vr 41, vi nt] σ (RtP nt σ) := by
  have h160 := ht.1
  refine Ct.of rfl (Nat.le_of_ble_eq_true rfl) ?_
  have done : ∀ (i : Int) (N : Nat) (τ : Nat → Int → Int), rgi i → N ≤ 10 → StopA (σ 42) (σ 41 1) nt N → (τ 41 5 = (fltA (σ 42) (σ 41 1) nt N).1 ∧ τ 41 6 = (fltA (σ 42) (σ 41 1) nt N).2) → (rgi (τ 41 5) ∧ rgi (τ 41 7) ∧ (τ 41 5 ≠ 0 ∨ σ 41 1 ≤ τ 41 7)) → τ 41 4 = N → (τ 41 5 = 0 → ∀ j : Nat, j < N → τ 43 j = codq (clA (σ 42) (σ 41 1) nt j).2.2.2.1 (clA (σ 42) (σ 41 1) nt j).2.2.2.2.1 ∧ τ 44 j = (clA (σ 42) (σ 41 1) nt j).2.2.2.2.2.2) → Fr [41, 43, 44] σ τ → Fo 41 [4, 5, 6, 7, 8] σ τ → XV l G M_X5_read 9 26 [some (vr 41), some (vi nt), some (vi i)] [] τ (RtP nt σ) := by
    intro i N τ hi hN hs hf h5 h4 hj hF hO
    have e1 := hO 1 (by decide)
    refine x_iload_n (E_X5_read_0 16 rfl) rfl ?_
    refine x_bipush (z := 10) (E_X5_read_0 17 rfl) (by decide) ?_
    refine x_icmp_gt (E_X5_read_0 18 rfl) (by omega) (by decide) (fun c1 => ?_) (fun c1 => ?_)
    · refine x_aload_n (E_X5_read_0 34 rfl) rfl ?_
      refine x_iconst (E_X5_read_0 35 rfl) ?_
      refine x_putI (E_X5_read_0 36 rfl) fl_X5_25 rfl (by decide) ?_
      refine z_vret (E_X5_read_0 37 rfl) trivial ?_
      refine ⟨N, hN, hs, hf, h4, hj, rfl, hF.up (by decide), (hO.sub (by decide)).up (by decide)⟩
    · refine x_aload_n (E_X5_read_0 19 rfl) rfl ?_
      refine x_getIe (v := τ 41 7) (E_X5_read_0 20 rfl) fl_X5_28 rfl (by decide) rfl ?_
      refine x_aload_n (E_X5_read_0 21 rfl) rfl ?_
      refine x_getIe (v := τ 41 1) (E_X5_read_0 22 rfl) fl_X5_25 rfl (by decide) rfl ?_
      refine x_icmp_ge (E_X5_read_0 23 rfl) (by omega) (by omega) (fun c2 => ?_) (fun c2 => ?_)
      · refine x_aload_n (E_X5_read_0 34 rfl) rfl ?_
        refine x_iconst (E_X5_read_0 35 rfl) ?_
        refine x_putI (E_X5_read_0 36 rfl) fl_X5_25 rfl (by decide) ?_
        refine z_vret (E_X5_read_0 37 rfl) trivial ?_
        refine ⟨N, hN, hs, hf, h4, hj, rfl, hF.up (by decide), (hO.sub (by decide)).up (by decide)⟩
      · refine x_aload_n (E_X5_read_0 24 rfl) rfl ?_
        refine x_getIe (v := τ 41 5) (E_X5_read_0 25 rfl) fl_X5_34 rfl (by decide) rfl ?_
        refine x_if_ne (E_X5_read_0 26 rfl) (by omega) (fun c3 => ?_) (fun c3 => ?_)
        · refine x_aload_n (E_X5_read_0 34 rfl) rfl ?_
          refine x_iconst (E_X5_read_0 35 rfl) ?_
          refine x_putI (E_X5_read_0 36 rfl) fl_X5_25 rfl (by decide) ?_
          refine z_vret (E_X5_read_0 37 rfl) trivial ?_
          refine ⟨N, hN, hs, hf, h4, hj, rfl, hF.up (by decide), (hO.sub (by decide)).up (by decide)⟩
        · exfalso; omega
  have loop : ∀ (m n : Nat) (τ : Nat → Int → Int), m + n = 10 → (∀ j, j < n → psA (σ 42) (σ 41 1) nt j < (σ 41 1) ∧ (clA (σ 42) (σ 41 1) nt j).1 = 0) → τ 41 7 = psA (σ 42) (σ 41 1) nt n → (0 ≤ τ 41 7 ∧ τ 41 7 ≤ σ 41 1) → (τ 41 5 = 0 ∧ τ 41 6 = -1) → τ 41 4 = n → (∀ j : Nat, j < n → τ 43 j = codq (clA (σ 42) (σ 41 1) nt j).2.2.2.1 (clA (σ 42) (σ 41 1) nt j).2.2.2.2.1 ∧ τ 44 j = (clA (σ 42) (σ 41 1) nt j).2.2.2.2.2.2) → Fr [41, 43, 44] σ τ → Fo 41 [4, 5, 6, 7, 8] σ τ → XV l G M_X5_read 9 26 [some (vr 41), some (vi nt), some (vi n)] [] τ (RtP nt σ) := by
    intro m
    induction m using Nat.strongRecOn with
    | _ m ih =>
    intro n τ hm hb t7 p7 t5 t4 hj hF hO
    have e1 := hO 1 (by decide)
    have e42 : τ 42 = σ 42 := hF 42 (by decide)
    have tt : TxOk (τ 41 1) (τ 42) := by rw [e1, e42]; exact ht
    by_cases hl : σ 41 1 ≤ τ 41 7
    · refine done _ n τ (by omega) (by omega) ⟨hb, Or.inl (by omega)⟩ ?_ ⟨by omega, by omega, Or.inr hl⟩ t4 (fun _ => hj) hF hO
      unfold fltA
      rw [if_pos (by omega)]
      exact t5
    refine x_iload_n (E_X5_read_0 16 rfl) rfl ?_
    refine x_bipush (z := 10) (E_X5_read_0 17 rfl) (by decide) ?_
    refine x_icmp_gt (E_X5_read_0 18 rfl) (by omega) (by decide) (fun c1 => ?_) (fun c1 => ?_)
    · exfalso; omega
    · refine x_aload_n (E_X5_read_0 19 rfl) rfl ?_
      refine x_getIe (v := τ 41 7) (E_X5_read_0 20 rfl) fl_X5_28 rfl (by decide) rfl ?_
      refine x_aload_n (E_X5_read_0 21 rfl) rfl ?_
      refine x_getIe (v := τ 41 1) (E_X5_read_0 22 rfl) fl_X5_25 rfl (by decide) rfl ?_
      refine x_icmp_ge (E_X5_read_0 23 rfl) (by omega) (by omega) (fun c2 => ?_) (fun c2 => ?_)
      · exfalso; omega
      · refine x_aload_n (E_X5_read_0 24 rfl) rfl ?_
        refine x_getIe (v := τ 41 5) (E_X5_read_0 25 rfl) fl_X5_34 rfl (by decide) rfl ?_
        refine x_if_ne (E_X5_read_0 26 rfl) (by omega) (fun c3 => ?_) (fun c3 => ?_)
        · exfalso; omega
        · refine x_aload_n (E_X5_read_0 27 rfl) rfl ?_
          refine x_iload_n (E_X5_read_0 28 rfl) rfl ?_
          refine z_callVv (E_X5_read_0 29 rfl) ml_X5_40 mv_X5_readClause rfl (by decide) (by decide) (c_X5_readClause hn (by omega) (by omega) tt (by omega)) (by decide) rfl rfl (Nat.le_of_ble_eq_true rfl) (fun τ9 h9 => ?_)
          rw [e42, e1, t4, t7] at h9
          have h9 : RdP (clA (σ 42) (σ 41 1) nt n) τ τ9 := h9
          have c5 := RtP.rg h9 cls_f
          obtain ⟨h9, r9, F9, O9⟩ := h9
          have l9 := O9 1 (by decide)
          have x9 : τ9 42 = τ 42 := F9 42 (by decide)
          have t9 : TxOk (τ9 41 1) (τ9 42) := by rw [l9, x9]; exact tt
          have G9 : Fr [41, 43, 44] σ τ9 := Fr.trans hF F9 (fun k h => h) (fun k h => h)
          have P9 : Fo 41 [4, 5, 6, 7, 8] σ τ9 := Fo.trans hO O9 (fun k h => h) (fun k h => h)
          refine x_aload_n (E_X5_read_0 30 rfl) rfl ?_
          refine z_callVv (E_X5_read_0 31 rfl) ml_X5_37 mv_X5_skipBlanks rfl (by decide) (by decide) (c_X5_skipBlanks t9 (by omega)) (by decide) rfl rfl (Nat.le_of_ble_eq_true rfl) (fun τ8 h8 => ?_)
          obtain ⟨b1, b2, b3⟩ := h8
          rw [l9, x9, e1, e42] at b1
          have br := bl_rg (tx := σ 42) (p := τ9 41 7) (len := σ 41 1) (by omega)
          have G8 : Fr [41, 43, 44] σ τ8 := Fr.trans G9 b2 (fun k h => h) (by decide)
          have P8 : Fo 41 [4, 5, 6, 7, 8] σ τ8 := Fo.trans P9 b3 (fun k h => h) (by decide)
          have f8 := b3 5 (by decide)
          have w8 := b3 6 (by decide)
          have k8 := b3 4 (by decide)
          have a43 : τ8 43 = τ9 43 := b2 43 (by decide)
          have a44 : τ8 44 = τ9 44 := b2 44 (by decide)
          refine x_iinc (E_X5_read_0 32 rfl) rfl rfl ?_
          refine x_goto (E_X5_read_0 33 rfl) ?_
          rcases h9 with ⟨q1, q2, q3, q4, q5, q6, q7⟩ | ⟨q1, q2, q3, q4⟩
          · have n9 : n < 10 := Classical.byContradiction (fun h => clA_10 (by omega) q1)
            refine ih (m - 1) (by omega) (n + 1) τ8 (by omega) ?_ ?_ (by omega) ⟨by omega, by omega⟩ (by omega) ?_ G8 P8
            · intro j h
              by_cases e : j = n
              · subst e; exact ⟨by omega, q1⟩
              · exact hb j (by omega)
            · rw [b1, q4]; rfl
            · intro j h
              rw [a43, a44, q6, q7, t4]
              by_cases e : j = n
              · subst e; exact ⟨if_pos rfl, if_pos rfl⟩
              · have := hj j (by omega)
                exact ⟨(if_neg (by omega)).trans this.1, (if_neg (by omega)).trans this.2⟩
          · refine done _ n τ8 (by omega) (by omega) ⟨hb, Or.inr q1⟩ ?_ ⟨by omega, by omega, Or.inl (by omega)⟩ (by omega) (fun h => absurd h (by omega)) G8 P8
            unfold fltA
            rw [if_neg (by omega)]
            exact ⟨by rw [f8, q2], by rw [w8, q3]⟩
  refine x_aload_n (E_X5_read_0 0 rfl) rfl ?_
  refine x_iconst (E_X5_read_0 1 rfl) ?_
  refine x_putI (E_X5_read_0 2 rfl) fl_X5_28 rfl (by decide) ?_
  refine x_aload_n (E_X5_read_0 3 rfl) rfl ?_
  refine x_iconst (E_X5_read_0 4 rfl) ?_
  refine x_putI (E_X5_read_0 5 rfl) fl_X5_31 rfl (by decide) ?_
  refine x_aload_n (E_X5_read_0 6 rfl) rfl ?_
  refine x_iconst (E_X5_read_0 7 rfl) ?_
  refine x_putI (E_X5_read_0 8 rfl) fl_X5_34 rfl (by decide) ?_
  refine x_aload_n (E_X5_read_0 9 rfl) rfl ?_
  refine x_iconst (E_X5_read_0 10 rfl) ?_
  refine x_putI (E_X5_read_0 11 rfl) fl_X5_21 rfl (by decide) ?_
  refine x_aload_n (E_X5_read_0 12 rfl) rfl ?_
  refine z_callVv (E_X5_read_0 13 rfl) ml_X5_37 mv_X5_skipBlanks rfl (by decide) (by decide) (c_X5_skipBlanks ht (show 0 ≤ (0 : Int) ∧ (0 : Int) ≤ σ 41 1 by omega)) (by decide) rfl rfl (Nat.le_of_ble_eq_true rfl) (fun τ9 h9 => ?_)
  obtain ⟨b1, b2, b3⟩ := h9
  have br := bl_rg (tx := σ 42) (p := 0) (len := σ 41 1) (by omega)
  have b1 : τ9 41 7 = blS (σ 42) (σ 41 1) 0 := b1
  refine x_iconst (E_X5_read_0 14 rfl) ?_
  refine x_istore_n (E_X5_read_0 15 rfl) rfl ?_
  refine loop 10 0 τ9 rfl (fun j h => absurd h (by omega)) b1 (by omega) ⟨b3 5 (by decide), b3 6 (by decide)⟩ (b3 4 (by decide)) (fun j h => absurd h (by omega)) ?_ ?_
  · exact Fr.trans (((((Fr.rf (σ := σ) (cs := [41, 43, 44])).up (by decide)).up (by decide)).up (by decide)).up (by decide)) b2 (fun k h => h) (by decide)
  · exact Fo.trans (((((Fo.rf (σ := σ) (k := 41) (js := [4, 5, 6, 7, 8])).up (by decide)).up (by decide)).up (by decide)).up (by decide)) b3 (fun k h => h) (by decide)

