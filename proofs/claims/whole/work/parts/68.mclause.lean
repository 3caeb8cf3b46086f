/-! the model's clause -/
variable {l : Launch} {G : GC} {σ : Nat → Int → Int}

def CkI (ix kd : Int) (σ ρ : Nat → Int → Int) : Prop := (∀ i, i ≠ ix → ρ 135 i = σ 135 i ∧ ρ 136 i = σ 136 i ∧ ρ 137 i = σ 137 i) ∧ ρ 135 ix = kd ∧ Fr [114, 135, 136, 137] σ ρ ∧ Fo 114 [30, 31, 32, 33, 34] σ ρ
theorem CkI.call {ix kd : Int} {σ ρ τ : Nat → Int → Int} {L : List Int} (h : CkI ix kd σ ρ) (hF : Fr [114] ρ τ) (hO : Fo 114 L ρ τ) (hL : ∀ j ∈ L, j ∈ [(30 : Int), 31, 32, 33, 34]) : CkI ix kd σ τ := by
  obtain ⟨a, b, c, d⟩ := h
  refine ⟨fun i hi => ?_, ?_, Fr.trans c hF (fun k q => q) (by decide), Fo.trans d hO (fun k q => q) hL⟩
  · rw [hF 135 (by decide), hF 136 (by decide), hF 137 (by decide)]; exact a i hi
  · rw [hF 135 (by decide)]; exact b
theorem CkI.u136 {ix kd v : Int} {σ ρ : Nat → Int → Int} (h : CkI ix kd σ ρ) : CkI ix kd σ (upq ρ 136 ix v) := by
  obtain ⟨a, b, c, d⟩ := h
  exact ⟨fun i hi => ⟨(a i hi).1, (if_neg hi).trans (a i hi).2.1, (a i hi).2.2⟩, b, c.up (by decide), d.un (by decide)⟩
theorem CkI.u137 {ix kd v : Int} {σ ρ : Nat → Int → Int} (h : CkI ix kd σ ρ) : CkI ix kd σ (upq ρ 137 ix v) := by
  obtain ⟨a, b, c, d⟩ := h
  exact ⟨fun i hi => ⟨(a i hi).1, (a i hi).2.1, (if_neg hi).trans (a i hi).2.2⟩, b, c.up (by decide), d.un (by decide)⟩
theorem CkI.u114 {ix kd v j : Int} {σ ρ : Nat → Int → Int} (h : CkI ix kd σ ρ) (hj : j ∈ [(30 : Int), 31, 32, 33, 34]) : CkI ix kd σ (upq ρ 114 j v) := by
  obtain ⟨a, b, c, d⟩ := h
  exact ⟨a, b, c.up (by decide), d.up hj⟩
/-- what the model's clause leaves -/
def McP (R : CR) (kd ix : Int) (σ τ : Nat → Int → Int) : Prop := ((R.1 = 0 ∧ τ 114 31 = 0 ∧ τ 114 32 = σ 114 32 ∧ τ 114 30 = R.2.2.1 ∧ τ 136 ix = R.2.2.2.2.1 ∧ (kd ≠ 3 → τ 137 ix = R.2.2.2.2.2.1)) ∨ (R.1 ≠ 0 ∧ τ 114 31 = R.1 ∧ τ 114 32 = R.2.1)) ∧ (rgi (τ 114 31) ∧ 0 ≤ τ 114 30 ∧ τ 114 30 ≤ σ 114 29) ∧ CkI ix kd σ τ
theorem c_X11_takeNumber0 {most : Int} (hf : 0 < σ 114 31) (hr : rgi (σ 114 31)) : CI l G M_X11_takeNumber 1 [vr 114, vi most] σ (IP 0 σ) := by
  refine Ct.of rfl (Nat.le_of_ble_eq_true rfl) ?_
  refine x_aload_n (E_X11_takeNumber_0 0 rfl) rfl ?_
  refine x_getIe (v := σ 114 31) (E_X11_takeNumber_0 1 rfl) fl_X11_272 rfl (by decide) rfl ?_
  refine x_if_le (E_X11_takeNumber_0 2 rfl) (by omega) (fun c1 => ?_) (fun c1 => ?_)
  · exfalso; omega
  · refine x_iconst (E_X11_takeNumber_0 3 rfl) ?_
    refine z_iret (E_X11_takeNumber_0 4 rfl) trivial ?_
    exact ⟨rfl, rfl⟩
theorem mc_fin {kd ix : Int} (hk : rgi kd) (ht : TxOk (σ 114 29) (σ 138)) : ∀ (R : CR) (o : Option AV) (ρ : Nat → Int → Int), CkI ix kd σ ρ → (rgi (ρ 114 31) ∧ 0 ≤ ρ 114 30 ∧ ρ 114 30 ≤ σ 114 29) → ((R.1 ≠ 0 ∧ ρ 114 31 = R.1 ∧ ρ 114 32 = R.2.1) ∨ (∃ ck fi se vl, R = semR (σ 138) (σ 114 29) (ρ 114 30) ck fi se vl ∧ ρ 114 31 = 0 ∧ ρ 114 32 = σ 114 32 ∧ ρ 136 ix = fi ∧ (kd ≠ 3 → ρ 137 ix = se))) → XV l G M_X11_readClause 3 193 [some (vr 114), some (vi kd), some (vi ix), o] [] ρ (McP R kd ix σ) := by
  intro R o ρ hI hr hc
  have e1 := hI.2.2.2 29 (by decide)
  have e42 : ρ 138 = σ 138 := hI.2.2.1 138 (by decide)
  have tt : TxOk (ρ 114 29) (ρ 138) := by rw [e1, e42]; exact ht
  have br := bl_rg (tx := σ 138) (p := ρ 114 30) (len := σ 114 29) hr.2.2
  have tb := ht.2 (blS (σ 138) (σ 114 29) (ρ 114 30))
  have h160 := ht.1
  refine x_aload_n (E_X11_readClause_1 49 rfl) rfl ?_
  refine x_getIe (v := ρ 114 31) (E_X11_readClause_1 50 rfl) fl_X11_272 rfl (by decide) rfl ?_
  refine x_if_ne (E_X11_readClause_1 51 rfl) (by omega) (fun c1 => ?_) (fun c1 => ?_)
  · refine z_vret (E_X11_readClause_2 12 rfl) trivial ?_
    exact ⟨Or.inr (hc.resolve_right (fun ⟨_, _, _, _, h⟩ => by omega)), hr, hI⟩
  · refine x_aload_n (E_X11_readClause_1 52 rfl) rfl ?_
    refine z_callVi (E_X11_readClause_1 53 rfl) ml_X11_275 mv_X11_here rfl (by decide) (by decide) (c_X11_here tt (by omega)) (by decide) rfl rfl (Nat.le_of_ble_eq_true rfl) (fun v9 τ9 h9 => ?_)
    rw [e1, e42] at h9
    obtain ⟨z9, a9, F9, O9⟩ := h9
    have v9r : rgi v9 := by rcases z9 with z9 | z9 <;> omega
    have I9 := hI.call F9 O9 (by decide)
    have f9 := O9 31 (by decide)
    have w9 := O9 32 (by decide)
    have g6 : τ9 136 = ρ 136 := F9 136 (by decide)
    have g7 : τ9 137 = ρ 137 := F9 137 (by decide)
    obtain ⟨ck, fi, se, vl, rfl, q1, q2, q3, q4⟩ := hc.resolve_left (fun h => h.1 (by omega))
    refine x_istore_n (E_X11_readClause_1 54 rfl) rfl ?_
    refine x_aload_n (E_X11_readClause_1 55 rfl) rfl ?_
    refine x_dupr (E_X11_readClause_1 56 rfl) ?_
    refine x_getIe (v := τ9 114 30) (E_X11_readClause_1 57 rfl) fl_X11_269 rfl (by decide) rfl ?_
    refine x_aload_n (E_X11_readClause_1 58 rfl) rfl ?_
    refine x_iload_n (E_X11_readClause_1 59 rfl) rfl ?_
    refine x_bipush (z := 59) (E_X11_readClause_2 0 rfl) (by decide) ?_
    refine x_icmp_ne (E_X11_readClause_2 1 rfl) (by omega) (by decide) (fun c2 => ?_) (fun c2 => ?_)
    · refine x_iconst (E_X11_readClause_2 4 rfl) ?_
      refine x_iconst (E_X11_readClause_2 5 rfl) ?_
      refine x_aload_n (E_X11_readClause_2 6 rfl) rfl ?_
      refine x_getIe (v := τ9 114 30) (E_X11_readClause_2 7 rfl) fl_X11_269 rfl (by decide) rfl ?_
      refine z_callVi (E_X11_readClause_2 8 rfl) ml_X11_293 mv_X11_want rfl (by decide) (by decide) (c_X11_want (by omega) (by decide) (by decide) (by omega)) (by decide) rfl rfl (Nat.le_of_ble_eq_true rfl) (fun z8 τ8 h8 => ?_)
      have c9 : ¬ ((blS (σ 138) (σ 114 29) (ρ 114 30)) < σ 114 29 ∧ σ 138 (blS (σ 138) (σ 114 29) (ρ 114 30)) = 59) := by rcases z9 with z9 | z9 <;> omega
      rcases h8 with ⟨a, -, -⟩ | ⟨-, a, -⟩ | ⟨-, -, rfl, rfl⟩
      · exact absurd (show τ9 114 31 = 0 by omega) a
      · exact absurd rfl a
      · refine z_callSi (E_X11_readClause_2 9 rfl) ml_X11_307 ms_X11_one (c_X11_one (Or.inl rfl)) (by decide) rfl rfl (Nat.le_of_ble_eq_true rfl) (fun z7 τ7 h7 => ?_)
        obtain ⟨rfl, rfl⟩ := h7
        refine x_iadd (E_X11_readClause_2 10 rfl) ?_
        refine x_putI (E_X11_readClause_2 11 rfl) fl_X11_269 rfl (by decide) ?_
        refine z_vret (E_X11_readClause_2 12 rfl) trivial ?_
        unfold semR
        rw [if_neg c9]
        refine ⟨Or.inr ⟨(show (1 : Int) ≠ 0 by decide), rfl, a9⟩, ⟨(by decide : rgi 1), show 0 ≤ τ9 114 30 + 0 by omega, show τ9 114 30 + 0 ≤ _ by omega⟩, ((I9.u114 (by decide)).u114 (by decide)).u114 (by decide)⟩
    · refine x_iconst (E_X11_readClause_2 2 rfl) ?_
      refine x_goto (E_X11_readClause_2 3 rfl) ?_
      refine x_iconst (E_X11_readClause_2 5 rfl) ?_
      refine x_aload_n (E_X11_readClause_2 6 rfl) rfl ?_
      refine x_getIe (v := τ9 114 30) (E_X11_readClause_2 7 rfl) fl_X11_269 rfl (by decide) rfl ?_
      refine z_callVi (E_X11_readClause_2 8 rfl) ml_X11_293 mv_X11_want rfl (by decide) (by decide) (c_X11_want (by omega) (by decide) (by decide) (by omega)) (by decide) rfl rfl (Nat.le_of_ble_eq_true rfl) (fun z8 τ8 h8 => ?_)
      have c9 : (blS (σ 138) (σ 114 29) (ρ 114 30)) < σ 114 29 ∧ σ 138 (blS (σ 138) (σ 114 29) (ρ 114 30)) = 59 := by rcases z9 with z9 | z9 <;> omega
      rcases h8 with ⟨a, -, -⟩ | ⟨-, -, rfl, e8⟩ | ⟨-, a, -, -⟩
      · exact absurd (show τ9 114 31 = 0 by omega) a
      · obtain rfl := e8.symm
        refine z_callSi (E_X11_readClause_2 9 rfl) ml_X11_307 ms_X11_one (c_X11_one (Or.inr rfl)) (by decide) rfl rfl (Nat.le_of_ble_eq_true rfl) (fun z7 τ7 h7 => ?_)
        obtain ⟨rfl, rfl⟩ := h7
        refine x_iadd (E_X11_readClause_2 10 rfl) ?_
        refine x_putI (E_X11_readClause_2 11 rfl) fl_X11_269 rfl (by decide) ?_
        refine z_vret (E_X11_readClause_2 12 rfl) trivial ?_
        unfold semR
        rw [if_pos c9]
        refine ⟨Or.inl ⟨rfl, show τ9 114 31 = 0 by omega, show τ9 114 32 = _ by omega, show τ9 114 30 + 1 = _ by rw [a9], ?_, fun h => ?_⟩, ⟨show rgi (τ9 114 31) by omega, show 0 ≤ τ9 114 30 + 1 by omega, show τ9 114 30 + 1 ≤ _ by omega⟩, I9.u114 (by decide)⟩
        · show τ9 136 ix = _
          rw [g6]; exact q3
        · show τ9 137 ix = _
          rw [g7]; exact q4 h
      · exact absurd a (by decide)

