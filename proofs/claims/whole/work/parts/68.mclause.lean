/-! the model's clause -/
variable {l : Launch} {G : GC} {σ : Nat → Int → Int}

def CkI (ix kd : Int) (σ ρ : Nat → Int → Int) : Prop := (∀ i, i ≠ ix → ρ 135 i = σ 135 i ∧ ρ 136 i = σ 136 i ∧ ρ 137 i = σ 137 i) ∧ ρ 135 ix = kd ∧ Fr [114, 135, 136, 137] σ ρ ∧ Fo 114 [30, 31, 32, 33, 34] σ ρ
theorem CkI.call {ix kd : Int} {σ ρ τ : Nat → Int → Int} {L : List Int} (h : CkI ix kd σ ρ) (hF : Fr [114] ρ τ) (hO : Fo 114 L ρ τ) (hL : ∀ j ∈ L, j ∈ [(30 : Int), 31, 32, 33, 34]) : CkI ix kd σ τ := by
  obtain ⟨a, b, c, d⟩ := h
  refine ⟨fun i hi => ?_, ?_, Fr.trans c hF (fun k q => q) (by decide), Fo.trans d hO (fun k q => q) hL⟩
  · rw [hF 135 (by decide), hF 136 (by decide), hF 137 (by decide)]; exact a i hi
  · rw [hF 135 (by decide)]; exact b
theorem CkI.u136 {ix kd v : Int} {σ ρ : Nat → Int → Int} (h : CkI ix kd σ ρ) : CkI ix kd σ (upq ρ 136 ix v) := by
  obtain ⟨a, b, c, d⟩ := h
  exact ⟨fun i hi => ⟨(a i hi).1, (if_neg hi).trans (a i hi).2.1, (a i hi).2.2⟩, b, c.up (by decide), d.un (by decide)⟩
theorem CkI.u137 {ix kd v : Int} {σ ρ : Nat → Int → Int} (h : CkI ix kd σ ρ) : CkI ix kd σ (upq ρ 137 ix v) := by
  obtain ⟨a, b, c, d⟩ := h
  exact ⟨fun i hi => ⟨(a i hi).1, (a i hi).2.1, (if_neg hi).trans (a i hi).2.2⟩, b, c.up (by decide), d.un (by decide)⟩
theorem CkI.u114 {ix kd v j : Int} {σ ρ : Nat → Int → Int} (h : CkI ix kd σ ρ) (hj : j ∈ [(30 : Int), 31, 32, 33, 34]) : CkI ix kd σ (upq ρ 114 j v) := by
  obtain ⟨a, b, c, d⟩ := h
  exact ⟨a, b, c.up (by decide), d.up hj⟩
/-- what the model's clause leaves -/
def McP (R : CR) (kd ix : Int) (σ τ : Nat → Int → Int) : Prop := ((R.1 = 0 ∧ τ 114 31 = 0 ∧ τ 114 32 = σ 114 32 ∧ τ 114 30 = R.2.2.1 ∧ τ 136 ix = R.2.2.2.2.1 ∧ (kd ≠ 3 → τ 137 ix = R.2.2.2.2.2.1)) ∨ (R.1 ≠ 0 ∧ τ 114 31 = R.1 ∧ τ 114 32 = R.2.1)) ∧ (rgi (τ 114 31) ∧ 0 ≤ τ 114 30 ∧ τ 114 30 ≤ σ 114 29) ∧ CkI ix kd σ τ
theorem c_X11_takeNumber0 {most : Int} (hf : 0 < σ 114 31) (hr : rgi (σ 114 31)) : CI l G M_X11_takeNumber 1 [vr 114, vi most] σ (IP 0 σ) := by
  refine Ct.of rfl (Nat.le_of_ble_eq_true rfl) ?_
  refine x_aload_n (E_X11_takeNumber_0 0 rfl) rfl ?_
  refine x_getIe (v := σ 114 31) (E_X11_takeNumber_0 1 rfl) fl_X11_272 rfl (by decide) rfl ?_
  refine x_if_le (E_X11_takeNumber_0 2 rfl) (by omega) (fun c1 => ?_) (fun c1 => ?_)
  · exfalso; omega
  · refine x_iconst (E_X11_takeNumber_0 3 rfl) ?_
    refine z_iret (E_X11_takeNumber_0 4 rfl) trivial ?_
    exact ⟨rfl, rfl⟩
theorem mc_fin {kd ix : Int} (hk : rgi kd) (ht : TxOk (σ 114 29) (σ 138)) : ∀ (R : CR) (o : Option AV) (ρ : Nat → Int → Int), CkI ix kd σ ρ → (rgi (ρ 114 31) ∧ 0 ≤ ρ 114 30 ∧ ρ 114 30 ≤ σ 114 29) → ((R.1 ≠ 0 ∧ ρ 114 31 = R.1 ∧ ρ 114 32 = R.2.1) ∨ (∃ ck fi se vl, R = semR (σ 138) (σ 114 29) (ρ 114 30) ck fi se vl ∧ ρ 114 31 = 0 ∧ ρ 114 32 = σ 114 32 ∧ ρ 136 ix = fi ∧ (kd ≠ 3 → ρ 137 ix = se))) → XV l G M_X11_readClause 3 193 [some (vr 114), some (vi kd), some (vi ix), o] [] ρ (McP R kd ix σ) := by
  intro R o ρ hI hr hc
  have e1 := hI.2.2.2 29 (by decide)
  have e42 : ρ 138 = σ 138 := hI.2.2.1 138 (by decide)
  have tt : TxOk (ρ 114 29) (ρ 138) := by rw [e1, e42]; exact ht
  have br := bl_rg (tx := σ 138) (p := ρ 114 30) (len := σ 114 29) hr.2.2
  have tb := ht.2 (blS (σ 138) (σ 114 29) (ρ 114 30))
  have h160 := ht.1
  refine x_aload_n (E_X11_readClause_1 49 rfl) rfl ?_
  refine x_getIe (v := ρ 114 31) (E_X11_readClause_1 50 rfl) fl_X11_272 rfl (by decide) rfl ?_
  refine x_if_ne (E_X11_readClause_1 51 rfl) (by omega) (fun c1 => ?_) (fun c1 => ?_)
  · refine z_vret (E_X11_readClause_2 12 rfl) trivial ?_
    exact ⟨Or.inr (hc.resolve_right (fun ⟨_, _, _, _, h⟩ => by omega)), hr, hI⟩
  · refine x_aload_n (E_X11_readClause_1 52 rfl) rfl ?_
    refine z_callVi (E_X11_readClause_1 53 rfl) ml_X11_275 mv_X11_here rfl (by decide) (by decide) (c_X11_here tt (by omega)) (by decide) rfl rfl (Nat.le_of_ble_eq_true rfl) (fun v9 τ9 h9 => ?_)
    rw [e1, e42] at h9
    obtain ⟨z9, a9, F9, O9⟩ := h9
    have v9r : rgi v9 := by rcases z9 with z9 | z9 <;> omega
    have I9 := hI.call F9 O9 (by decide)
    have f9 := O9 31 (by decide)
    have w9 := O9 32 (by decide)
    have g6 : τ9 136 = ρ 136 := F9 136 (by decide)
    have g7 : τ9 137 = ρ 137 := F9 137 (by decide)
    obtain ⟨ck, fi, se, vl, rfl, q1, q2, q3, q4⟩ := hc.resolve_left (fun h => h.1 (by omega))
    refine x_istore_n (E_X11_readClause_1 54 rfl) rfl ?_
    refine x_aload_n (E_X11_readClause_1 55 rfl) rfl ?_
    refine x_dupr (E_X11_readClause_1 56 rfl) ?_
    refine x_getIe (v := τ9 114 30) (E_X11_readClause_1 57 rfl) fl_X11_269 rfl (by decide) rfl ?_
    refine x_aload_n (E_X11_readClause_1 58 rfl) rfl ?_
    refine x_iload_n (E_X11_readClause_1 59 rfl) rfl ?_
    refine x_bipush (z := 59) (E_X11_readClause_2 0 rfl) (by decide) ?_
    refine x_icmp_ne (E_X11_readClause_2 1 rfl) (by omega) (by decide) (fun c2 => ?_) (fun c2 => ?_)
    · refine x_iconst (E_X11_readClause_2 4 rfl) ?_
      refine x_iconst (E_X11_readClause_2 5 rfl) ?_
      refine x_aload_n (E_X11_readClause_2 6 rfl) rfl ?_
      refine x_getIe (v := τ9 114 30) (E_X11_readClause_2 7 rfl) fl_X11_269 rfl (by decide) rfl ?_
      refine z_callVi (E_X11_readClause_2 8 rfl) ml_X11_293 mv_X11_want rfl (by decide) (by decide) (c_X11_want (by omega) (by decide) (by decide) (by omega)) (by decide) rfl rfl (Nat.le_of_ble_eq_true rfl) (fun z8 τ8 h8 => ?_)
      have c9 : ¬ ((blS (σ 138) (σ 114 29) (ρ 114 30)) < σ 114 29 ∧ σ 138 (blS (σ 138) (σ 114 29) (ρ 114 30)) = 59) := by rcases z9 with z9 | z9 <;> omega
      rcases h8 with ⟨a, -, -⟩ | ⟨-, a, -⟩ | ⟨-, -, rfl, rfl⟩
      · exact absurd (show τ9 114 31 = 0 by omega) a
      · exact absurd rfl a
      · refine z_callSi (E_X11_readClause_2 9 rfl) ml_X11_307 ms_X11_one (c_X11_one (Or.inl rfl)) (by decide) rfl rfl (Nat.le_of_ble_eq_true rfl) (fun z7 τ7 h7 => ?_)
        obtain ⟨rfl, rfl⟩ := h7
        refine x_iadd (E_X11_readClause_2 10 rfl) ?_
        refine x_putI (E_X11_readClause_2 11 rfl) fl_X11_269 rfl (by decide) ?_
        refine z_vret (E_X11_readClause_2 12 rfl) trivial ?_
        unfold semR
        rw [if_neg c9]
        refine ⟨Or.inr ⟨(show (1 : Int) ≠ 0 by decide), rfl, a9⟩, ⟨(by decide : rgi 1), show 0 ≤ τ9 114 30 + 0 by omega, show τ9 114 30 + 0 ≤ _ by omega⟩, ((I9.u114 (by decide)).u114 (by decide)).u114 (by decide)⟩
    · refine x_iconst (E_X11_readClause_2 2 rfl) ?_
      refine x_goto (E_X11_readClause_2 3 rfl) ?_
      refine x_iconst (E_X11_readClause_2 5 rfl) ?_
      refine x_aload_n (E_X11_readClause_2 6 rfl) rfl ?_
      refine x_getIe (v := τ9 114 30) (E_X11_readClause_2 7 rfl) fl_X11_269 rfl (by decide) rfl ?_
      refine z_callVi (E_X11_readClause_2 8 rfl) ml_X11_293 mv_X11_want rfl (by decide) (by decide) (c_X11_want (by omega) (by decide) (by decide) (by omega)) (by decide) rfl rfl (Nat.le_of_ble_eq_true rfl) (fun z8 τ8 h8 => ?_)
      have c9 : (blS (σ 138) (σ 114 29) (ρ 114 30)) < σ 114 29 ∧ σ 138 (blS (σ 138) (σ 114 29) (ρ 114 30)) = 59 := by rcases z9 with z9 | z9 <;> omega
      rcases h8 with ⟨a, -, -⟩ | ⟨-, -, rfl, e8⟩ | ⟨-, a, -, -⟩
      · exact absurd (show τ9 114 31 = 0 by omega) a
      · obtain rfl := e8.symm
        refine z_callSi (E_X11_readClause_2 9 rfl) ml_X11_307 ms_X11_one (c_X11_one (Or.inr rfl)) (by decide) rfl rfl (Nat.le_of_ble_eq_true rfl) (fun z7 τ7 h7 => ?_)
        obtain ⟨rfl, rfl⟩ := h7
        refine x_iadd (E_X11_readClause_2 10 rfl) ?_
        refine x_putI (E_X11_readClause_2 11 rfl) fl_X11_269 rfl (by decide) ?_
        refine z_vret (E_X11_readClause_2 12 rfl) trivial ?_
        unfold semR
        rw [if_pos c9]
        refine ⟨Or.inl ⟨rfl, show τ9 114 31 = 0 by omega, show τ9 114 32 = _ by omega, show τ9 114 30 + 1 = _ by rw [a9], ?_, fun h => ?_⟩, ⟨show rgi (τ9 114 31) by omega, show 0 ≤ τ9 114 30 + 1 by omega, show τ9 114 30 + 1 ≤ _ by omega⟩, I9.u114 (by decide)⟩
        · show τ9 136 ix = _
          rw [g6]; exact q3
        · show τ9 137 ix = _
          rw [g7]; exact q4 h
      · exact absurd a (by decide)

theorem by_lk {tx : Int → Int} {s e : Int} : mtB tx s e 12 = true ↔ ¬ lkF tx s e 1 13 = -1 := by
  rw [lk13]
  by_cases h : mtB tx s e 12 = true
  · rw [if_pos h]; exact ⟨fun _ => by decide, fun _ => h⟩
  · rw [if_neg h]; exact ⟨fun q => absurd q h, fun q => absurd rfl q⟩
theorem by_len : lenq.getD 12 0 = 2 := by decide
theorem by_ch : ∀ j, j < 2 → chq 12 (j : Nat) = cgq 98 121 0 0 0 0 j := by decide +kernel
theorem c_isBy (ht : ∀ k, 0 ≤ k → k < 160 → 0 ≤ σ 138 k ∧ σ 138 k ≤ 255) (h0 : 0 ≤ σ 114 33 ∧ 0 ≤ σ 114 34 ∧ σ 114 33 + σ 114 34 ≤ 160) : CI l G M_X11_isWord 0 [vr 114, vi 2, vi 98, vi 121, vi 0, vi 0, vi 0, vi 0] σ (BP (mtB (σ 138) (σ 114 33) (σ 114 33 + σ 114 34) 12 = true) σ) := c_isW (by decide) (by decide) by_len by_ch ht h0

set_option maxHeartbeats 4000000 in
theorem mc_let {kd ix : Int} (hk : kd = 0) (hi : 0 ≤ ix ∧ ix < 80) (hn : 0 ≤ σ 114 22 ∧ σ 114 22 ≤ 8) (hf : σ 114 31 = 0) (ht : TxOk (σ 114 29) (σ 138)) (h0 : 0 ≤ σ 114 30 ∧ σ 114 30 ≤ σ 114 29) : XV l G M_X11_readClause 3 11 [some (vr 114), some (vi kd), some (vi ix), none] [] (upq σ 135 ix kd) (McP (clR (σ 138) (σ 114 29) (σ 114 22) kd (σ 114 30)) kd ix σ) := by
  have h160 := ht.1
  have fin := fun R o ρ a b c => mc_fin (l := l) (G := G) (σ := σ) (kd := kd) (ix := ix) (by omega) ht R o ρ a b c
  have br := bl_rg (tx := σ 138) h0.2
  have wr := we_rg (tx := σ 138) h0.2
  have dr := de_rg (tx := σ 138) h0.2
  have nr := nm_rg (tx := σ 138) h0.2
  have I0 : CkI ix kd σ (upq σ 135 ix kd) := ⟨fun i h => ⟨if_neg h, rfl, rfl⟩, if_pos rfl, Fr.rf.up (by decide), Fo.rf.un (by decide)⟩
  subst hk
  have kr : (wkS (σ 138) (σ 114 29) 0 5 (σ 114 30)) = -1 ∨ (0 ≤ (wkS (σ 138) (σ 114 29) 0 5 (σ 114 30)) ∧ (wkS (σ 138) (σ 114 29) 0 5 (σ 114 30)) < 0 + ((5 : Nat) : Int)) := lkF_rg
  show XV l G M_X11_readClause 3 _ _ _ _ (McP (letR (σ 138) (σ 114 29) (σ 114 30)) 0 ix σ)
  refine x_aload_n (E_X11_readClause_0 7 rfl) rfl ?_
  refine z_callVv (E_X11_readClause_0 8 rfl) ml_X11_301 mv_X11_takeWord rfl (by decide) (by decide) (c_X11_takeWord ht h0) (by decide) rfl rfl (Nat.le_of_ble_eq_true rfl) (fun τ9 h9 => ?_)
  have h9 : τ9 114 33 = (blS (σ 138) (σ 114 29) (σ 114 30)) ∧ τ9 114 34 = (weS (σ 138) (σ 114 29) (σ 114 30)) - (blS (σ 138) (σ 114 29) (σ 114 30)) ∧ τ9 114 30 = (weS (σ 138) (σ 114 29) (σ 114 30)) ∧ Fr [114] (upq σ 135 ix 0) τ9 ∧ Fo 114 [30, 33, 34] (upq σ 135 ix 0) τ9 := h9
  obtain ⟨s9, g9, a9, F9, O9⟩ := h9
  have l9 := O9 29 (by decide)
  have f9 := O9 31 (by decide)
  have w9 := O9 32 (by decide)
  have I9 := I0.call F9 O9 (by decide)
  have x9 : τ9 138 = σ 138 := F9 138 (by decide)
  have l9 : τ9 114 29 = σ 114 29 := l9
  have f9 : τ9 114 31 = σ 114 31 := f9
  have w9 : τ9 114 32 = σ 114 32 := w9
  have t9 : TxOk (τ9 114 29) (τ9 138) := by rw [l9, x9]; exact ht
  refine x_aload_n (E_X11_readClause_0 9 rfl) rfl ?_
  refine x_getR (E_X11_readClause_0 10 rfl) fl_X11_74 rfl (by decide) rfl ?_
  refine x_iload_n (E_X11_readClause_0 11 rfl) rfl ?_
  refine x_aload_n (E_X11_readClause_0 12 rfl) rfl ?_
  refine z_callVi (E_X11_readClause_0 13 rfl) ml_X11_311 mv_X11_nameOf rfl (by decide) (by decide) (c_X11_nameOf t9.2 (by omega)) (by decide) rfl rfl (Nat.le_of_ble_eq_true rfl) (fun v8 τ8 h8 => ?_)
  obtain ⟨z8, rfl⟩ := h8
  rw [x9, s9, g9, show (blS (σ 138) (σ 114 29) (σ 114 30)) + ((weS (σ 138) (σ 114 29) (σ 114 30)) - (blS (σ 138) (σ 114 29) (σ 114 30))) = (weS (σ 138) (σ 114 29) (σ 114 30)) by omega] at z8
  have z8 : v8 = (wkS (σ 138) (σ 114 29) 0 5 (σ 114 30)) := z8
  refine x_iast (E_X11_readClause_0 14 rfl) rfl (by decide) (by omega) ?_
  refine x_aload_n (E_X11_readClause_0 15 rfl) rfl ?_
  refine x_aload_n (E_X11_readClause_0 16 rfl) rfl ?_
  refine x_getR (E_X11_readClause_0 17 rfl) fl_X11_74 rfl (by decide) rfl ?_
  refine x_iload_n (E_X11_readClause_0 18 rfl) rfl ?_
  refine x_iald (E_X11_readClause_0 19 rfl) rfl (by decide) (by omega) ?_
  have u8 : upq τ9 136 ix v8 136 ix = v8 := if_pos rfl
  refine x_if_lt (E_X11_readClause_0 20 rfl) (by omega) (fun c1 => ?_) (fun c1 => ?_)
  · refine x_iconst (E_X11_readClause_0 23 rfl) ?_
    refine x_iconst (E_X11_readClause_0 24 rfl) ?_
    refine x_aload_n (E_X11_readClause_0 25 rfl) rfl ?_
    refine x_getIe (v := τ9 114 33) (E_X11_readClause_0 26 rfl) fl_X11_279 rfl (by decide) rfl ?_
    refine z_callVi (E_X11_readClause_0 27 rfl) ml_X11_293 mv_X11_want rfl (by decide) (by decide) (c_X11_want (by omega) (by decide) (by decide) (show rgi (τ9 114 31) by omega)) (by decide) rfl rfl (Nat.le_of_ble_eq_true rfl) (fun z7 τ7 h7 => ?_)
    have kz : (wkS (σ 138) (σ 114 29) 0 5 (σ 114 30)) = -1 := by omega
    rcases h7 with ⟨a, -, -⟩ | ⟨-, a, -⟩ | ⟨-, -, rfl, rfl⟩
    · exact absurd (show τ9 114 31 = 0 by omega) a
    · exact absurd rfl a
    · refine x_if_eq (E_X11_readClause_0 28 rfl) (by decide) (fun _ => ?_) (fun c9 => absurd (by decide) c9)
      refine fin _ none _ ((I9.u136.u114 (by decide)).u114 (by decide)) ⟨(by decide : rgi 1), show 0 ≤ τ9 114 30 by omega, show τ9 114 30 ≤ _ by omega⟩ (Or.inl ?_)
      unfold letR
      rw [if_pos kz]
      exact ⟨(show (1 : Int) ≠ 0 by decide), rfl, s9⟩
  · refine x_iconst (E_X11_readClause_0 21 rfl) ?_
    refine x_goto (E_X11_readClause_0 22 rfl) ?_
    refine x_iconst (E_X11_readClause_0 24 rfl) ?_
    refine x_aload_n (E_X11_readClause_0 25 rfl) rfl ?_
    refine x_getIe (v := τ9 114 33) (E_X11_readClause_0 26 rfl) fl_X11_279 rfl (by decide) rfl ?_
    refine z_callVi (E_X11_readClause_0 27 rfl) ml_X11_293 mv_X11_want rfl (by decide) (by decide) (c_X11_want (by omega) (by decide) (by decide) (show rgi (τ9 114 31) by omega)) (by decide) rfl rfl (Nat.le_of_ble_eq_true rfl) (fun z7 τ7 h7 => ?_)
    have kz : ¬ (wkS (σ 138) (σ 114 29) 0 5 (σ 114 30)) = -1 := by omega
    have mq : 0 ≤ mostQ v8 ∧ mostQ v8 ≤ 9999 := by
      have := (by decide : ∀ j, j < 5 → 0 ≤ mostQ ((j : Nat) : Int) ∧ mostQ ((j : Nat) : Int) ≤ 9999) v8.toNat (by omega)
      rw [show ((v8.toNat : Nat) : Int) = v8 by omega] at this
      exact this
    have br2 := bl_rg (tx := σ 138) (p := (weS (σ 138) (σ 114 29) (σ 114 30))) wr.2
    have dr2 := de_rg (tx := σ 138) (p := (weS (σ 138) (σ 114 29) (σ 114 30))) wr.2
    have n01 := nf_01 (tx := σ 138) (len := σ 114 29) (most := mostQ v8) (p := (weS (σ 138) (σ 114 29) (σ 114 30)))
    rcases h7 with ⟨a, -, -⟩ | ⟨-, -, rfl, rfl⟩ | ⟨-, a, -, -⟩
    · exact absurd (show τ9 114 31 = 0 by omega) a
    · refine x_if_eq (E_X11_readClause_0 28 rfl) (by decide) (fun c9 => absurd c9 (by decide)) (fun _ => ?_)
      refine x_aload_n (E_X11_readClause_0 29 rfl) rfl ?_
      refine x_getR (E_X11_readClause_0 30 rfl) fl_X11_77 rfl (by decide) rfl ?_
      refine x_iload_n (E_X11_readClause_0 31 rfl) rfl ?_
      refine x_aload_n (E_X11_readClause_0 32 rfl) rfl ?_
      refine x_aload_n (E_X11_readClause_0 33 rfl) rfl ?_
      refine x_getR (E_X11_readClause_0 34 rfl) fl_X11_74 rfl (by decide) rfl ?_
      refine x_iload_n (E_X11_readClause_0 35 rfl) rfl ?_
      refine x_iald (E_X11_readClause_0 36 rfl) rfl (by decide) (by omega) ?_
      rw [u8]
      refine z_callSi (E_X11_readClause_0 37 rfl) ml_X11_314 ms_X11_mostOfName (c_X11_mostOfName (by omega)) (by decide) rfl rfl (Nat.le_of_ble_eq_true rfl) (fun v6 τ6 h6 => ?_)
      obtain ⟨z6, rfl⟩ := h6
      subst z6
      refine z_callVi (E_X11_readClause_0 38 rfl) ml_X11_317 mv_X11_takeNumber rfl (by decide) (by decide) (c_X11_takeNumber (σ := upq τ9 136 ix v8) mq (show τ9 114 31 = 0 by omega) t9 (show 0 ≤ τ9 114 30 ∧ τ9 114 30 ≤ τ9 114 29 by omega)) (by decide) rfl rfl (Nat.le_of_ble_eq_true rfl) (fun v5 τ5 h5 => ?_)
      obtain ⟨s5, a5, f5, w5, y5, r5, F5, O5⟩ := h5
      have I5 := (I9.u136 (v := v8)).call F5 O5 (by decide)
      have a5 : τ5 114 30 = deS (τ9 138) (τ9 114 29) (τ9 114 30) := a5
      have f5 : τ5 114 31 = nfS (τ9 138) (τ9 114 29) (mostQ v8) (τ9 114 30) := f5
      have w5 : nfS (τ9 138) (τ9 114 29) (mostQ v8) (τ9 114 30) ≠ 0 → τ5 114 32 = blS (τ9 138) (τ9 114 29) (τ9 114 30) := w5
      have y5 : nfS (τ9 138) (τ9 114 29) (mostQ v8) (τ9 114 30) = 0 → τ5 114 32 = τ9 114 32 ∧ v5 = nmS (τ9 138) (τ9 114 29) (τ9 114 30) := y5
      rw [x9, l9, a9] at a5 f5 w5 y5
      have g5 : τ5 136 ix = v8 := (congrFun (F5 136 (by decide)) ix).trans u8
      refine x_iast (E_X11_readClause_0 39 rfl) rfl (by decide) (by omega) ?_
      refine x_goto (E_X11_readClause_0 40 rfl) ?_
      refine fin _ none _ I5.u137 ⟨show rgi (τ5 114 31) by omega, show 0 ≤ τ5 114 30 by omega, show τ5 114 30 ≤ _ by omega⟩ ?_
      unfold letR
      rw [if_neg kz, ← z8]
      by_cases hm : (nfS (σ 138) (σ 114 29) (mostQ v8) (weS (σ 138) (σ 114 29) (σ 114 30))) = 0
      · rw [if_neg (fun h => h hm)]
        have y6 := y5 hm
        refine Or.inr ⟨0, v8, v5, v5, ?_, show τ5 114 31 = 0 by omega, show τ5 114 32 = _ by omega, g5, fun _ => if_pos rfl⟩
        show _ = semR (σ 138) (σ 114 29) (τ5 114 30) 0 v8 v5 v5
        rw [a5, y6.2]
      · rw [if_pos hm]
        exact Or.inl ⟨hm, f5, w5 hm⟩
    · exact absurd a (by decide)

set_option maxHeartbeats 4000000 in
theorem mc_dry {kd ix : Int} (hk : kd = 1) (hi : 0 ≤ ix ∧ ix < 80) (hn : 0 ≤ σ 114 22 ∧ σ 114 22 ≤ 8) (hf : σ 114 31 = 0) (ht : TxOk (σ 114 29) (σ 138)) (h0 : 0 ≤ σ 114 30 ∧ σ 114 30 ≤ σ 114 29) : XV l G M_X11_readClause 3 78 [some (vr 114), some (vi kd), some (vi ix), none] [] (upq σ 135 ix kd) (McP (clR (σ 138) (σ 114 29) (σ 114 22) kd (σ 114 30)) kd ix σ) := by
  have h160 := ht.1
  have fin := fun R o ρ a b c => mc_fin (l := l) (G := G) (σ := σ) (kd := kd) (ix := ix) (by omega) ht R o ρ a b c
  have br := bl_rg (tx := σ 138) h0.2
  have wr := we_rg (tx := σ 138) h0.2
  have dr := de_rg (tx := σ 138) h0.2
  have nr := nm_rg (tx := σ 138) h0.2
  have I0 : CkI ix kd σ (upq σ 135 ix kd) := ⟨fun i h => ⟨if_neg h, rfl, rfl⟩, if_pos rfl, Fr.rf.up (by decide), Fo.rf.un (by decide)⟩
  subst hk
  have eC : clR (σ 138) (σ 114 29) (σ 114 22) 1 (σ 114 30) = dryR (σ 138) (σ 114 29) (σ 114 30) := by
    unfold clR
    rw [if_neg (by decide), if_pos rfl]
  rw [eC]
  refine x_aload_n (E_X11_readClause_0 44 rfl) rfl ?_
  refine x_getR (E_X11_readClause_0 45 rfl) fl_X11_74 rfl (by decide) rfl ?_
  refine x_iload_n (E_X11_readClause_0 46 rfl) rfl ?_
  refine x_aload_n (E_X11_readClause_0 47 rfl) rfl ?_
  refine x_iconst (E_X11_readClause_0 48 rfl) ?_
  refine z_callVi (E_X11_readClause_0 49 rfl) ml_X11_317 mv_X11_takeNumber rfl (by decide) (by decide) (c_X11_takeNumber (by omega) hf ht h0) (by decide) rfl rfl (Nat.le_of_ble_eq_true rfl) (fun v9 τ9 h9 => ?_)
  obtain ⟨s9, a9, f9, w9, y9, r9, F9, O9⟩ := h9
  have I9 := I0.call F9 O9 (by decide)
  have a9 : τ9 114 30 = (deS (σ 138) (σ 114 29) (σ 114 30)) := a9
  have s9 : τ9 114 33 = (blS (σ 138) (σ 114 29) (σ 114 30)) := s9
  have f9 : τ9 114 31 = (nfS (σ 138) (σ 114 29) 3 (σ 114 30)) := f9
  have w9 : (nfS (σ 138) (σ 114 29) 3 (σ 114 30)) ≠ 0 → τ9 114 32 = (blS (σ 138) (σ 114 29) (σ 114 30)) := w9
  have y9 : (nfS (σ 138) (σ 114 29) 3 (σ 114 30)) = 0 → τ9 114 32 = σ 114 32 ∧ v9 = nmS (σ 138) (σ 114 29) (σ 114 30) := y9
  have x9 : τ9 138 = σ 138 := F9 138 (by decide)
  have l9 : τ9 114 29 = σ 114 29 := O9 29 (by decide)
  have k9 : τ9 114 22 = σ 114 22 := O9 22 (by decide)
  have t9 : TxOk (τ9 114 29) (τ9 138) := by rw [l9, x9]; exact ht
  have n01 := nf_01 (tx := σ 138) (len := σ 114 29) (most := 3) (p := σ 114 30)
  have f9r : rgi (τ9 114 31) := by omega
  have u9 : upq τ9 136 ix v9 136 ix = v9 := if_pos rfl
  refine x_iast (E_X11_readClause_0 50 rfl) rfl (by decide) (by omega) ?_
  refine x_aload_n (E_X11_readClause_0 51 rfl) rfl ?_
  refine x_getIe (v := τ9 114 31) (E_X11_readClause_0 52 rfl) fl_X11_272 rfl (by decide) rfl ?_
  refine x_if_ne (E_X11_readClause_0 53 rfl) (by omega) (fun c1 => ?_) (fun c1 => ?_)
  · refine fin _ none _ I9.u136 ⟨f9r, show 0 ≤ τ9 114 30 by omega, show τ9 114 30 ≤ _ by omega⟩ (Or.inl ?_)
    unfold dryR
    rw [if_pos (by omega)]
    exact ⟨show (nfS (σ 138) (σ 114 29) 3 (σ 114 30)) ≠ 0 by omega, f9, w9 (by omega)⟩
  · refine x_aload_n (E_X11_readClause_0 54 rfl) rfl ?_
    refine z_callVv (E_X11_readClause_0 55 rfl) ml_X11_301 mv_X11_takeWord rfl (by decide) (by decide) (c_X11_takeWord (σ := upq τ9 136 ix v9) t9 (show 0 ≤ τ9 114 30 ∧ τ9 114 30 ≤ τ9 114 29 by omega)) (by decide) rfl rfl (Nat.le_of_ble_eq_true rfl) (fun τ8 h8 => ?_)
    have nz : (nfS (σ 138) (σ 114 29) 3 (σ 114 30)) = 0 := by omega
    have y := y9 nz
    have br1 := bl_rg (tx := σ 138) (p := (deS (σ 138) (σ 114 29) (σ 114 30))) dr.2
    have wr1 := we_rg (tx := σ 138) (p := (deS (σ 138) (σ 114 29) (σ 114 30))) dr.2
    obtain ⟨s8, g8, a8, F8, O8⟩ := h8
    have s8 : τ8 114 33 = blS (τ9 138) (τ9 114 29) (τ9 114 30) := s8
    have g8 : τ8 114 34 = weS (τ9 138) (τ9 114 29) (τ9 114 30) - blS (τ9 138) (τ9 114 29) (τ9 114 30) := g8
    have a8 : τ8 114 30 = weS (τ9 138) (τ9 114 29) (τ9 114 30) := a8
    rw [x9, l9, a9] at s8 g8 a8
    have I8 := (I9.u136 (v := v9)).call F8 O8 (by decide)
    have x8 : τ8 138 = σ 138 := (F8 138 (by decide)).trans x9
    have l8 : τ8 114 29 = σ 114 29 := (O8 29 (by decide)).trans l9
    have f8 : τ8 114 31 = τ9 114 31 := O8 31 (by decide)
    have w8 : τ8 114 32 = τ9 114 32 := O8 32 (by decide)
    have u8 : τ8 136 ix = v9 := (congrFun (F8 136 (by decide)) ix).trans u9
    have t8 : TxOk (τ8 114 29) (τ8 138) := by rw [l8, x8]; exact ht
    have ws : mtB (τ8 138) (τ8 114 33) (τ8 114 33 + τ8 114 34) 12 = true ↔ ¬ (wkS (σ 138) (σ 114 29) 13 1 (deS (σ 138) (σ 114 29) (σ 114 30))) = -1 := by
      rw [x8, s8, g8, show (blS (σ 138) (σ 114 29) (deS (σ 138) (σ 114 29) (σ 114 30))) + ((weS (σ 138) (σ 114 29) (deS (σ 138) (σ 114 29) (σ 114 30))) - (blS (σ 138) (σ 114 29) (deS (σ 138) (σ 114 29) (σ 114 30)))) = (weS (σ 138) (σ 114 29) (deS (σ 138) (σ 114 29) (σ 114 30))) by omega]
      exact by_lk
    refine x_aload_n (E_X11_readClause_0 56 rfl) rfl ?_
    refine x_aload_n (E_X11_readClause_0 57 rfl) rfl ?_
    refine x_iconst (E_X11_readClause_0 58 rfl) ?_
    refine x_bipush (z := 98) (E_X11_readClause_0 59 rfl) (by decide) ?_
    refine x_bipush (z := 121) (E_X11_readClause_1 0 rfl) (by decide) ?_
    refine x_iconst (E_X11_readClause_1 1 rfl) ?_
    refine x_iconst (E_X11_readClause_1 2 rfl) ?_
    refine x_iconst (E_X11_readClause_1 3 rfl) ?_
    refine x_iconst (E_X11_readClause_1 4 rfl) ?_
    refine z_callVi (E_X11_readClause_1 5 rfl) ml_X11_297 mv_X11_isWord rfl (by decide) (by decide) (c_isBy t8.2 (by omega)) (by decide) rfl rfl (Nat.le_of_ble_eq_true rfl) (fun z9 τ9 h9 => ?_)
    obtain ⟨rfl, ⟨rfl, c2⟩ | ⟨rfl, c2⟩⟩ := h9
    · refine x_iconst (E_X11_readClause_1 6 rfl) ?_
      refine x_aload_n (E_X11_readClause_1 7 rfl) rfl ?_
      refine x_getIe (v := τ8 114 33) (E_X11_readClause_1 8 rfl) fl_X11_279 rfl (by decide) rfl ?_
      refine z_callVi (E_X11_readClause_1 9 rfl) ml_X11_293 mv_X11_want rfl (by decide) (by decide) (c_X11_want (by omega) (by decide) (by decide) (by omega)) (by decide) rfl rfl (Nat.le_of_ble_eq_true rfl) (fun z7 τ7 h7 => ?_)
      have kz := ws.mp c2
      have br2 := bl_rg (tx := σ 138) (p := (weS (σ 138) (σ 114 29) (deS (σ 138) (σ 114 29) (σ 114 30)))) wr1.2
      have dr2 := de_rg (tx := σ 138) (p := (weS (σ 138) (σ 114 29) (deS (σ 138) (σ 114 29) (σ 114 30)))) wr1.2
      have n02 := nf_01 (tx := σ 138) (len := σ 114 29) (most := 999) (p := (weS (σ 138) (σ 114 29) (deS (σ 138) (σ 114 29) (σ 114 30))))
      rcases h7 with ⟨a, -, -⟩ | ⟨-, -, rfl, e7⟩ | ⟨-, a, -, -⟩
      · exact absurd (show τ8 114 31 = 0 by omega) a
      · obtain rfl := e7.symm
        refine x_istore_n (E_X11_readClause_1 10 rfl) rfl ?_
        refine x_aload_n (E_X11_readClause_1 11 rfl) rfl ?_
        refine x_getR (E_X11_readClause_1 12 rfl) fl_X11_77 rfl (by decide) rfl ?_
        refine x_iload_n (E_X11_readClause_1 13 rfl) rfl ?_
        refine x_aload_n (E_X11_readClause_1 14 rfl) rfl ?_
        refine x_sipush (z := 999) (E_X11_readClause_1 15 rfl) (by decide) ?_
        refine z_callVi (E_X11_readClause_1 16 rfl) ml_X11_317 mv_X11_takeNumber rfl (by decide) (by decide) (c_X11_takeNumber (by omega) (by omega) t8 (by omega)) (by decide) rfl rfl (Nat.le_of_ble_eq_true rfl) (fun v5 τ5 h5 => ?_)
        rw [x8, l8, a8] at h5
        obtain ⟨s5, a5, f5, w5, y5, r5, F5, O5⟩ := h5
        have I5 := I8.call F5 O5 (by decide)
        have g5 : τ5 136 ix = v9 := (congrFun (F5 136 (by decide)) ix).trans u8
        refine x_iast (E_X11_readClause_1 17 rfl) rfl (by decide) (by omega) ?_
        refine x_goto (E_X11_readClause_1 18 rfl) ?_
        refine fin _ _ _ I5.u137 ⟨show rgi (τ5 114 31) by omega, show 0 ≤ τ5 114 30 by omega, show τ5 114 30 ≤ _ by omega⟩ ?_
        unfold dryR
        rw [if_neg (fun h => h nz), if_neg kz]
        by_cases hm : (nfS (σ 138) (σ 114 29) 999 (weS (σ 138) (σ 114 29) (deS (σ 138) (σ 114 29) (σ 114 30)))) = 0
        · rw [if_neg (fun h => h hm)]
          have y6 := y5 hm
          refine Or.inr ⟨1, v9, v5, v5, ?_, show τ5 114 31 = 0 by omega, show τ5 114 32 = _ by omega, g5, fun _ => if_pos rfl⟩
          show _ = semR (σ 138) (σ 114 29) (τ5 114 30) 1 v9 v5 v5
          rw [a5, y6.2, y.2]
        · rw [if_pos hm]
          exact Or.inl ⟨hm, f5, w5 hm⟩
      · exact absurd a (by decide)
    · refine x_iconst (E_X11_readClause_1 6 rfl) ?_
      refine x_aload_n (E_X11_readClause_1 7 rfl) rfl ?_
      refine x_getIe (v := τ8 114 33) (E_X11_readClause_1 8 rfl) fl_X11_279 rfl (by decide) rfl ?_
      refine z_callVi (E_X11_readClause_1 9 rfl) ml_X11_293 mv_X11_want rfl (by decide) (by decide) (c_X11_want (by omega) (by decide) (by decide) (by omega)) (by decide) rfl rfl (Nat.le_of_ble_eq_true rfl) (fun z7 τ7 h7 => ?_)
      have kz : (wkS (σ 138) (σ 114 29) 13 1 (deS (σ 138) (σ 114 29) (σ 114 30))) = -1 := Classical.byContradiction (fun h => c2 (ws.mpr h))
      rcases h7 with ⟨a, -, -⟩ | ⟨-, a, -⟩ | ⟨-, -, rfl, rfl⟩
      · exact absurd (show τ8 114 31 = 0 by omega) a
      · exact absurd rfl a
      · refine x_istore_n (E_X11_readClause_1 10 rfl) rfl ?_
        refine x_aload_n (E_X11_readClause_1 11 rfl) rfl ?_
        refine x_getR (E_X11_readClause_1 12 rfl) fl_X11_77 rfl (by decide) rfl ?_
        refine x_iload_n (E_X11_readClause_1 13 rfl) rfl ?_
        refine x_aload_n (E_X11_readClause_1 14 rfl) rfl ?_
        refine x_sipush (z := 999) (E_X11_readClause_1 15 rfl) (by decide) ?_
        refine z_callVi (E_X11_readClause_1 16 rfl) ml_X11_317 mv_X11_takeNumber rfl (by decide) (by decide) (c_X11_takeNumber0 (by decide : (0 : Int) < 1) (by decide : rgi 1)) (by decide) rfl rfl (Nat.le_of_ble_eq_true rfl) (fun v5 τ5 h5 => ?_)
        obtain ⟨rfl, rfl⟩ := h5
        refine x_iast (E_X11_readClause_1 17 rfl) rfl (by decide) (by omega) ?_
        refine x_goto (E_X11_readClause_1 18 rfl) ?_
        refine fin _ _ _ (((I8.u114 (by decide)).u114 (by decide)).u137) ⟨(by decide : rgi 1), show 0 ≤ τ8 114 30 by omega, show τ8 114 30 ≤ _ by omega⟩ (Or.inl ?_)
        unfold dryR
        rw [if_neg (fun h => h nz), if_pos kz]
        exact ⟨(show (1 : Int) ≠ 0 by decide), rfl, s8⟩

set_option maxHeartbeats 4000000 in
theorem mc_rank {kd ix : Int} (hk : kd = 2) (hi : 0 ≤ ix ∧ ix < 80) (hn : 0 ≤ σ 114 22 ∧ σ 114 22 ≤ 8) (hf : σ 114 31 = 0) (ht : TxOk (σ 114 29) (σ 138)) (h0 : 0 ≤ σ 114 30 ∧ σ 114 30 ≤ σ 114 29) : XV l G M_X11_readClause 3 144 [some (vr 114), some (vi kd), some (vi ix), none] [] (upq σ 135 ix kd) (McP (clR (σ 138) (σ 114 29) (σ 114 22) kd (σ 114 30)) kd ix σ) := by
  have h160 := ht.1
  have fin := fun R o ρ a b c => mc_fin (l := l) (G := G) (σ := σ) (kd := kd) (ix := ix) (by omega) ht R o ρ a b c
  have br := bl_rg (tx := σ 138) h0.2
  have wr := we_rg (tx := σ 138) h0.2
  have dr := de_rg (tx := σ 138) h0.2
  have nr := nm_rg (tx := σ 138) h0.2
  have I0 : CkI ix kd σ (upq σ 135 ix kd) := ⟨fun i h => ⟨if_neg h, rfl, rfl⟩, if_pos rfl, Fr.rf.up (by decide), Fo.rf.un (by decide)⟩
  subst hk
  refine x_aload_n (E_X11_readClause_1 22 rfl) rfl ?_
  refine x_iload_n (E_X11_readClause_1 23 rfl) rfl ?_
  refine z_callVv (E_X11_readClause_1 24 rfl) ml_X11_320 mv_X11_readRank rfl (by decide) (by decide) (c_X11_readRank hi hf ht h0) (by decide) rfl rfl (Nat.le_of_ble_eq_true rfl) (fun τ9 h9 => ?_)
  refine x_goto (E_X11_readClause_1 25 rfl) ?_
  obtain ⟨q, r9, o9, F9, O9⟩ := h9
  have I9 : CkI ix 2 σ τ9 := ⟨fun i h => ⟨(congrFun (F9 135 (by decide)) i).trans (if_neg h), (o9 i h).1, (o9 i h).2⟩, (congrFun (F9 135 (by decide)) ix).trans (if_pos rfl), Fr.trans I0.2.2.1 F9 (fun k h => h) (by decide), Fo.trans I0.2.2.2 O9 (fun k h => h) (fun k h => h)⟩
  refine fin _ none _ I9 r9 ?_
  show ((rnkR (σ 138) (σ 114 29) (σ 114 30)).1 ≠ 0 ∧ _) ∨ _
  unfold clR
  rw [if_neg (by decide), if_neg (by decide), if_pos rfl]
  unfold rnkR
  rcases q with ⟨q1, q2, q3, q4, q5, q6⟩ | ⟨q1, q2, q3⟩
  · rw [if_neg (fun h => h q1)]
    have q4 : τ9 114 30 = (kyQ (σ 138) (σ 114 29) 5 (σ 114 30) 0 0 0 0).2.2.1 := q4
    refine Or.inr ⟨2, (kyQ (σ 138) (σ 114 29) 5 (σ 114 30) 0 0 0 0).2.2.2.2.1, (((kyQ (σ 138) (σ 114 29) 5 (σ 114 30) 0 0 0 0).2.2.2.1 : Nat) : Int), (kyQ (σ 138) (σ 114 29) 5 (σ 114 30) 0 0 0 0).2.2.2.2.2, ?_, q2, q3, q5, fun _ => q6⟩
    rw [q4]
  · have q1 : (kyQ (σ 138) (σ 114 29) 5 (σ 114 30) 0 0 0 0).1 ≠ 0 := q1
    rw [if_pos q1]
    exact Or.inl ⟨q1, q2, q3⟩

set_option maxHeartbeats 4000000 in
theorem mc_str {kd ix : Int} (hk : kd = 3) (hi : 0 ≤ ix ∧ ix < 80) (hn : 0 ≤ σ 114 22 ∧ σ 114 22 ≤ 8) (hf : σ 114 31 = 0) (ht : TxOk (σ 114 29) (σ 138)) (h0 : 0 ≤ σ 114 30 ∧ σ 114 30 ≤ σ 114 29) : XV l G M_X11_readClause 3 152 [some (vr 114), some (vi kd), some (vi ix), none] [] (upq σ 135 ix kd) (McP (clR (σ 138) (σ 114 29) (σ 114 22) kd (σ 114 30)) kd ix σ) := by
  have h160 := ht.1
  have fin := fun R o ρ a b c => mc_fin (l := l) (G := G) (σ := σ) (kd := kd) (ix := ix) (by omega) ht R o ρ a b c
  have br := bl_rg (tx := σ 138) h0.2
  have wr := we_rg (tx := σ 138) h0.2
  have dr := de_rg (tx := σ 138) h0.2
  have nr := nm_rg (tx := σ 138) h0.2
  have I0 : CkI ix kd σ (upq σ 135 ix kd) := ⟨fun i h => ⟨if_neg h, rfl, rfl⟩, if_pos rfl, Fr.rf.up (by decide), Fo.rf.un (by decide)⟩
  subst hk
  show XV l G M_X11_readClause 3 _ _ _ _ (McP (strR (σ 138) (σ 114 29) (σ 114 22) (σ 114 30)) 3 ix σ)
  refine x_aload_n (E_X11_readClause_1 26 rfl) rfl ?_
  refine x_getR (E_X11_readClause_1 27 rfl) fl_X11_74 rfl (by decide) rfl ?_
  refine x_iload_n (E_X11_readClause_1 28 rfl) rfl ?_
  refine x_aload_n (E_X11_readClause_1 29 rfl) rfl ?_
  refine x_sipush (z := 9999) (E_X11_readClause_1 30 rfl) (by decide) ?_
  refine z_callVi (E_X11_readClause_1 31 rfl) ml_X11_317 mv_X11_takeNumber rfl (by decide) (by decide) (c_X11_takeNumber (by omega) hf ht h0) (by decide) rfl rfl (Nat.le_of_ble_eq_true rfl) (fun v9 τ9 h9 => ?_)
  obtain ⟨s9, a9, f9, w9, y9, r9, F9, O9⟩ := h9
  have I9 := I0.call F9 O9 (by decide)
  have a9 : τ9 114 30 = (deS (σ 138) (σ 114 29) (σ 114 30)) := a9
  have s9 : τ9 114 33 = (blS (σ 138) (σ 114 29) (σ 114 30)) := s9
  have f9 : τ9 114 31 = (nfS (σ 138) (σ 114 29) 9999 (σ 114 30)) := f9
  have w9 : (nfS (σ 138) (σ 114 29) 9999 (σ 114 30)) ≠ 0 → τ9 114 32 = (blS (σ 138) (σ 114 29) (σ 114 30)) := w9
  have y9 : (nfS (σ 138) (σ 114 29) 9999 (σ 114 30)) = 0 → τ9 114 32 = σ 114 32 ∧ v9 = nmS (σ 138) (σ 114 29) (σ 114 30) := y9
  have x9 : τ9 138 = σ 138 := F9 138 (by decide)
  have l9 : τ9 114 29 = σ 114 29 := O9 29 (by decide)
  have k9 : τ9 114 22 = σ 114 22 := O9 22 (by decide)
  have t9 : TxOk (τ9 114 29) (τ9 138) := by rw [l9, x9]; exact ht
  have n01 := nf_01 (tx := σ 138) (len := σ 114 29) (most := 9999) (p := σ 114 30)
  have f9r : rgi (τ9 114 31) := by omega
  have u9 : upq τ9 136 ix v9 136 ix = v9 := if_pos rfl
  refine x_iast (E_X11_readClause_1 32 rfl) rfl (by decide) (by omega) ?_
  refine x_aload_n (E_X11_readClause_1 33 rfl) rfl ?_
  refine x_aload_n (E_X11_readClause_1 34 rfl) rfl ?_
  refine x_getR (E_X11_readClause_1 35 rfl) fl_X11_74 rfl (by decide) rfl ?_
  refine x_iload_n (E_X11_readClause_1 36 rfl) rfl ?_
  refine x_iald (E_X11_readClause_1 37 rfl) rfl (by decide) (by omega) ?_
  refine x_aload_n (E_X11_readClause_1 38 rfl) rfl ?_
  refine x_getIe (v := τ9 114 22) (E_X11_readClause_1 39 rfl) fl_X11_323 rfl (by decide) rfl ?_
  refine x_icmp_ge (E_X11_readClause_1 40 rfl) (by omega) (by omega) (fun c1 => ?_) (fun c1 => ?_)
  · refine x_iconst (E_X11_readClause_1 43 rfl) ?_
    refine x_iconst (E_X11_readClause_1 44 rfl) ?_
    refine x_aload_n (E_X11_readClause_1 45 rfl) rfl ?_
    refine x_getIe (v := τ9 114 33) (E_X11_readClause_1 46 rfl) fl_X11_279 rfl (by decide) rfl ?_
    refine z_callVi (E_X11_readClause_1 47 rfl) ml_X11_293 mv_X11_want rfl (by decide) (by decide) (c_X11_want (by omega) (by decide) (by decide) f9r) (by decide) rfl rfl (Nat.le_of_ble_eq_true rfl) (fun z7 τ7 h7 => ?_)
    refine x_istore_n (E_X11_readClause_1 48 rfl) rfl ?_
    unfold strR
    rcases h7 with ⟨a, rfl, e7⟩ | ⟨-, a, -⟩ | ⟨b, -, rfl, rfl⟩
    · have a : τ9 114 31 ≠ 0 := a
      subst e7
      refine fin _ _ _ I9.u136 ⟨f9r, show 0 ≤ τ9 114 30 by omega, show τ9 114 30 ≤ _ by omega⟩ (Or.inl ?_)
      rw [if_pos (by omega)]
      exact ⟨show (nfS (σ 138) (σ 114 29) 9999 (σ 114 30)) ≠ 0 by omega, f9, w9 (by omega)⟩
    · exact absurd rfl a
    · have b : τ9 114 31 = 0 := b
      have y := y9 (by omega)
      refine fin _ _ _ ((I9.u136.u114 (by decide)).u114 (by decide)) ⟨(by decide : rgi 3), show 0 ≤ τ9 114 30 by omega, show τ9 114 30 ≤ _ by omega⟩ (Or.inl ?_)
      rw [if_neg (by omega), if_pos (by omega)]
      exact ⟨(show (3 : Int) ≠ 0 by decide), rfl, s9⟩
  · refine x_iconst (E_X11_readClause_1 41 rfl) ?_
    refine x_goto (E_X11_readClause_1 42 rfl) ?_
    refine x_iconst (E_X11_readClause_1 44 rfl) ?_
    refine x_aload_n (E_X11_readClause_1 45 rfl) rfl ?_
    refine x_getIe (v := τ9 114 33) (E_X11_readClause_1 46 rfl) fl_X11_279 rfl (by decide) rfl ?_
    refine z_callVi (E_X11_readClause_1 47 rfl) ml_X11_293 mv_X11_want rfl (by decide) (by decide) (c_X11_want (by omega) (by decide) (by decide) f9r) (by decide) rfl rfl (Nat.le_of_ble_eq_true rfl) (fun z7 τ7 h7 => ?_)
    refine x_istore_n (E_X11_readClause_1 48 rfl) rfl ?_
    unfold strR
    rcases h7 with ⟨a, rfl, e7⟩ | ⟨b, -, rfl, e7⟩ | ⟨-, a, -, -⟩
    · have a : τ9 114 31 ≠ 0 := a
      subst e7
      refine fin _ _ _ I9.u136 ⟨f9r, show 0 ≤ τ9 114 30 by omega, show τ9 114 30 ≤ _ by omega⟩ (Or.inl ?_)
      rw [if_pos (by omega)]
      exact ⟨show (nfS (σ 138) (σ 114 29) 9999 (σ 114 30)) ≠ 0 by omega, f9, w9 (by omega)⟩
    · have b : τ9 114 31 = 0 := b
      have y := y9 (by omega)
      subst e7
      refine fin _ _ _ I9.u136 ⟨f9r, show 0 ≤ τ9 114 30 by omega, show τ9 114 30 ≤ _ by omega⟩ (Or.inr ?_)
      rw [if_neg (by omega), if_neg (by omega)]
      refine ⟨3, v9, 0, v9, ?_, b, y.1, u9, fun h => absurd rfl h⟩
      show _ = semR (σ 138) (σ 114 29) (τ9 114 30) 3 v9 0 v9
      rw [a9, y.2]
    · exact absurd a (by decide)

theorem c_X11_readClause {kd ix : Int} (hk : 0 ≤ kd ∧ kd ≤ 3) (hi : 0 ≤ ix ∧ ix < 80) (hn : 0 ≤ σ 114 22 ∧ σ 114 22 ≤ 8) (hf : σ 114 31 = 0) (ht : TxOk (σ 114 29) (σ 138)) (h0 : 0 ≤ σ 114 30 ∧ σ 114 30 ≤ σ 114 29) : CV l G M_X11_readClause 3 [vr 114, vi kd, vi ix] σ (McP (clR (σ 138) (σ 114 29) (σ 114 22) kd (σ 114 30)) kd ix σ) := by
  refine Ct.of rfl (Nat.le_of_ble_eq_true rfl) ?_
  refine x_aload_n (E_X11_readClause_0 0 rfl) rfl ?_
  refine x_getR (E_X11_readClause_0 1 rfl) fl_X11_71 rfl (by decide) rfl ?_
  refine x_iload_n (E_X11_readClause_0 2 rfl) rfl ?_
  refine x_iload_n (E_X11_readClause_0 3 rfl) rfl ?_
  refine x_iast (E_X11_readClause_0 4 rfl) rfl (by decide) (by omega) ?_
  refine x_iload_n (E_X11_readClause_0 5 rfl) rfl ?_
  refine x_if_ne (E_X11_readClause_0 6 rfl) (by omega) (fun c1 => ?_) (fun c1 => ?_)
  · refine x_iload_n (E_X11_readClause_0 41 rfl) rfl ?_
    refine x_iconst (E_X11_readClause_0 42 rfl) ?_
    refine x_icmp_ne (E_X11_readClause_0 43 rfl) (by omega) (by decide) (fun c2 => ?_) (fun c2 => ?_)
    · refine x_iload_n (E_X11_readClause_1 19 rfl) rfl ?_
      refine x_iconst (E_X11_readClause_1 20 rfl) ?_
      refine x_icmp_ne (E_X11_readClause_1 21 rfl) (by omega) (by decide) (fun c3 => ?_) (fun c3 => ?_)
      · exact mc_str (by omega) hi hn hf ht h0
      · exact mc_rank (by omega) hi hn hf ht h0
    · exact mc_dry (by omega) hi hn hf ht h0
  · exact mc_let (by omega) hi hn hf ht h0

