/-! the class's term; the model's reader -/
variable {l : Launch} {G : GC} {σ : Nat → Int → Int}

def TcQ (d : Int) (σ : Nat → Int → Int) (z : Int) (τ : Nat → Int → Int) : Prop := (¬ (0 ≤ d ∧ d ≤ 2000) ∧ z = -1002 ∧ τ = σ) ∨ ((0 ≤ d ∧ d ≤ 2000) ∧ 8 ≤ σ 17 8 ∧ z = -1004 ∧ τ = σ) ∨ ((0 ≤ d ∧ d ≤ 2000) ∧ σ 17 8 < 8 ∧ ∃ ρ, RtP (σ 17 8) σ ρ ∧ ((ρ 41 5 ≠ 0 ∧ z = -10 - ρ 41 5 ∧ τ = ρ) ∨ (ρ 41 5 = 0 ∧ AdP d ρ z τ)))
theorem flt_f {tx : Int → Int} {len nt : Int} {N : Nat} : 0 ≤ (fltA tx len nt N).1 ∧ (fltA tx len nt N).1 ≤ 5 := by
  unfold fltA
  split
  · show (0 : Int) ≤ 0 ∧ (0 : Int) ≤ 5; decide
  · exact cls_f
theorem c_X10_term {d : Int} (hd : rgi d) (hn : 0 ≤ σ 17 8 ∧ σ 17 8 ≤ 8) (ht : TxOk (σ 41 1) (σ 42)) (hdy : ∀ i, 0 ≤ i → i < σ 17 8 → 0 ≤ σ 18 i ∧ σ 18 i ≤ 2000) (ho : RepL (σ 38) (srtL (σ 18) (fun _ => true) (σ 17 8).toNat)) : CI l G M_X10_term 10 [vr 0, vi d] σ (TcQ d σ) := by
  refine Ct.of rfl (Nat.le_of_ble_eq_true rfl) ?_
  refine x_iload_n (E_X10_term_0 0 rfl) rfl ?_
  refine z_callSi (E_X10_term_0 1 rfl) ml_X10_207 ms_X10_isDay (c_X10_isDay (by omega)) (by decide) rfl rfl (Nat.le_of_ble_eq_true rfl) (fun z9 τ9 h9 => ?_)
  obtain ⟨rfl, ⟨rfl, c1⟩ | ⟨rfl, c1⟩⟩ := h9
  · refine x_if_ne (E_X10_term_0 2 rfl) (by decide) (fun _ => ?_) (fun c9 => absurd c9 (by decide))
    refine x_aload_n (E_X10_term_0 5 rfl) rfl ?_
    refine x_getR (E_X10_term_0 6 rfl) fl_X10_30 rfl (by decide) rfl ?_
    refine x_getIe (v := σ 17 8) (E_X10_term_0 7 rfl) fl_X10_198 rfl (by decide) rfl ?_
    refine x_bipush (z := 8) (E_X10_term_0 8 rfl) (by decide) ?_
    refine x_icmp_lt (E_X10_term_0 9 rfl) (by omega) (by decide) (fun c2 => ?_) (fun c2 => ?_)
    · refine x_aload_n (E_X10_term_0 12 rfl) rfl ?_
      refine x_getR (E_X10_term_0 13 rfl) fl_X10_37 rfl (by decide) rfl ?_
      refine x_aload_n (E_X10_term_0 14 rfl) rfl ?_
      refine x_getR (E_X10_term_0 15 rfl) fl_X10_30 rfl (by decide) rfl ?_
      refine x_getIe (v := σ 17 8) (E_X10_term_0 16 rfl) fl_X10_198 rfl (by decide) rfl ?_
      refine z_callVv (E_X10_term_0 17 rfl) ml_X10_210 mv_X5_read rfl (by decide) (by decide) (c_X5_read hn ht) (by decide) rfl rfl (Nat.le_of_ble_eq_true rfl) (fun τ9 h9 => ?_)
      have r9 := h9
      obtain ⟨N, hN, s9, f9, k9, j9, l9, F9, O9⟩ := r9
      have ff := flt_f (tx := σ 42) (len := σ 41 1) (nt := σ 17 8) (N := N)
      have e17 : τ9 17 = σ 17 := F9 17 (by decide)
      have e18 : τ9 18 = σ 18 := F9 18 (by decide)
      have e38 : τ9 38 = σ 38 := F9 38 (by decide)
      have e178 : τ9 17 8 = σ 17 8 := by rw [e17]
      refine x_aload_n (E_X10_term_0 18 rfl) rfl ?_
      refine x_getR (E_X10_term_0 19 rfl) fl_X10_37 rfl (by decide) rfl ?_
      refine x_getIe (v := τ9 41 5) (E_X10_term_0 20 rfl) fl_X10_213 rfl (by decide) rfl ?_
      refine x_if_eq (E_X10_term_0 21 rfl) (by omega) (fun c3 => ?_) (fun c3 => ?_)
      · refine x_aload_n (E_X10_term_0 28 rfl) rfl ?_
        refine x_getR (E_X10_term_0 29 rfl) fl_X10_30 rfl (by decide) rfl ?_
        refine x_iload_n (E_X10_term_0 30 rfl) rfl ?_
        refine x_aload_n (E_X10_term_0 31 rfl) rfl ?_
        refine x_getR (E_X10_term_0 32 rfl) fl_X10_37 rfl (by decide) rfl ?_
        refine z_callVi (E_X10_term_0 33 rfl) ml_X10_216 mv_X8_add rfl (by decide) (by decide) (c_X8_add (by omega) (by omega) (by omega) (by rw [e178, e18]; exact hdy) (by rw [e178, e18, e38]; exact ho)) (by decide) rfl rfl (Nat.le_of_ble_eq_true rfl) (fun z8 τ8 h8 => ?_)
        refine z_iret (E_X10_term_0 34 rfl) trivial ?_
        exact Or.inr (Or.inr ⟨by omega, by omega, τ9, h9, Or.inr ⟨by omega, h8⟩⟩)
      · refine x_bipush (z := (-10)) (E_X10_term_0 22 rfl) (by decide) ?_
        refine x_aload_n (E_X10_term_0 23 rfl) rfl ?_
        refine x_getR (E_X10_term_0 24 rfl) fl_X10_37 rfl (by decide) rfl ?_
        refine x_getIe (v := τ9 41 5) (E_X10_term_0 25 rfl) fl_X10_213 rfl (by decide) rfl ?_
        refine x_isub (E_X10_term_0 26 rfl) ?_
        refine z_iret (E_X10_term_0 27 rfl) trivial ?_
        exact Or.inr (Or.inr ⟨by omega, by omega, τ9, h9, Or.inl ⟨by omega, rfl, rfl⟩⟩)
    · refine x_sipush (z := (-1004)) (E_X10_term_0 10 rfl) (by decide) ?_
      refine z_iret (E_X10_term_0 11 rfl) trivial ?_
      exact Or.inr (Or.inl ⟨by omega, by omega, rfl, rfl⟩)
  · refine x_if_ne (E_X10_term_0 2 rfl) (by decide) (fun c9 => absurd c9 (by decide)) (fun _ => ?_)
    refine x_sipush (z := (-1002)) (E_X10_term_0 3 rfl) (by decide) ?_
    refine z_iret (E_X10_term_0 4 rfl) trivial ?_
    exact Or.inl ⟨by omega, rfl, rfl⟩

theorem c_X11_here (ht : TxOk (σ 114 29) (σ 138)) (h0 : 0 ≤ σ 114 30 ∧ σ 114 30 ≤ σ 114 29) : CI l G M_X11_here 0 [vr 114] σ (fun z τ => (((blS (σ 138) (σ 114 29) (σ 114 30)) < σ 114 29 ∧ z = σ 138 (blS (σ 138) (σ 114 29) (σ 114 30))) ∨ (¬ (blS (σ 138) (σ 114 29) (σ 114 30)) < σ 114 29 ∧ z = -1)) ∧ τ 114 30 = (blS (σ 138) (σ 114 29) (σ 114 30)) ∧ Fr [114] σ τ ∧ Fo 114 [30] σ τ) := by
  have h160 := ht.1
  refine Ct.of rfl (Nat.le_of_ble_eq_true rfl) ?_
  have loop : ∀ (n : Nat) (τ : Nat → Int → Int), (σ 114 29 - τ 114 30).toNat = n → (0 ≤ τ 114 30 ∧ τ 114 30 ≤ σ 114 29) → blS (σ 138) (σ 114 29) (τ 114 30) = (blS (σ 138) (σ 114 29) (σ 114 30)) → Fr [114] σ τ → Fo 114 [30] σ τ → XI l G M_X11_here 0 0 [some (vr 114)] [] τ (fun z τ => (((blS (σ 138) (σ 114 29) (σ 114 30)) < σ 114 29 ∧ z = σ 138 (blS (σ 138) (σ 114 29) (σ 114 30))) ∨ (¬ (blS (σ 138) (σ 114 29) (σ 114 30)) < σ 114 29 ∧ z = -1)) ∧ τ 114 30 = (blS (σ 138) (σ 114 29) (σ 114 30)) ∧ Fr [114] σ τ ∧ Fo 114 [30] σ τ) := by
    intro n
    induction n using Nat.strongRecOn with
    | _ n ih =>
    intro τ hn hp hb hF hO
    have e1 := hO 29 (by decide)
    have e42 := congrFun (hF 138 (by decide)) (τ 114 30)
    have fin : ¬ (τ 114 30 < σ 114 29 ∧ 32 ≤ σ 138 (τ 114 30) ∧ σ 138 (τ 114 30) ≤ 32) → XI l G M_X11_here 0 38 [some (vr 114)] [] τ (fun z τ => (((blS (σ 138) (σ 114 29) (σ 114 30)) < σ 114 29 ∧ z = σ 138 (blS (σ 138) (σ 114 29) (σ 114 30))) ∨ (¬ (blS (σ 138) (σ 114 29) (σ 114 30)) < σ 114 29 ∧ z = -1)) ∧ τ 114 30 = (blS (σ 138) (σ 114 29) (σ 114 30)) ∧ Fr [114] σ τ ∧ Fo 114 [30] σ τ) := by
      intro hx
      have hs : τ 114 30 = (blS (σ 138) (σ 114 29) (σ 114 30)) := by rw [← hb]; exact (scS_off hx).symm
      have e43 : σ 138 (τ 114 30) = σ 138 (blS (σ 138) (σ 114 29) (σ 114 30)) := by rw [hs]
      refine x_aload_n (E_X11_here_0 19 rfl) rfl ?_
      refine x_getIe (v := τ 114 30) (E_X11_here_0 20 rfl) fl_X11_269 rfl (by decide) rfl ?_
      refine x_aload_n (E_X11_here_0 21 rfl) rfl ?_
      refine x_getIe (v := τ 114 29) (E_X11_here_0 22 rfl) fl_X11_264 rfl (by decide) rfl ?_
      refine x_icmp_ge (E_X11_here_0 23 rfl) (by omega) (by omega) (fun c1 => ?_) (fun c1 => ?_)
      · refine x_iconst (E_X11_here_0 30 rfl) ?_
        refine z_iret (E_X11_here_0 31 rfl) trivial ?_
        exact ⟨Or.inr ⟨by omega, rfl⟩, hs, hF, hO⟩
      · refine x_aload_n (E_X11_here_0 24 rfl) rfl ?_
        refine x_getR (E_X11_here_0 25 rfl) fl_X11_80 rfl (by decide) rfl ?_
        refine x_aload_n (E_X11_here_0 26 rfl) rfl ?_
        refine x_getIe (v := τ 114 30) (E_X11_here_0 27 rfl) fl_X11_269 rfl (by decide) rfl ?_
        refine x_ialde (f := τ 138) (E_X11_here_0 28 rfl) rfl (by decide) (by omega) rfl ?_
        refine x_goto (E_X11_here_0 29 rfl) ?_
        refine z_iret (E_X11_here_0 31 rfl) trivial ?_
        exact ⟨Or.inl ⟨by omega, by omega⟩, hs, hF, hO⟩
    refine x_aload_n (E_X11_here_0 0 rfl) rfl ?_
    refine x_getIe (v := τ 114 30) (E_X11_here_0 1 rfl) fl_X11_269 rfl (by decide) rfl ?_
    refine x_aload_n (E_X11_here_0 2 rfl) rfl ?_
    refine x_getIe (v := τ 114 29) (E_X11_here_0 3 rfl) fl_X11_264 rfl (by decide) rfl ?_
    refine x_icmp_ge (E_X11_here_0 4 rfl) (by omega) (by omega) (fun c1 => ?_) (fun c1 => ?_)
    · exact fin (by omega)
    · have t9 := ht.2 (τ 114 30) (by omega) (by omega)
      refine x_aload_n (E_X11_here_0 5 rfl) rfl ?_
      refine x_getR (E_X11_here_0 6 rfl) fl_X11_80 rfl (by decide) rfl ?_
      refine x_aload_n (E_X11_here_0 7 rfl) rfl ?_
      refine x_getIe (v := τ 114 30) (E_X11_here_0 8 rfl) fl_X11_269 rfl (by decide) rfl ?_
      refine x_ialde (f := τ 138) (E_X11_here_0 9 rfl) rfl (by decide) (by omega) rfl ?_
      refine x_bipush (z := 32) (E_X11_here_0 10 rfl) (by decide) ?_
      refine x_icmp_ne (E_X11_here_0 11 rfl) (by omega) (by decide) (fun c2 => ?_) (fun c2 => ?_)
      · exact fin (by omega)
      · refine x_aload_n (E_X11_here_0 12 rfl) rfl ?_
        refine x_dupr (E_X11_here_0 13 rfl) ?_
        refine x_getIe (v := τ 114 30) (E_X11_here_0 14 rfl) fl_X11_269 rfl (by decide) rfl ?_
        refine x_iconst (E_X11_here_0 15 rfl) ?_
        refine x_iadd (E_X11_here_0 16 rfl) ?_
        refine x_putI (E_X11_here_0 17 rfl) fl_X11_269 rfl (by decide) ?_
        refine x_goto (E_X11_here_0 18 rfl) ?_
        refine ih (n - 1) (by omega) _ ?_ ?_ ?_ (hF.up (by decide)) (hO.up (by decide))
        · show (σ 114 29 - (τ 114 30 + 1)).toNat = _
          omega
        · show 0 ≤ τ 114 30 + 1 ∧ τ 114 30 + 1 ≤ _
          omega
        · rw [← hb]
          exact (scS_on (by omega)).symm
  exact loop _ σ rfl h0 rfl Fr.rf Fo.rf
def WtP (b f w : Int) (σ : Nat → Int → Int) (z : Int) (τ : Nat → Int → Int) : Prop := (σ 114 31 ≠ 0 ∧ z = 0 ∧ τ = σ) ∨ (σ 114 31 = 0 ∧ b ≠ 0 ∧ z = 1 ∧ τ = σ) ∨ (σ 114 31 = 0 ∧ b = 0 ∧ z = 0 ∧ τ = upq (upq σ 114 31 f) 114 32 w)
theorem c_X11_want {b f w : Int} (hb : b = 0 ∨ b = 1) (hf : rgi f) (hf0 : f ≠ 0) (h5 : rgi (σ 114 31)) : CI l G M_X11_want 0 [vr 114, vi b, vi f, vi w] σ (WtP b f w σ) := by
  refine Ct.of rfl (Nat.le_of_ble_eq_true rfl) ?_
  refine x_iload_n (E_X11_want_0 0 rfl) rfl ?_
  refine x_if_ne (E_X11_want_0 1 rfl) (by omega) (fun c1 => ?_) (fun c1 => ?_)
  · refine x_aload_n (E_X11_want_0 11 rfl) rfl ?_
    refine x_getIe (v := σ 114 31) (E_X11_want_0 12 rfl) fl_X11_272 rfl (by decide) rfl ?_
    have u9 : upq (upq σ 114 31 f) 114 32 w 114 31 = f := rfl
    refine x_if_ne (E_X11_want_0 13 rfl) (by omega) (fun c2 => ?_) (fun c2 => ?_)
    · refine x_iconst (E_X11_want_0 16 rfl) ?_
      refine z_iret (E_X11_want_0 17 rfl) (Or.inl rfl) ?_
      first | (exact Or.inl ⟨by omega, rfl, rfl⟩) | (exact Or.inr (Or.inl ⟨by omega, by omega, rfl, rfl⟩)) | (exact Or.inr (Or.inr ⟨by omega, by omega, rfl, rfl⟩)) | (exfalso; omega)
    · refine x_iconst (E_X11_want_0 14 rfl) ?_
      refine x_goto (E_X11_want_0 15 rfl) ?_
      refine z_iret (E_X11_want_0 17 rfl) (Or.inr rfl) ?_
      first | (exact Or.inl ⟨by omega, rfl, rfl⟩) | (exact Or.inr (Or.inl ⟨by omega, by omega, rfl, rfl⟩)) | (exact Or.inr (Or.inr ⟨by omega, by omega, rfl, rfl⟩)) | (exfalso; omega)
  · refine x_aload_n (E_X11_want_0 2 rfl) rfl ?_
    refine x_getIe (v := σ 114 31) (E_X11_want_0 3 rfl) fl_X11_272 rfl (by decide) rfl ?_
    refine x_if_ne (E_X11_want_0 4 rfl) (by omega) (fun c3 => ?_) (fun c3 => ?_)
    · refine x_aload_n (E_X11_want_0 11 rfl) rfl ?_
      refine x_getIe (v := σ 114 31) (E_X11_want_0 12 rfl) fl_X11_272 rfl (by decide) rfl ?_
      have u9 : upq (upq σ 114 31 f) 114 32 w 114 31 = f := rfl
      refine x_if_ne (E_X11_want_0 13 rfl) (by omega) (fun c4 => ?_) (fun c4 => ?_)
      · refine x_iconst (E_X11_want_0 16 rfl) ?_
        refine z_iret (E_X11_want_0 17 rfl) (Or.inl rfl) ?_
        first | (exact Or.inl ⟨by omega, rfl, rfl⟩) | (exact Or.inr (Or.inl ⟨by omega, by omega, rfl, rfl⟩)) | (exact Or.inr (Or.inr ⟨by omega, by omega, rfl, rfl⟩)) | (exfalso; omega)
      · refine x_iconst (E_X11_want_0 14 rfl) ?_
        refine x_goto (E_X11_want_0 15 rfl) ?_
        refine z_iret (E_X11_want_0 17 rfl) (Or.inr rfl) ?_
        first | (exact Or.inl ⟨by omega, rfl, rfl⟩) | (exact Or.inr (Or.inl ⟨by omega, by omega, rfl, rfl⟩)) | (exact Or.inr (Or.inr ⟨by omega, by omega, rfl, rfl⟩)) | (exfalso; omega)
    · refine x_aload_n (E_X11_want_0 5 rfl) rfl ?_
      refine x_iload_n (E_X11_want_0 6 rfl) rfl ?_
      refine x_putI (E_X11_want_0 7 rfl) fl_X11_272 rfl (by decide) ?_
      refine x_aload_n (E_X11_want_0 8 rfl) rfl ?_
      refine x_iload_n (E_X11_want_0 9 rfl) rfl ?_
      refine x_putI (E_X11_want_0 10 rfl) fl_X11_83 rfl (by decide) ?_
      refine x_aload_n (E_X11_want_0 11 rfl) rfl ?_
      refine x_getI (E_X11_want_0 12 rfl) fl_X11_272 rfl (by decide) ?_
      have u9 : upq (upq σ 114 31 f) 114 32 w 114 31 = f := rfl
      refine x_if_ne (E_X11_want_0 13 rfl) (by omega) (fun c5 => ?_) (fun c5 => ?_)
      · refine x_iconst (E_X11_want_0 16 rfl) ?_
        refine z_iret (E_X11_want_0 17 rfl) (Or.inl rfl) ?_
        first | (exact Or.inl ⟨by omega, rfl, rfl⟩) | (exact Or.inr (Or.inl ⟨by omega, by omega, rfl, rfl⟩)) | (exact Or.inr (Or.inr ⟨by omega, by omega, rfl, rfl⟩)) | (exfalso; omega)
      · refine x_iconst (E_X11_want_0 14 rfl) ?_
        refine x_goto (E_X11_want_0 15 rfl) ?_
        refine z_iret (E_X11_want_0 17 rfl) (Or.inr rfl) ?_
        first | (exact Or.inl ⟨by omega, rfl, rfl⟩) | (exact Or.inr (Or.inl ⟨by omega, by omega, rfl, rfl⟩)) | (exact Or.inr (Or.inr ⟨by omega, by omega, rfl, rfl⟩)) | (exfalso; omega)
theorem c_X11_takeWord (ht : TxOk (σ 114 29) (σ 138)) (h0 : 0 ≤ σ 114 30 ∧ σ 114 30 ≤ σ 114 29) : CV l G M_X11_takeWord 1 [vr 114] σ (fun τ => τ 114 33 = (blS (σ 138) (σ 114 29) (σ 114 30)) ∧ τ 114 34 = (weS (σ 138) (σ 114 29) (σ 114 30)) - (blS (σ 138) (σ 114 29) (σ 114 30)) ∧ τ 114 30 = (weS (σ 138) (σ 114 29) (σ 114 30)) ∧ Fr [114] σ τ ∧ Fo 114 [30, 33, 34] σ τ) := by
  have h160 := ht.1
  have br := bl_rg (tx := σ 138) h0.2
  have wr := we_rg (tx := σ 138) h0.2
  refine Ct.of rfl (Nat.le_of_ble_eq_true rfl) ?_
  have loop : ∀ (n : Nat) (x : Int) (τ : Nat → Int → Int), (σ 114 29 - τ 114 30).toNat = n → ((blS (σ 138) (σ 114 29) (σ 114 30)) ≤ τ 114 30 ∧ τ 114 30 ≤ σ 114 29) → scS (σ 138) (σ 114 29) 97 122 (τ 114 30) = (weS (σ 138) (σ 114 29) (σ 114 30)) → τ 114 33 = (blS (σ 138) (σ 114 29) (σ 114 30)) → Fr [114] σ τ → Fo 114 [30, 33, 34] σ τ → XV l G M_X11_takeWord 1 13 [some (vr 114), some (vi x)] [] τ (fun τ => τ 114 33 = (blS (σ 138) (σ 114 29) (σ 114 30)) ∧ τ 114 34 = (weS (σ 138) (σ 114 29) (σ 114 30)) - (blS (σ 138) (σ 114 29) (σ 114 30)) ∧ τ 114 30 = (weS (σ 138) (σ 114 29) (σ 114 30)) ∧ Fr [114] σ τ ∧ Fo 114 [30, 33, 34] σ τ) := by
    intro n x
    induction n using Nat.strongRecOn with
    | _ n ih =>
    intro τ hn hp hb h33 hF hO
    have e1 := hO 29 (by decide)
    have e42 := congrFun (hF 138 (by decide)) (τ 114 30)
    refine x_aload_n (E_X11_takeWord_0 7 rfl) rfl ?_
    refine x_getIe (v := τ 114 30) (E_X11_takeWord_0 8 rfl) fl_X11_269 rfl (by decide) rfl ?_
    refine x_aload_n (E_X11_takeWord_0 9 rfl) rfl ?_
    refine x_getIe (v := τ 114 29) (E_X11_takeWord_0 10 rfl) fl_X11_264 rfl (by decide) rfl ?_
    refine x_icmp_ge (E_X11_takeWord_0 11 rfl) (by omega) (by omega) (fun c1 => ?_) (fun c1 => ?_)
    · refine x_aload_n (E_X11_takeWord_0 29 rfl) rfl ?_
      refine x_aload_n (E_X11_takeWord_0 30 rfl) rfl ?_
      refine x_getIe (v := τ 114 30) (E_X11_takeWord_0 31 rfl) fl_X11_269 rfl (by decide) rfl ?_
      refine x_aload_n (E_X11_takeWord_0 32 rfl) rfl ?_
      refine x_getIe (v := τ 114 33) (E_X11_takeWord_0 33 rfl) fl_X11_279 rfl (by decide) rfl ?_
      refine x_isub (E_X11_takeWord_0 34 rfl) ?_
      refine x_putI (E_X11_takeWord_0 35 rfl) fl_X11_286 rfl (by decide) ?_
      refine z_vret (E_X11_takeWord_0 36 rfl) trivial ?_
      have hx : scS (σ 138) (σ 114 29) 97 122 (τ 114 30) = τ 114 30 := scS_off (by omega)
      have hx : τ 114 30 = (weS (σ 138) (σ 114 29) (σ 114 30)) := hx.symm.trans hb
      refine ⟨h33, ?_, hx, hF.up (by decide), hO.up (by decide)⟩
      show τ 114 30 - τ 114 33 = _
      rw [hx, h33]
    · have t9 := ht.2 (τ 114 30) (by omega) (by omega)
      refine x_aload_n (E_X11_takeWord_0 12 rfl) rfl ?_
      refine x_getR (E_X11_takeWord_0 13 rfl) fl_X11_80 rfl (by decide) rfl ?_
      refine x_aload_n (E_X11_takeWord_0 14 rfl) rfl ?_
      refine x_getIe (v := τ 114 30) (E_X11_takeWord_0 15 rfl) fl_X11_269 rfl (by decide) rfl ?_
      refine x_ialde (f := τ 138) (E_X11_takeWord_0 16 rfl) rfl (by decide) (by omega) rfl ?_
      refine x_i2l (E_X11_takeWord_0 17 rfl) (by omega) ?_
      refine x_ldc2 (z := 97) (E_X11_takeWord_0 18 rfl) kc_X11_282 (by decide) ?_
      refine x_ldc2 (z := 122) (E_X11_takeWord_0 19 rfl) kc_X11_284 (by decide) ?_
      refine z_callSi (E_X11_takeWord_0 20 rfl) ml_X11_197 ms_X11_in (c_X11_in (by omega) (by omega) (by omega)) (by decide) rfl rfl (Nat.le_of_ble_eq_true rfl) (fun z9 τ9 h9 => ?_)
      obtain ⟨rfl, ⟨rfl, c2⟩ | ⟨rfl, c2⟩⟩ := h9
      · refine x_if_eq (E_X11_takeWord_0 21 rfl) (by decide) (fun c9 => absurd c9 (by decide)) (fun _ => ?_)
        refine x_aload_n (E_X11_takeWord_0 22 rfl) rfl ?_
        refine x_dupr (E_X11_takeWord_0 23 rfl) ?_
        refine x_getIe (v := τ 114 30) (E_X11_takeWord_0 24 rfl) fl_X11_269 rfl (by decide) rfl ?_
        refine x_iconst (E_X11_takeWord_0 25 rfl) ?_
        refine x_iadd (E_X11_takeWord_0 26 rfl) ?_
        refine x_putI (E_X11_takeWord_0 27 rfl) fl_X11_269 rfl (by decide) ?_
        refine x_goto (E_X11_takeWord_0 28 rfl) ?_
        refine ih (n - 1) (by omega) _ ?_ ?_ ?_ h33 (hF.up (by decide)) (hO.up (by decide))
        · show (σ 114 29 - (τ 114 30 + 1)).toNat = _
          omega
        · show _ ≤ τ 114 30 + 1 ∧ τ 114 30 + 1 ≤ _
          omega
        · rw [← hb]
          exact (scS_on (by omega)).symm
      · refine x_if_eq (E_X11_takeWord_0 21 rfl) (by decide) (fun _ => ?_) (fun c9 => absurd (by decide) c9)
        refine x_aload_n (E_X11_takeWord_0 29 rfl) rfl ?_
        refine x_aload_n (E_X11_takeWord_0 30 rfl) rfl ?_
        refine x_getIe (v := τ 114 30) (E_X11_takeWord_0 31 rfl) fl_X11_269 rfl (by decide) rfl ?_
        refine x_aload_n (E_X11_takeWord_0 32 rfl) rfl ?_
        refine x_getIe (v := τ 114 33) (E_X11_takeWord_0 33 rfl) fl_X11_279 rfl (by decide) rfl ?_
        refine x_isub (E_X11_takeWord_0 34 rfl) ?_
        refine x_putI (E_X11_takeWord_0 35 rfl) fl_X11_286 rfl (by decide) ?_
        refine z_vret (E_X11_takeWord_0 36 rfl) trivial ?_
        have hx : scS (σ 138) (σ 114 29) 97 122 (τ 114 30) = τ 114 30 := scS_off (by omega)
        have hx : τ 114 30 = (weS (σ 138) (σ 114 29) (σ 114 30)) := hx.symm.trans hb
        refine ⟨h33, ?_, hx, hF.up (by decide), hO.up (by decide)⟩
        show τ 114 30 - τ 114 33 = _
        rw [hx, h33]
  refine x_aload_n (E_X11_takeWord_0 0 rfl) rfl ?_
  refine z_callVi (E_X11_takeWord_0 1 rfl) ml_X11_275 mv_X11_here rfl (by decide) (by decide) (c_X11_here ht h0) (by decide) rfl rfl (Nat.le_of_ble_eq_true rfl) (fun v9 τ9 h9 => ?_)
  obtain ⟨z9, b1, b2, b3⟩ := h9
  refine x_istore_n (E_X11_takeWord_0 2 rfl) rfl ?_
  refine x_aload_n (E_X11_takeWord_0 3 rfl) rfl ?_
  refine x_aload_n (E_X11_takeWord_0 4 rfl) rfl ?_
  refine x_getIe (v := τ9 114 30) (E_X11_takeWord_0 5 rfl) fl_X11_269 rfl (by decide) rfl ?_
  refine x_putI (E_X11_takeWord_0 6 rfl) fl_X11_279 rfl (by decide) ?_
  refine loop _ _ _ rfl ?_ ?_ b1 (b2.up (by decide)) ((b3.sub (by decide)).up (by decide))
  · show (blS (σ 138) (σ 114 29) (σ 114 30)) ≤ τ9 114 30 ∧ τ9 114 30 ≤ _
    omega
  · show scS (σ 138) (σ 114 29) 97 122 (τ9 114 30) = _
    rw [b1]; rfl

def cgq (g0 g1 g2 g3 g4 g5 : Int) (j : Nat) : Int := [g0, g1, g2, g3, g4, g5].getD j 0
theorem c_X11_isWord {n : Nat} {g0 g1 g2 g3 g4 g5 : Int} (hn : n ≤ 6) (hc : ∀ j, j < 6 → rgi (cgq g0 g1 g2 g3 g4 g5 j)) (ht : ∀ k, 0 ≤ k → k < 160 → 0 ≤ σ 138 k ∧ σ 138 k ≤ 255) (h0 : 0 ≤ σ 114 33 ∧ 0 ≤ σ 114 34 ∧ σ 114 33 + σ 114 34 ≤ 160) : CI l G M_X11_isWord 0 [vr 114, vi n, vi g0, vi g1, vi g2, vi g3, vi g4, vi g5] σ (BP (((n : Nat) : Int) = σ 114 34 ∧ ∀ j : Nat, j < n → cgq g0 g1 g2 g3 g4 g5 j = σ 138 (σ 114 33 + j)) σ) := by
  have k0 := hc 0 (by decide)
  have k1 := hc 1 (by decide)
  have k2 := hc 2 (by decide)
  have k3 := hc 3 (by decide)
  have k4 := hc 4 (by decide)
  have k5 := hc 5 (by decide)
  dsimp only [cgq, List.getD_cons_zero, List.getD_cons_succ] at k0 k1 k2 k3 k4 k5
  refine Ct.of rfl (Nat.le_of_ble_eq_true rfl) ?_
  have fin : ∀ (b i : Int), rgi i → (i < n → b = 0) → ((b = 1 ∧ (((n : Nat) : Int) = σ 114 34 ∧ ∀ j : Nat, j < n → cgq g0 g1 g2 g3 g4 g5 j = σ 138 (σ 114 33 + j))) ∨ (b = 0 ∧ ¬ (((n : Nat) : Int) = σ 114 34 ∧ ∀ j : Nat, j < n → cgq g0 g1 g2 g3 g4 g5 j = σ 138 (σ 114 33 + j)))) → XI l G M_X11_isWord 0 18 [some (vr 114), some (vi n), some (vi g0), some (vi g1), some (vi g2), some (vi g3), some (vi g4), some (vi g5), some (vi b), some (vi i)] [] σ (BP (((n : Nat) : Int) = σ 114 34 ∧ ∀ j : Nat, j < n → cgq g0 g1 g2 g3 g4 g5 j = σ 138 (σ 114 33 + j)) σ) := by
    intro b i hi h1 h2
    have b01 : b = 0 ∨ b = 1 := h2.elim (fun h => Or.inr h.1) (fun h => Or.inl h.1)
    refine x_iload (E_X11_isWord_0 10 rfl) rfl ?_
    refine x_iload_n (E_X11_isWord_0 11 rfl) rfl ?_
    refine x_icmp_ge (E_X11_isWord_0 12 rfl) (by omega) (by omega) (fun c1 => ?_) (fun c1 => ?_)
    · refine x_iload (E_X11_isWord_0 54 rfl) rfl ?_
      refine z_iret (E_X11_isWord_0 55 rfl) b01 ?_
      exact ⟨rfl, h2⟩
    · refine x_iload (E_X11_isWord_0 13 rfl) rfl ?_
      refine x_if_eq (E_X11_isWord_0 14 rfl) (by omega) (fun c2 => ?_) (fun c2 => ?_)
      · refine x_iload (E_X11_isWord_0 54 rfl) rfl ?_
        refine z_iret (E_X11_isWord_0 55 rfl) b01 ?_
        exact ⟨rfl, h2⟩
      · exfalso; omega
  have loop : ((n : Nat) : Int) = σ 114 34 → ∀ (m i : Nat), i + m = n → (∀ j : Nat, j < i → cgq g0 g1 g2 g3 g4 g5 j = σ 138 (σ 114 33 + j)) → XI l G M_X11_isWord 0 18 [some (vr 114), some (vi n), some (vi g0), some (vi g1), some (vi g2), some (vi g3), some (vi g4), some (vi g5), some (vi 1), some (vi i)] [] σ (BP (((n : Nat) : Int) = σ 114 34 ∧ ∀ j : Nat, j < n → cgq g0 g1 g2 g3 g4 g5 j = σ 138 (σ 114 33 + j)) σ) := by
    intro hl m
    induction m with
    | zero => intro i hi hj; exact fin 1 i (by omega) (fun h => absurd h (by omega)) (Or.inl ⟨rfl, hl, fun j hj' => hj j (by omega)⟩)
    | succ m ih =>
      intro i hi hj
      have t9 := ht (σ 114 33 + i) (by omega) (by omega)
      have nxt : ∀ c : Int, c = cgq g0 g1 g2 g3 g4 g5 i → rgi c → XI l G M_X11_isWord 0 95 [some (vr 114), some (vi n), some (vi g0), some (vi g1), some (vi g2), some (vi g3), some (vi g4), some (vi g5), some (vi 1), some (vi i)] [vi c, vi (σ 138 (σ 114 33 + i))] σ (BP (((n : Nat) : Int) = σ 114 34 ∧ ∀ j : Nat, j < n → cgq g0 g1 g2 g3 g4 g5 j = σ 138 (σ 114 33 + j)) σ) := by
        intro c ec hcr
        refine x_icmp_ne (E_X11_isWord_0 47 rfl) (by omega) (by omega) (fun c1 => ?_) (fun c1 => ?_)
        · refine x_iconst (E_X11_isWord_0 50 rfl) ?_
          refine x_istore (E_X11_isWord_0 51 rfl) rfl ?_
          refine x_iinc (E_X11_isWord_0 52 rfl) rfl rfl ?_
          refine x_goto (E_X11_isWord_0 53 rfl) ?_
          exact fin 0 _ (by omega) (fun _ => rfl) (Or.inr ⟨rfl, fun h => by have := h.2 i (by omega); omega⟩)
        · refine x_iconst (E_X11_isWord_0 48 rfl) ?_
          refine x_goto (E_X11_isWord_0 49 rfl) ?_
          refine x_istore (E_X11_isWord_0 51 rfl) rfl ?_
          refine x_iinc (E_X11_isWord_0 52 rfl) rfl rfl ?_
          refine x_goto (E_X11_isWord_0 53 rfl) ?_
          refine ih (i + 1) (by omega) (fun j hj' => ?_)
          by_cases e : j = i
          · subst e; omega
          · exact hj j (by omega)
      refine x_iload (E_X11_isWord_0 10 rfl) rfl ?_
      refine x_iload_n (E_X11_isWord_0 11 rfl) rfl ?_
      refine x_icmp_ge (E_X11_isWord_0 12 rfl) (by omega) (by omega) (fun c1 => ?_) (fun c1 => ?_)
      · exfalso; omega
      · refine x_iload (E_X11_isWord_0 13 rfl) rfl ?_
        refine x_if_eq (E_X11_isWord_0 14 rfl) (by omega) (fun c2 => ?_) (fun c2 => ?_)
        · exfalso; omega
        · refine x_aload_n (E_X11_isWord_0 15 rfl) rfl ?_
          refine x_getR (E_X11_isWord_0 16 rfl) fl_X11_80 rfl (by decide) rfl ?_
          refine x_aload_n (E_X11_isWord_0 17 rfl) rfl ?_
          refine x_getIe (v := σ 114 33) (E_X11_isWord_0 18 rfl) fl_X11_279 rfl (by decide) rfl ?_
          refine x_iload (E_X11_isWord_0 19 rfl) rfl ?_
          refine x_iadd (E_X11_isWord_0 20 rfl) ?_
          refine x_ialde (f := σ 138) (E_X11_isWord_0 21 rfl) rfl (by decide) (by omega) rfl ?_
          refine x_iload (E_X11_isWord_0 22 rfl) rfl ?_
          refine x_if_ne (E_X11_isWord_0 23 rfl) (by omega) (fun c3 => ?_) (fun c3 => ?_)
          · refine x_iload (E_X11_isWord_0 26 rfl) rfl ?_
            refine x_iconst (E_X11_isWord_0 27 rfl) ?_
            refine x_icmp_ne (E_X11_isWord_0 28 rfl) (by omega) (by decide) (fun c4 => ?_) (fun c4 => ?_)
            · refine x_iload (E_X11_isWord_0 31 rfl) rfl ?_
              refine x_iconst (E_X11_isWord_0 32 rfl) ?_
              refine x_icmp_ne (E_X11_isWord_0 33 rfl) (by omega) (by decide) (fun c5 => ?_) (fun c5 => ?_)
              · refine x_iload (E_X11_isWord_0 36 rfl) rfl ?_
                refine x_iconst (E_X11_isWord_0 37 rfl) ?_
                refine x_icmp_ne (E_X11_isWord_0 38 rfl) (by omega) (by decide) (fun c6 => ?_) (fun c6 => ?_)
                · refine x_iload (E_X11_isWord_0 41 rfl) rfl ?_
                  refine x_iconst (E_X11_isWord_0 42 rfl) ?_
                  refine x_icmp_ne (E_X11_isWord_0 43 rfl) (by omega) (by decide) (fun c7 => ?_) (fun c7 => ?_)
                  · refine x_iload (E_X11_isWord_0 46 rfl) rfl ?_
                    obtain rfl : i = 5 := by omega
                    exact nxt g5 rfl k5
                  · refine x_iload (E_X11_isWord_0 44 rfl) rfl ?_
                    refine x_goto (E_X11_isWord_0 45 rfl) ?_
                    obtain rfl : i = 4 := by omega
                    exact nxt g4 rfl k4
                · refine x_iload (E_X11_isWord_0 39 rfl) rfl ?_
                  refine x_goto (E_X11_isWord_0 40 rfl) ?_
                  obtain rfl : i = 3 := by omega
                  exact nxt g3 rfl k3
              · refine x_iload (E_X11_isWord_0 34 rfl) rfl ?_
                refine x_goto (E_X11_isWord_0 35 rfl) ?_
                obtain rfl : i = 2 := by omega
                exact nxt g2 rfl k2
            · refine x_iload_n (E_X11_isWord_0 29 rfl) rfl ?_
              refine x_goto (E_X11_isWord_0 30 rfl) ?_
              obtain rfl : i = 1 := by omega
              exact nxt g1 rfl k1
          · refine x_iload_n (E_X11_isWord_0 24 rfl) rfl ?_
            refine x_goto (E_X11_isWord_0 25 rfl) ?_
            obtain rfl : i = 0 := by omega
            exact nxt g0 rfl k0
  refine x_aload_n (E_X11_isWord_0 0 rfl) rfl ?_
  refine x_getIe (v := σ 114 34) (E_X11_isWord_0 1 rfl) fl_X11_286 rfl (by decide) rfl ?_
  refine x_iload_n (E_X11_isWord_0 2 rfl) rfl ?_
  refine x_icmp_ne (E_X11_isWord_0 3 rfl) (by omega) (by omega) (fun c1 => ?_) (fun c1 => ?_)
  · refine x_iconst (E_X11_isWord_0 6 rfl) ?_
    refine x_istore (E_X11_isWord_0 7 rfl) rfl ?_
    refine x_iconst (E_X11_isWord_0 8 rfl) ?_
    refine x_istore (E_X11_isWord_0 9 rfl) rfl ?_
    exact fin 0 0 (by decide) (fun _ => rfl) (Or.inr ⟨rfl, fun h => by omega⟩)
  · refine x_iconst (E_X11_isWord_0 4 rfl) ?_
    refine x_goto (E_X11_isWord_0 5 rfl) ?_
    refine x_istore (E_X11_isWord_0 7 rfl) rfl ?_
    refine x_iconst (E_X11_isWord_0 8 rfl) ?_
    refine x_istore (E_X11_isWord_0 9 rfl) rfl ?_
    exact loop (by omega) n 0 (by omega) (fun j h => absurd h (by omega))

set_option maxHeartbeats 1000000 in
theorem c_X11_takeNumber {most : Int} (hm : 0 ≤ most ∧ most ≤ 9999) (hf : σ 114 31 = 0) (ht : TxOk (σ 114 29) (σ 138)) (h0 : 0 ≤ σ 114 30 ∧ σ 114 30 ≤ σ 114 29) : CI l G M_X11_takeNumber 1 [vr 114, vi most] σ (fun z τ => τ 114 33 = (blS (σ 138) (σ 114 29) (σ 114 30)) ∧ τ 114 30 = (deS (σ 138) (σ 114 29) (σ 114 30)) ∧ τ 114 31 = (nfS (σ 138) (σ 114 29) most (σ 114 30)) ∧ ((nfS (σ 138) (σ 114 29) most (σ 114 30)) ≠ 0 → τ 114 32 = (blS (σ 138) (σ 114 29) (σ 114 30))) ∧ ((nfS (σ 138) (σ 114 29) most (σ 114 30)) = 0 → τ 114 32 = σ 114 32 ∧ z = nmS (σ 138) (σ 114 29) (σ 114 30)) ∧ rgi z ∧ Fr [114] σ τ ∧ Fo 114 [30, 31, 32, 33] σ τ) := by
  have h160 := ht.1
  have br := bl_rg (tx := σ 138) h0.2
  have dr := de_rg (tx := σ 138) h0.2
  have dg := (scS_all (tx := σ 138) (lo := 48) (hi := 57) _ rfl br.2).2
  have nr := nm_rg (tx := σ 138) h0.2
  refine Ct.of rfl (Nat.le_of_ble_eq_true rfl) ?_
  have fin : ∀ (x v : Int) (τ : Nat → Int → Int), (blS (σ 138) (σ 114 29) (σ 114 30)) < (deS (σ 138) (σ 114 29) (σ 114 30)) → (0 ≤ v ∧ v ≤ 99999) → ((deS (σ 138) (σ 114 29) (σ 114 30)) - (blS (σ 138) (σ 114 29) (σ 114 30)) ≤ 4 → v = nmS (σ 138) (σ 114 29) (σ 114 30)) → τ 114 33 = (blS (σ 138) (σ 114 29) (σ 114 30)) → τ 114 30 = (deS (σ 138) (σ 114 29) (σ 114 30)) → τ 114 31 = 0 → τ 114 32 = σ 114 32 → Fr [114] σ τ → Fo 114 [30, 31, 32, 33] σ τ → XI l G M_X11_takeNumber 1 124 [some (vr 114), some (vi most), some (vi x), some (vi v), none] [] τ (fun z τ => τ 114 33 = (blS (σ 138) (σ 114 29) (σ 114 30)) ∧ τ 114 30 = (deS (σ 138) (σ 114 29) (σ 114 30)) ∧ τ 114 31 = (nfS (σ 138) (σ 114 29) most (σ 114 30)) ∧ ((nfS (σ 138) (σ 114 29) most (σ 114 30)) ≠ 0 → τ 114 32 = (blS (σ 138) (σ 114 29) (σ 114 30))) ∧ ((nfS (σ 138) (σ 114 29) most (σ 114 30)) = 0 → τ 114 32 = σ 114 32 ∧ z = nmS (σ 138) (σ 114 29) (σ 114 30)) ∧ rgi z ∧ Fr [114] σ τ ∧ Fo 114 [30, 31, 32, 33] σ τ) := by
    intro x v τ hd hv hnm t33 t30 t31 t32 hF hO
    refine x_aload_n (E_X11_takeNumber_1 6 rfl) rfl ?_
    refine x_aload_n (E_X11_takeNumber_1 7 rfl) rfl ?_
    refine x_getIe (v := τ 114 30) (E_X11_takeNumber_1 8 rfl) fl_X11_269 rfl (by decide) rfl ?_
    refine x_aload_n (E_X11_takeNumber_1 9 rfl) rfl ?_
    refine x_getIe (v := τ 114 33) (E_X11_takeNumber_1 10 rfl) fl_X11_279 rfl (by decide) rfl ?_
    refine x_isub (E_X11_takeNumber_1 11 rfl) ?_
    refine x_iconst (E_X11_takeNumber_1 12 rfl) ?_
    refine x_icmp_ge (E_X11_takeNumber_1 13 rfl) (by omega) (by decide) (fun c1 => ?_) (fun c1 => ?_)
    · refine x_iconst (E_X11_takeNumber_1 19 rfl) ?_
      refine x_iconst (E_X11_takeNumber_1 20 rfl) ?_
      refine x_aload_n (E_X11_takeNumber_1 21 rfl) rfl ?_
      refine x_getIe (v := τ 114 33) (E_X11_takeNumber_1 22 rfl) fl_X11_279 rfl (by decide) rfl ?_
      refine z_callVi (E_X11_takeNumber_1 23 rfl) ml_X11_293 mv_X11_want rfl (by decide) (by decide) (c_X11_want (by omega) (by decide) (by decide) (by omega)) (by decide) rfl rfl (Nat.le_of_ble_eq_true rfl) (fun z9 τ9 h9 => ?_)
      refine x_istore (E_X11_takeNumber_1 24 rfl) rfl ?_
      refine x_iload_n (E_X11_takeNumber_1 25 rfl) rfl ?_
      refine z_iret (E_X11_takeNumber_1 26 rfl) trivial ?_
      have nf : (nfS (σ 138) (σ 114 29) most (σ 114 30)) = 2 := by
        unfold nfS
        rw [if_neg (by omega), if_pos (by omega)]
      rcases h9 with ⟨a, -, -⟩ | ⟨-, a, -⟩ | ⟨-, -, -, rfl⟩
      · exact absurd t31 a
      · exact absurd rfl a
      · exact ⟨t33, t30, nf.symm, fun _ => t33, fun h => absurd (nf.symm.trans h) (by decide), by omega, (hF.up (by decide)).up (by decide), (hO.up (by decide)).up (by decide)⟩
    · refine x_iload_n (E_X11_takeNumber_1 14 rfl) rfl ?_
      refine x_iload_n (E_X11_takeNumber_1 15 rfl) rfl ?_
      refine x_icmp_gt (E_X11_takeNumber_1 16 rfl) (by omega) (by omega) (fun c2 => ?_) (fun c2 => ?_)
      · refine x_iconst (E_X11_takeNumber_1 19 rfl) ?_
        refine x_iconst (E_X11_takeNumber_1 20 rfl) ?_
        refine x_aload_n (E_X11_takeNumber_1 21 rfl) rfl ?_
        refine x_getIe (v := τ 114 33) (E_X11_takeNumber_1 22 rfl) fl_X11_279 rfl (by decide) rfl ?_
        refine z_callVi (E_X11_takeNumber_1 23 rfl) ml_X11_293 mv_X11_want rfl (by decide) (by decide) (c_X11_want (by omega) (by decide) (by decide) (by omega)) (by decide) rfl rfl (Nat.le_of_ble_eq_true rfl) (fun z9 τ9 h9 => ?_)
        refine x_istore (E_X11_takeNumber_1 24 rfl) rfl ?_
        refine x_iload_n (E_X11_takeNumber_1 25 rfl) rfl ?_
        refine z_iret (E_X11_takeNumber_1 26 rfl) trivial ?_
        have nf : (nfS (σ 138) (σ 114 29) most (σ 114 30)) = 2 := by
          unfold nfS
          rw [if_neg (by omega), if_pos (by have := hnm (by omega); omega)]
        rcases h9 with ⟨a, -, -⟩ | ⟨-, a, -⟩ | ⟨-, -, -, rfl⟩
        · exact absurd t31 a
        · exact absurd rfl a
        · exact ⟨t33, t30, nf.symm, fun _ => t33, fun h => absurd (nf.symm.trans h) (by decide), by omega, (hF.up (by decide)).up (by decide), (hO.up (by decide)).up (by decide)⟩
      · refine x_iconst (E_X11_takeNumber_1 17 rfl) ?_
        refine x_goto (E_X11_takeNumber_1 18 rfl) ?_
        refine x_iconst (E_X11_takeNumber_1 20 rfl) ?_
        refine x_aload_n (E_X11_takeNumber_1 21 rfl) rfl ?_
        refine x_getIe (v := τ 114 33) (E_X11_takeNumber_1 22 rfl) fl_X11_279 rfl (by decide) rfl ?_
        refine z_callVi (E_X11_takeNumber_1 23 rfl) ml_X11_293 mv_X11_want rfl (by decide) (by decide) (c_X11_want (by omega) (by decide) (by decide) (by omega)) (by decide) rfl rfl (Nat.le_of_ble_eq_true rfl) (fun z9 τ9 h9 => ?_)
        refine x_istore (E_X11_takeNumber_1 24 rfl) rfl ?_
        refine x_iload_n (E_X11_takeNumber_1 25 rfl) rfl ?_
        refine z_iret (E_X11_takeNumber_1 26 rfl) trivial ?_
        have nf : (nfS (σ 138) (σ 114 29) most (σ 114 30)) = 0 := by
          unfold nfS
          rw [if_neg (by omega), if_neg (by have := hnm (by omega); omega)]
        rcases h9 with ⟨a, -, -⟩ | ⟨-, -, -, rfl⟩ | ⟨-, a, -, -⟩
        · exact absurd t31 a
        · exact ⟨t33, t30, by rw [nf]; exact t31, fun h => absurd nf h, fun _ => ⟨t32, hnm (by omega)⟩, by omega, hF, hO⟩
        · exact absurd a (by decide)
  have loop : ∀ (m : Nat) (x v : Int) (τ : Nat → Int → Int), (σ 114 29 - τ 114 30).toNat = m → ((blS (σ 138) (σ 114 29) (σ 114 30)) ≤ τ 114 30 ∧ τ 114 30 ≤ (deS (σ 138) (σ 114 29) (σ 114 30))) → scS (σ 138) (σ 114 29) 48 57 (τ 114 30) = (deS (σ 138) (σ 114 29) (σ 114 30)) → (blS (σ 138) (σ 114 29) (σ 114 30)) < (deS (σ 138) (σ 114 29) (σ 114 30)) → (0 ≤ v ∧ v ≤ 99999) → (τ 114 30 - (blS (σ 138) (σ 114 29) (σ 114 30)) ≤ 4 → v = nvS (σ 138) (blS (σ 138) (σ 114 29) (σ 114 30)) (τ 114 30 - (blS (σ 138) (σ 114 29) (σ 114 30))).toNat) → τ 114 33 = (blS (σ 138) (σ 114 29) (σ 114 30)) → τ 114 31 = 0 → τ 114 32 = σ 114 32 → Fr [114] σ τ → Fo 114 [30, 31, 32, 33] σ τ → XI l G M_X11_takeNumber 1 49 [some (vr 114), some (vi most), some (vi x), some (vi v), none] [] τ (fun z τ => τ 114 33 = (blS (σ 138) (σ 114 29) (σ 114 30)) ∧ τ 114 30 = (deS (σ 138) (σ 114 29) (σ 114 30)) ∧ τ 114 31 = (nfS (σ 138) (σ 114 29) most (σ 114 30)) ∧ ((nfS (σ 138) (σ 114 29) most (σ 114 30)) ≠ 0 → τ 114 32 = (blS (σ 138) (σ 114 29) (σ 114 30))) ∧ ((nfS (σ 138) (σ 114 29) most (σ 114 30)) = 0 → τ 114 32 = σ 114 32 ∧ z = nmS (σ 138) (σ 114 29) (σ 114 30)) ∧ rgi z ∧ Fr [114] σ τ ∧ Fo 114 [30, 31, 32, 33] σ τ) := by
    intro m
    induction m using Nat.strongRecOn with
    | _ m ih =>
    intro x v τ hn hp hs hd hv hnm t33 t31 t32 hF hO
    have e1 := hO 29 (by decide)
    have e42 := congrFun (hF 138 (by decide)) (τ 114 30)
    have done : ¬ (τ 114 30 < σ 114 29 ∧ 48 ≤ σ 138 (τ 114 30) ∧ σ 138 (τ 114 30) ≤ 57) → XI l G M_X11_takeNumber 1 124 [some (vr 114), some (vi most), some (vi x), some (vi v), none] [] τ (fun z τ => τ 114 33 = (blS (σ 138) (σ 114 29) (σ 114 30)) ∧ τ 114 30 = (deS (σ 138) (σ 114 29) (σ 114 30)) ∧ τ 114 31 = (nfS (σ 138) (σ 114 29) most (σ 114 30)) ∧ ((nfS (σ 138) (σ 114 29) most (σ 114 30)) ≠ 0 → τ 114 32 = (blS (σ 138) (σ 114 29) (σ 114 30))) ∧ ((nfS (σ 138) (σ 114 29) most (σ 114 30)) = 0 → τ 114 32 = σ 114 32 ∧ z = nmS (σ 138) (σ 114 29) (σ 114 30)) ∧ rgi z ∧ Fr [114] σ τ ∧ Fo 114 [30, 31, 32, 33] σ τ) := fun h => by
      rw [scS_off h] at hs
      refine fin x v τ hd hv (fun q => ?_) t33 hs t31 t32 hF hO
      rw [hnm (by omega), hs]
      unfold nmS
      rw [show min 4 ((deS (σ 138) (σ 114 29) (σ 114 30)) - (blS (σ 138) (σ 114 29) (σ 114 30))) = (deS (σ 138) (σ 114 29) (σ 114 30)) - (blS (σ 138) (σ 114 29) (σ 114 30)) by omega]
    refine x_aload_n (E_X11_takeNumber_0 27 rfl) rfl ?_
    refine x_getIe (v := τ 114 30) (E_X11_takeNumber_0 28 rfl) fl_X11_269 rfl (by decide) rfl ?_
    refine x_aload_n (E_X11_takeNumber_0 29 rfl) rfl ?_
    refine x_getIe (v := τ 114 29) (E_X11_takeNumber_0 30 rfl) fl_X11_264 rfl (by decide) rfl ?_
    refine x_icmp_ge (E_X11_takeNumber_0 31 rfl) (by omega) (by omega) (fun c1 => ?_) (fun c1 => ?_)
    · exact done (by omega)
    · have t9 := ht.2 (τ 114 30) (by omega) (by omega)
      refine x_aload_n (E_X11_takeNumber_0 32 rfl) rfl ?_
      refine x_getR (E_X11_takeNumber_0 33 rfl) fl_X11_80 rfl (by decide) rfl ?_
      refine x_aload_n (E_X11_takeNumber_0 34 rfl) rfl ?_
      refine x_getIe (v := τ 114 30) (E_X11_takeNumber_0 35 rfl) fl_X11_269 rfl (by decide) rfl ?_
      refine x_ialde (f := τ 138) (E_X11_takeNumber_0 36 rfl) rfl (by decide) (by omega) rfl ?_
      refine x_i2l (E_X11_takeNumber_0 37 rfl) (by omega) ?_
      refine x_ldc2 (z := 48) (E_X11_takeNumber_0 38 rfl) kc_X11_289 (by decide) ?_
      refine x_ldc2 (z := 57) (E_X11_takeNumber_0 39 rfl) kc_X11_291 (by decide) ?_
      refine z_callSi (E_X11_takeNumber_0 40 rfl) ml_X11_197 ms_X11_in (c_X11_in (by omega) (by omega) (by omega)) (by decide) rfl rfl (Nat.le_of_ble_eq_true rfl) (fun z9 τ9 h9 => ?_)
      obtain ⟨rfl, ⟨rfl, c2⟩ | ⟨rfl, c2⟩⟩ := h9
      · refine x_if_eq (E_X11_takeNumber_0 41 rfl) (by decide) (fun c9 => absurd c9 (by decide)) (fun _ => ?_)
        refine x_iload_n (E_X11_takeNumber_0 42 rfl) rfl ?_
        refine x_sipush (z := 9999) (E_X11_takeNumber_0 43 rfl) (by decide) ?_
        refine x_icmp_le (E_X11_takeNumber_0 44 rfl) (by omega) (by decide) (fun c3 => ?_) (fun c3 => ?_)
        · refine x_bipush (z := 10) (E_X11_takeNumber_0 47 rfl) (by decide) ?_
          refine x_iload_n (E_X11_takeNumber_0 48 rfl) rfl ?_
          refine x_imul (E_X11_takeNumber_0 49 rfl) ?_
          refine x_aload_n (E_X11_takeNumber_0 50 rfl) rfl ?_
          refine x_getR (E_X11_takeNumber_0 51 rfl) fl_X11_80 rfl (by decide) rfl ?_
          refine x_aload_n (E_X11_takeNumber_0 52 rfl) rfl ?_
          refine x_getIe (v := τ 114 30) (E_X11_takeNumber_0 53 rfl) fl_X11_269 rfl (by decide) rfl ?_
          refine x_ialde (f := τ 138) (E_X11_takeNumber_0 54 rfl) rfl (by decide) (by omega) rfl ?_
          refine x_iadd (E_X11_takeNumber_0 55 rfl) ?_
          refine x_bipush (z := 48) (E_X11_takeNumber_0 56 rfl) (by decide) ?_
          refine x_isub (E_X11_takeNumber_0 57 rfl) ?_
          refine x_istore_n (E_X11_takeNumber_0 58 rfl) rfl ?_
          refine x_aload_n (E_X11_takeNumber_0 59 rfl) rfl ?_
          refine x_dupr (E_X11_takeNumber_1 0 rfl) ?_
          refine x_getIe (v := τ 114 30) (E_X11_takeNumber_1 1 rfl) fl_X11_269 rfl (by decide) rfl ?_
          refine x_iconst (E_X11_takeNumber_1 2 rfl) ?_
          refine x_iadd (E_X11_takeNumber_1 3 rfl) ?_
          refine x_putI (E_X11_takeNumber_1 4 rfl) fl_X11_269 rfl (by decide) ?_
          refine x_goto (E_X11_takeNumber_1 5 rfl) ?_
          have c9 : τ 114 30 < σ 114 29 ∧ 48 ≤ σ 138 (τ 114 30) ∧ σ 138 (τ 114 30) ≤ 57 := by omega
          have hs2 := hs
          rw [scS_on c9] at hs2
          have lt : τ 114 30 < (deS (σ 138) (σ 114 29) (σ 114 30)) := by
            have := scS_rg (tx := σ 138) (lo := 48) (hi := 57) (show τ 114 30 + 1 ≤ σ 114 29 by omega)
            omega
          refine ih (m - 1) (by omega) _ _ _ ?_ ?_ hs2 hd (by omega) ?_ t33 t31 t32 (hF.up (by decide)) (hO.up (by decide))
          · show (σ 114 29 - (τ 114 30 + 1)).toNat = _
            omega
          · show (blS (σ 138) (σ 114 29) (σ 114 30)) ≤ τ 114 30 + 1 ∧ τ 114 30 + 1 ≤ _
            omega
          · intro q
            have q : τ 114 30 + 1 - (blS (σ 138) (σ 114 29) (σ 114 30)) ≤ 4 := q
            show 10 * v + τ 138 (τ 114 30) - 48 = nvS (σ 138) (blS (σ 138) (σ 114 29) (σ 114 30)) (τ 114 30 + 1 - (blS (σ 138) (σ 114 29) (σ 114 30))).toNat
            rw [show (τ 114 30 + 1 - (blS (σ 138) (σ 114 29) (σ 114 30))).toNat = (τ 114 30 - (blS (σ 138) (σ 114 29) (σ 114 30))).toNat + 1 by omega]
            show _ = nvS (σ 138) (blS (σ 138) (σ 114 29) (σ 114 30)) (τ 114 30 - (blS (σ 138) (σ 114 29) (σ 114 30))).toNat * 10 + σ 138 ((blS (σ 138) (σ 114 29) (σ 114 30)) + ((τ 114 30 - (blS (σ 138) (σ 114 29) (σ 114 30))).toNat : Nat)) - 48
            rw [← hnm (by omega), show (blS (σ 138) (σ 114 29) (σ 114 30)) + (((τ 114 30 - (blS (σ 138) (σ 114 29) (σ 114 30))).toNat : Nat) : Int) = τ 114 30 by omega]
            omega
        · refine x_iload_n (E_X11_takeNumber_0 45 rfl) rfl ?_
          refine x_goto (E_X11_takeNumber_0 46 rfl) ?_
          refine x_istore_n (E_X11_takeNumber_0 58 rfl) rfl ?_
          refine x_aload_n (E_X11_takeNumber_0 59 rfl) rfl ?_
          refine x_dupr (E_X11_takeNumber_1 0 rfl) ?_
          refine x_getIe (v := τ 114 30) (E_X11_takeNumber_1 1 rfl) fl_X11_269 rfl (by decide) rfl ?_
          refine x_iconst (E_X11_takeNumber_1 2 rfl) ?_
          refine x_iadd (E_X11_takeNumber_1 3 rfl) ?_
          refine x_putI (E_X11_takeNumber_1 4 rfl) fl_X11_269 rfl (by decide) ?_
          refine x_goto (E_X11_takeNumber_1 5 rfl) ?_
          have c9 : τ 114 30 < σ 114 29 ∧ 48 ≤ σ 138 (τ 114 30) ∧ σ 138 (τ 114 30) ≤ 57 := by omega
          have hs2 := hs
          rw [scS_on c9] at hs2
          have lt : τ 114 30 < (deS (σ 138) (σ 114 29) (σ 114 30)) := by
            have := scS_rg (tx := σ 138) (lo := 48) (hi := 57) (show τ 114 30 + 1 ≤ σ 114 29 by omega)
            omega
          refine ih (m - 1) (by omega) _ _ _ ?_ ?_ hs2 hd (by omega) ?_ t33 t31 t32 (hF.up (by decide)) (hO.up (by decide))
          · show (σ 114 29 - (τ 114 30 + 1)).toNat = _
            omega
          · show (blS (σ 138) (σ 114 29) (σ 114 30)) ≤ τ 114 30 + 1 ∧ τ 114 30 + 1 ≤ _
            omega
          · intro q
            have q : τ 114 30 + 1 - (blS (σ 138) (σ 114 29) (σ 114 30)) ≤ 4 := q
            exfalso
            have nvr := nv_rg (tx := σ 138) (s := (blS (σ 138) (σ 114 29) (σ 114 30))) (n := (τ 114 30 - (blS (σ 138) (σ 114 29) (σ 114 30))).toNat) (by omega) (fun j x y => dg.1 j x (by show j < (deS (σ 138) (σ 114 29) (σ 114 30)); omega))
            have p10 : (10 : Int) ^ (τ 114 30 - (blS (σ 138) (σ 114 29) (σ 114 30))).toNat ≤ 10000 := (by decide : ∀ k : Nat, k ≤ 4 → (10 : Int) ^ k ≤ 10000) _ (by omega)
            have := hnm (by omega)
            omega
      · refine x_if_eq (E_X11_takeNumber_0 41 rfl) (by decide) (fun _ => ?_) (fun c9 => absurd (by decide) c9)
        exact done (by omega)
  refine x_aload_n (E_X11_takeNumber_0 0 rfl) rfl ?_
  refine x_getIe (v := σ 114 31) (E_X11_takeNumber_0 1 rfl) fl_X11_272 rfl (by decide) rfl ?_
  refine x_if_le (E_X11_takeNumber_0 2 rfl) (by omega) (fun c1 => ?_) (fun c1 => ?_)
  · refine x_aload_n (E_X11_takeNumber_0 5 rfl) rfl ?_
    refine z_callVi (E_X11_takeNumber_0 6 rfl) ml_X11_275 mv_X11_here rfl (by decide) (by decide) (c_X11_here ht h0) (by decide) rfl rfl (Nat.le_of_ble_eq_true rfl) (fun v9 τ9 h9 => ?_)
    obtain ⟨z9, b1, b2, b3⟩ := h9
    have tb := ht.2 (blS (σ 138) (σ 114 29) (σ 114 30))
    have v9r : rgi v9 := by rcases z9 with z9 | z9 <;> omega
    have v9l : rgl v9 := by omega
    have f9 := b3 31 (by decide)
    refine x_istore_n (E_X11_takeNumber_0 7 rfl) rfl ?_
    refine x_aload_n (E_X11_takeNumber_0 8 rfl) rfl ?_
    refine x_aload_n (E_X11_takeNumber_0 9 rfl) rfl ?_
    refine x_getIe (v := τ9 114 30) (E_X11_takeNumber_0 10 rfl) fl_X11_269 rfl (by decide) rfl ?_
    refine x_putI (E_X11_takeNumber_0 11 rfl) fl_X11_279 rfl (by decide) ?_
    refine x_aload_n (E_X11_takeNumber_0 12 rfl) rfl ?_
    refine x_iload_n (E_X11_takeNumber_0 13 rfl) rfl ?_
    refine x_i2l (E_X11_takeNumber_0 14 rfl) (by omega) ?_
    refine x_ldc2 (z := 48) (E_X11_takeNumber_0 15 rfl) kc_X11_289 (by decide) ?_
    refine x_ldc2 (z := 57) (E_X11_takeNumber_0 16 rfl) kc_X11_291 (by decide) ?_
    refine z_callSi (E_X11_takeNumber_0 17 rfl) ml_X11_197 ms_X11_in (c_X11_in (by omega) (by omega) (by omega)) (by decide) rfl rfl (Nat.le_of_ble_eq_true rfl) (fun z9 τ9 h9 => ?_)
    obtain ⟨rfl, ⟨rfl, c2⟩ | ⟨rfl, c2⟩⟩ := h9
    · refine x_iconst (E_X11_takeNumber_0 18 rfl) ?_
      refine x_aload_n (E_X11_takeNumber_0 19 rfl) rfl ?_
      refine x_getIe (v := τ9 114 30) (E_X11_takeNumber_0 20 rfl) fl_X11_269 rfl (by decide) rfl ?_
      refine z_callVi (E_X11_takeNumber_0 21 rfl) ml_X11_293 mv_X11_want rfl (by decide) (by decide) (c_X11_want (by omega) (by decide) (by decide) (show rgi (τ9 114 31) by omega)) (by decide) rfl rfl (Nat.le_of_ble_eq_true rfl) (fun z8 τ8 h8 => ?_)
      have c9 : (blS (σ 138) (σ 114 29) (σ 114 30)) < σ 114 29 ∧ 48 ≤ σ 138 (blS (σ 138) (σ 114 29) (σ 114 30)) ∧ σ 138 (blS (σ 138) (σ 114 29) (σ 114 30)) ≤ 57 := by rcases z9 with z9 | z9 <;> omega
      have lt : (blS (σ 138) (σ 114 29) (σ 114 30)) < (deS (σ 138) (σ 114 29) (σ 114 30)) := by
        have e : (deS (σ 138) (σ 114 29) (σ 114 30)) = scS (σ 138) (σ 114 29) 48 57 ((blS (σ 138) (σ 114 29) (σ 114 30)) + 1) := scS_on c9
        have := scS_rg (tx := σ 138) (lo := 48) (hi := 57) (show (blS (σ 138) (σ 114 29) (σ 114 30)) + 1 ≤ σ 114 29 by omega)
        omega
      rcases h8 with ⟨a, -, -⟩ | ⟨-, -, rfl, rfl⟩ | ⟨-, a, -, -⟩
      · exact absurd (show τ9 114 31 = 0 by omega) a
      · refine x_if_ne (E_X11_takeNumber_0 22 rfl) (by decide) (fun _ => ?_) (fun c9 => absurd c9 (by decide))
        refine x_iconst (E_X11_takeNumber_0 25 rfl) ?_
        refine x_istore_n (E_X11_takeNumber_0 26 rfl) rfl ?_
        refine loop _ _ 0 _ rfl ?_ ?_ lt (by decide) (fun _ => ?_) b1 (f9.trans hf) (b3 32 (by decide)) (b2.up (by decide)) ((b3.sub (by decide)).up (by decide))
        · show (blS (σ 138) (σ 114 29) (σ 114 30)) ≤ τ9 114 30 ∧ τ9 114 30 ≤ _
          omega
        · show scS (σ 138) (σ 114 29) 48 57 (τ9 114 30) = _
          rw [b1]; rfl
        · show (0 : Int) = nvS (σ 138) (blS (σ 138) (σ 114 29) (σ 114 30)) (τ9 114 30 - (blS (σ 138) (σ 114 29) (σ 114 30))).toNat
          rw [b1, Int.sub_self]; rfl
      · exact absurd a (by decide)
    · refine x_iconst (E_X11_takeNumber_0 18 rfl) ?_
      refine x_aload_n (E_X11_takeNumber_0 19 rfl) rfl ?_
      refine x_getIe (v := τ9 114 30) (E_X11_takeNumber_0 20 rfl) fl_X11_269 rfl (by decide) rfl ?_
      refine z_callVi (E_X11_takeNumber_0 21 rfl) ml_X11_293 mv_X11_want rfl (by decide) (by decide) (c_X11_want (by omega) (by decide) (by decide) (show rgi (τ9 114 31) by omega)) (by decide) rfl rfl (Nat.le_of_ble_eq_true rfl) (fun z8 τ8 h8 => ?_)
      have dB : (deS (σ 138) (σ 114 29) (σ 114 30)) = (blS (σ 138) (σ 114 29) (σ 114 30)) := scS_off (by rcases z9 with z9 | z9 <;> omega)
      have nf : (nfS (σ 138) (σ 114 29) most (σ 114 30)) = 1 := by
        unfold nfS
        rw [if_pos dB]
      rcases h8 with ⟨a, -, -⟩ | ⟨-, a, -⟩ | ⟨-, -, rfl, rfl⟩
      · exact absurd (show τ9 114 31 = 0 by omega) a
      · exact absurd rfl a
      · refine x_if_ne (E_X11_takeNumber_0 22 rfl) (by decide) (fun c9 => absurd c9 (by decide)) (fun _ => ?_)
        refine x_iconst (E_X11_takeNumber_0 23 rfl) ?_
        refine z_iret (E_X11_takeNumber_0 24 rfl) trivial ?_
        refine ⟨b1, show τ9 114 30 = _ by omega, nf.symm, fun _ => b1, fun h => absurd (nf.symm.trans h) (by decide), by decide, ((b2.up (by decide)).up (by decide)).up (by decide), (((b3.sub (by decide)).up (by decide)).up (by decide)).up (by decide)⟩
  · refine x_iconst (E_X11_takeNumber_0 3 rfl) ?_
    refine z_iret (E_X11_takeNumber_0 4 rfl) trivial ?_
    exfalso; omega

