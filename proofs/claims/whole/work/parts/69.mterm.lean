/-! the model's term -/
variable {l : Launch} {G : GC} {σ : Nat → Int → Int}

theorem semR_ck {tx : Int → Int} {len p ck fi se vl : Int} (h : (semR tx len p ck fi se vl).1 = 0) : (semR tx len p ck fi se vl).2.2.2.1 = ck := by
  unfold semR at h ⊢
  split at h
  · rename_i q; rw [if_pos q]
  · exact absurd h (show (1 : Int) ≠ 0 by decide)
theorem clR_ck {tx : Int → Int} {len nt kd p : Int} (hk : 0 ≤ kd ∧ kd ≤ 3) (h : (clR tx len nt kd p).1 = 0) : (clR tx len nt kd p).2.2.2.1 = kd := by
  unfold clR at h ⊢
  by_cases k0 : kd = 0
  · rw [if_pos k0] at h ⊢
    unfold letR at h ⊢
    rw [k0]
    repeat' split at h
    · exact absurd h (show (1 : Int) ≠ 0 by decide)
    · exact absurd h (by assumption)
    · rename_i a b; rw [if_neg a, if_neg b]; exact semR_ck h
  · rw [if_neg k0] at h ⊢
    by_cases k1 : kd = 1
    · rw [if_pos k1] at h ⊢
      unfold dryR at h ⊢
      rw [k1]
      repeat' split at h
      · exact absurd h (by assumption)
      · exact absurd h (show (1 : Int) ≠ 0 by decide)
      · exact absurd h (by assumption)
      · rename_i a b c; rw [if_neg a, if_neg b, if_neg c]; exact semR_ck h
    · rw [if_neg k1] at h ⊢
      by_cases k2 : kd = 2
      · rw [if_pos k2] at h ⊢
        unfold rnkR at h ⊢
        rw [k2]
        split at h
        · exact absurd h (by assumption)
        · rename_i a; rw [if_neg a]; exact semR_ck h
      · rw [if_neg k2] at h ⊢
        unfold strR at h ⊢
        rw [show kd = 3 by omega]
        repeat' split at h
        · exact absurd h (by assumption)
        · exact absurd h (show (3 : Int) ≠ 0 by decide)
        · rename_i a b; rw [if_neg a, if_neg b]; exact semR_ck h
def TmQ (d : Int) (σ : Nat → Int → Int) (z : Int) (τ : Nat → Int → Int) : Prop := (¬ (0 ≤ d ∧ d ≤ 2000) ∧ z = -1002 ∧ τ = σ) ∨ ((0 ≤ d ∧ d ≤ 2000) ∧ σ 114 22 = 8 ∧ z = -1004 ∧ τ = σ) ∨ ((0 ≤ d ∧ d ≤ 2000) ∧ σ 114 22 < 8 ∧ ∃ N : Nat, N ≤ 10 ∧ StopA (σ 138) (σ 114 29) (σ 114 22) N ∧ (τ 114 29 = 0 ∧ τ 114 32 = (fltA (σ 138) (σ 114 29) (σ 114 22) N).2) ∧ (∀ i, i < 10 * σ 114 22 → τ 135 i = σ 135 i ∧ τ 136 i = σ 136 i ∧ τ 137 i = σ 137 i) ∧ (((fltA (σ 138) (σ 114 29) (σ 114 22) N).1 ≠ 0 ∧ z = -10 - (fltA (σ 138) (σ 114 29) (σ 114 22) N).1 ∧ τ 133 = σ 133 ∧ τ 134 = σ 134 ∧ τ 114 22 = σ 114 22) ∨ ((fltA (σ 138) (σ 114 29) (σ 114 22) N).1 = 0 ∧ z = σ 114 22 ∧ τ 133 = updI (σ 133) (σ 114 22) d ∧ τ 134 = updI (σ 134) (σ 114 22) N ∧ τ 114 22 = σ 114 22 + 1 ∧ (∀ j : Nat, j < N → τ 135 (10 * σ 114 22 + j) = (clA (σ 138) (σ 114 29) (σ 114 22) j).2.2.2.1 ∧ τ 136 (10 * σ 114 22 + j) = (clA (σ 138) (σ 114 29) (σ 114 22) j).2.2.2.2.1 ∧ ((clA (σ 138) (σ 114 29) (σ 114 22) j).2.2.2.1 ≠ 3 → τ 137 (10 * σ 114 22 + j) = (clA (σ 138) (σ 114 29) (σ 114 22) j).2.2.2.2.2.1)))) ∧ Fr [114, 133, 134, 135, 136, 137] σ τ ∧ Fo 114 [22, 29, 30, 31, 32, 33, 34] σ τ)
set_option maxHeartbeats 4000000 in
theorem c_X11_term {d : Int} (hd : rgi d) (hn : 0 ≤ σ 114 22 ∧ σ 114 22 ≤ 8) (ht : TxOk (σ 114 29) (σ 138)) : CI l G M_X11_term 4 [vr 114, vi d] σ (TmQ d σ) := by
  have h160 := ht.1
  refine Ct.of rfl (Nat.le_of_ble_eq_true rfl) ?_
  have fin : (0 ≤ d ∧ d ≤ 2000) → σ 114 22 < 8 → ∀ (N : Nat) (nn : Int) (o : Option AV) (τ : Nat → Int → Int), N ≤ 10 → StopA (σ 138) (σ 114 29) (σ 114 22) N → (τ 114 31 = (fltA (σ 138) (σ 114 29) (σ 114 22) N).1 ∧ τ 114 32 = (fltA (σ 138) (σ 114 29) (σ 114 22) N).2) → (∀ i, i < 10 * σ 114 22 → τ 135 i = σ 135 i ∧ τ 136 i = σ 136 i ∧ τ 137 i = σ 137 i) → ((fltA (σ 138) (σ 114 29) (σ 114 22) N).1 = 0 → nn = N ∧ (∀ j : Nat, j < N → τ 135 (10 * σ 114 22 + j) = (clA (σ 138) (σ 114 29) (σ 114 22) j).2.2.2.1 ∧ τ 136 (10 * σ 114 22 + j) = (clA (σ 138) (σ 114 29) (σ 114 22) j).2.2.2.2.1 ∧ ((clA (σ 138) (σ 114 29) (σ 114 22) j).2.2.2.1 ≠ 3 → τ 137 (10 * σ 114 22 + j) = (clA (σ 138) (σ 114 29) (σ 114 22) j).2.2.2.2.2.1))) → Fr [114, 135, 136, 137] σ τ → Fo 114 [30, 31, 32, 33, 34] σ τ → XI l G M_X11_term 4 214 [some (vr 114), some (vi d), some (vi nn), o] [] τ (TmQ d σ) := by
    intro hdd h8 N nn o τ hN hs hf hol hr hF hO
    have ff := flt_f (tx := σ 138) (len := σ 114 29) (nt := σ 114 22) (N := N)
    have e22 : τ 114 22 = σ 114 22 := hO 22 (by decide)
    have e33 : τ 133 = σ 133 := hF 133 (by decide)
    have e34 : τ 134 = σ 134 := hF 134 (by decide)
    refine x_aload_n (E_X11_term_1 54 rfl) rfl ?_
    refine x_iconst (E_X11_term_1 55 rfl) ?_
    refine x_putI (E_X11_term_1 56 rfl) fl_X11_264 rfl (by decide) ?_
    refine x_aload_n (E_X11_term_1 57 rfl) rfl ?_
    refine x_getIe (v := τ 114 31) (E_X11_term_1 58 rfl) fl_X11_272 rfl (by decide) rfl ?_
    refine x_if_le (E_X11_term_1 59 rfl) (by omega) (fun c1 => ?_) (fun c1 => ?_)
    · refine x_aload_n (E_X11_term_2 5 rfl) rfl ?_
      refine x_getR (E_X11_term_2 6 rfl) fl_X11_68 rfl (by decide) rfl ?_
      refine x_aload_n (E_X11_term_2 7 rfl) rfl ?_
      refine x_getIe (v := τ 114 22) (E_X11_term_2 8 rfl) fl_X11_323 rfl (by decide) rfl ?_
      refine x_iload_n (E_X11_term_2 9 rfl) rfl ?_
      refine x_iast (E_X11_term_2 10 rfl) rfl (by decide) (by omega) ?_
      refine x_aload_n (E_X11_term_2 11 rfl) rfl ?_
      refine x_getR (E_X11_term_2 12 rfl) fl_X11_65 rfl (by decide) rfl ?_
      refine x_aload_n (E_X11_term_2 13 rfl) rfl ?_
      refine x_getIe (v := τ 114 22) (E_X11_term_2 14 rfl) fl_X11_323 rfl (by decide) rfl ?_
      refine x_iload_n (E_X11_term_2 15 rfl) rfl ?_
      refine x_iast (E_X11_term_2 16 rfl) rfl (by decide) (by omega) ?_
      refine x_aload_n (E_X11_term_2 17 rfl) rfl ?_
      refine x_dupr (E_X11_term_2 18 rfl) ?_
      refine x_getIe (v := τ 114 22) (E_X11_term_2 19 rfl) fl_X11_323 rfl (by decide) rfl ?_
      refine x_iconst (E_X11_term_2 20 rfl) ?_
      refine x_iadd (E_X11_term_2 21 rfl) ?_
      refine x_putI (E_X11_term_2 22 rfl) fl_X11_323 rfl (by decide) ?_
      refine x_aload_n (E_X11_term_2 23 rfl) rfl ?_
      refine x_getI (E_X11_term_2 24 rfl) fl_X11_323 rfl (by decide) ?_
      refine x_iconst (E_X11_term_2 25 rfl) ?_
      refine x_isub (E_X11_term_2 26 rfl) ?_
      refine z_iret (E_X11_term_2 27 rfl) trivial ?_
      have f0 : (fltA (σ 138) (σ 114 29) (σ 114 22) N).1 = 0 := by omega
      have hr2 := hr f0
      refine Or.inr (Or.inr ⟨hdd, h8, N, hN, hs, ⟨rfl, hf.2⟩, hol, Or.inr ⟨f0, ?_, ?_, ?_, ?_, hr2.2⟩, ?_, ?_⟩)
      · show τ 114 22 + 1 - 1 = _
        omega
      · show (fun b => if b = τ 114 22 then d else τ 133 b) = _
        rw [e22, e33]; rfl
      · show (fun b => if b = τ 114 22 then nn else τ 134 b) = _
        rw [e22, e34, hr2.1]; rfl
      · show τ 114 22 + 1 = _
        rw [e22]
      · exact ((((hF.sub (by decide)).up (by decide)).up (by decide)).up (by decide)).up (by decide)
      · exact ((((hO.sub (by decide)).up (by decide)).un (by decide)).un (by decide)).up (by decide)
    · refine x_bipush (z := (-10)) (E_X11_term_2 0 rfl) (by decide) ?_
      refine x_aload_n (E_X11_term_2 1 rfl) rfl ?_
      refine x_getIe (v := τ 114 31) (E_X11_term_2 2 rfl) fl_X11_272 rfl (by decide) rfl ?_
      refine x_isub (E_X11_term_2 3 rfl) ?_
      refine z_iret (E_X11_term_2 4 rfl) trivial ?_
      refine Or.inr (Or.inr ⟨hdd, h8, N, hN, hs, ⟨rfl, hf.2⟩, hol, Or.inl ⟨by omega, ?_, e33, e34, e22⟩, ?_, ?_⟩)
      · show -10 - τ 114 31 = _
        omega
      · exact (hF.sub (by decide)).up (by decide)
      · exact (hO.sub (by decide)).up (by decide)
  have fin41 : (0 ≤ d ∧ d ≤ 2000) → σ 114 22 < 8 → ∀ (N : Nat) (nn : Int) (o : Option AV) (τ : Nat → Int → Int), N ≤ 10 → StopA (σ 138) (σ 114 29) (σ 114 22) N → (τ 114 31 = (fltA (σ 138) (σ 114 29) (σ 114 22) N).1 ∧ τ 114 32 = (fltA (σ 138) (σ 114 29) (σ 114 22) N).2) → (fltA (σ 138) (σ 114 29) (σ 114 22) N).1 ≠ 0 → (∀ i, i < 10 * σ 114 22 → τ 135 i = σ 135 i ∧ τ 136 i = σ 136 i ∧ τ 137 i = σ 137 i) → Fr [114, 135, 136, 137] σ τ → Fo 114 [30, 31, 32, 33, 34] σ τ → XI l G M_X11_term 4 41 [some (vr 114), some (vi d), some (vi nn), o] [] τ (TmQ d σ) := by
    intro hdd h8 N nn o τ hN hs hf hf0 hol hF hO
    have ff := flt_f (tx := σ 138) (len := σ 114 29) (nt := σ 114 22) (N := N)
    refine x_aload_n (E_X11_term_0 22 rfl) rfl ?_
    refine x_getIe (v := τ 114 31) (E_X11_term_0 23 rfl) fl_X11_272 rfl (by decide) rfl ?_
    refine x_if_ne (E_X11_term_0 24 rfl) (by omega) (fun c1 => ?_) (fun c1 => ?_)
    · exact fin hdd h8 N nn o τ hN hs hf hol (fun h => absurd h hf0) hF hO
    · exfalso; omega
  have loop : (0 ≤ d ∧ d ≤ 2000) → σ 114 22 < 8 → ∀ (m n : Nat) (o : Option AV) (τ : Nat → Int → Int), m + n = 10 → (∀ j, j < n → psA (σ 138) (σ 114 29) (σ 114 22) j < σ 114 29 ∧ (clA (σ 138) (σ 114 29) (σ 114 22) j).1 = 0) → blS (σ 138) (σ 114 29) (τ 114 30) = psA (σ 138) (σ 114 29) (σ 114 22) n → (0 ≤ τ 114 30 ∧ τ 114 30 ≤ σ 114 29) → τ 114 31 = 0 → τ 114 32 = -1 → (∀ i, i < 10 * σ 114 22 → τ 135 i = σ 135 i ∧ τ 136 i = σ 136 i ∧ τ 137 i = σ 137 i) → (∀ j : Nat, j < n → τ 135 (10 * σ 114 22 + j) = (clA (σ 138) (σ 114 29) (σ 114 22) j).2.2.2.1 ∧ τ 136 (10 * σ 114 22 + j) = (clA (σ 138) (σ 114 29) (σ 114 22) j).2.2.2.2.1 ∧ ((clA (σ 138) (σ 114 29) (σ 114 22) j).2.2.2.1 ≠ 3 → τ 137 (10 * σ 114 22 + j) = (clA (σ 138) (σ 114 29) (σ 114 22) j).2.2.2.2.2.1)) → Fr [114, 135, 136, 137] σ τ → Fo 114 [30, 31, 32, 33, 34] σ τ → XI l G M_X11_term 4 41 [some (vr 114), some (vi d), some (vi n), o] [] τ (TmQ d σ) := by
    intro hdd h8 m
    induction m using Nat.strongRecOn with
    | _ m ih =>
    intro n o τ hm hb hp h0 t31 t32 hol hrow hF hO
    have e1 := hO 29 (by decide)
    have e22 : τ 114 22 = σ 114 22 := hO 22 (by decide)
    have e42 : τ 138 = σ 138 := hF 138 (by decide)
    have tt : TxOk (τ 114 29) (τ 138) := by rw [e1, e42]; exact ht
    have br := bl_rg (tx := σ 138) h0.2
    have tb := ht.2 (blS (σ 138) (σ 114 29) (τ 114 30))
    refine x_aload_n (E_X11_term_0 22 rfl) rfl ?_
    refine x_getIe (v := τ 114 31) (E_X11_term_0 23 rfl) fl_X11_272 rfl (by decide) rfl ?_
    refine x_if_ne (E_X11_term_0 24 rfl) (by omega) (fun c1 => ?_) (fun c1 => ?_)
    · exfalso; omega
    · refine x_aload_n (E_X11_term_0 25 rfl) rfl ?_
      refine z_callVi (E_X11_term_0 26 rfl) ml_X11_275 mv_X11_here rfl (by decide) (by decide) (c_X11_here tt (by omega)) (by decide) rfl rfl (Nat.le_of_ble_eq_true rfl) (fun v9 τ9 h9 => ?_)
      rw [e1, e42] at h9
      obtain ⟨z9, a9, F9, O9⟩ := h9
      have v9r : rgi v9 := by rcases z9 with z9 | z9 <;> omega
      have l9 := (O9 29 (by decide)).trans e1
      have x9 : τ9 138 = σ 138 := (F9 138 (by decide)).trans e42
      have t9 : TxOk (τ9 114 29) (τ9 138) := by rw [l9, x9]; exact ht
      have G9 : Fr [114, 135, 136, 137] σ τ9 := Fr.trans hF F9 (fun k h => h) (by decide)
      have P9 : Fo 114 [30, 31, 32, 33, 34] σ τ9 := Fo.trans hO O9 (fun k h => h) (by decide)
      have f9 := O9 31 (by decide)
      have w9 := O9 32 (by decide)
      have c35 : τ9 135 = τ 135 := F9 135 (by decide)
      have c36 : τ9 136 = τ 136 := F9 136 (by decide)
      have c37 : τ9 137 = τ 137 := F9 137 (by decide)
      refine x_if_lt (E_X11_term_0 27 rfl) (by omega) (fun c2 => ?_) (fun c2 => ?_)
      · have hx : ¬ blS (σ 138) (σ 114 29) (τ 114 30) < σ 114 29 := fun h => by rcases z9 with z9 | z9 <;> omega
        have fl : (fltA (σ 138) (σ 114 29) (σ 114 22) n) = (0, -1) := by
          unfold fltA
          rw [if_pos (by omega)]
        refine fin hdd h8 n _ _ τ9 (by omega) ⟨hb, Or.inl (by omega)⟩ ?_ ?_ (fun _ => ⟨rfl, ?_⟩) G9 P9
        · rw [fl]
          exact ⟨by rw [f9, t31], by rw [w9, t32]⟩
        · rw [c35, c36, c37]; exact hol
        · rw [c35, c36, c37]; exact hrow
      · refine x_aload_n (E_X11_term_0 28 rfl) rfl ?_
        refine z_callVv (E_X11_term_0 29 rfl) ml_X11_301 mv_X11_takeWord rfl (by decide) (by decide) (c_X11_takeWord t9 (by omega)) (by decide) rfl rfl (Nat.le_of_ble_eq_true rfl) (fun τ8 h8 => ?_)
        rw [l9, x9, a9, hp] at h8
        obtain ⟨s8, g8, a8, F8, O8⟩ := h8
        have pr : 0 ≤ (psA (σ 138) (σ 114 29) (σ 114 22) n) ∧ (psA (σ 138) (σ 114 29) (σ 114 22) n) ≤ σ 114 29 := by omega
        have pl : (psA (σ 138) (σ 114 29) (σ 114 22) n) < σ 114 29 := by rcases z9 with z9 | z9 <;> omega
        have br8 := bl_rg (tx := σ 138) pr.2
        have wr8 := we_rg (tx := σ 138) pr.2
        have l8 := (O8 29 (by decide)).trans l9
        have x8 : τ8 138 = σ 138 := (F8 138 (by decide)).trans x9
        have k8 : τ8 114 22 = σ 114 22 := ((O8 22 (by decide)).trans (O9 22 (by decide))).trans e22
        have t8 : TxOk (τ8 114 29) (τ8 138) := by rw [l8, x8]; exact ht
        have G8 : Fr [114, 135, 136, 137] σ τ8 := Fr.trans G9 F8 (fun k h => h) (by decide)
        have P8 : Fo 114 [30, 31, 32, 33, 34] σ τ8 := Fo.trans P9 O8 (fun k h => h) (by decide)
        have f8 := O8 31 (by decide)
        have w8 := O8 32 (by decide)
        have d35 : τ8 135 = τ 135 := (F8 135 (by decide)).trans c35
        have d36 : τ8 136 = τ 136 := (F8 136 (by decide)).trans c36
        have d37 : τ8 137 = τ 137 := (F8 137 (by decide)).trans c37
        have cw : ∀ i, mtB (τ8 138) (τ8 114 33) (τ8 114 33 + τ8 114 34) i = mtB (σ 138) (blS (σ 138) (σ 114 29) (psA (σ 138) (σ 114 29) (σ 114 22) n)) (weS (σ 138) (σ 114 29) (psA (σ 138) (σ 114 29) (σ 114 22) n)) i := fun i => by
          rw [x8, s8, g8, show (blS (σ 138) (σ 114 29) (psA (σ 138) (σ 114 29) (σ 114 22) n)) + ((weS (σ 138) (σ 114 29) (psA (σ 138) (σ 114 29) (σ 114 22) n)) - (blS (σ 138) (σ 114 29) (psA (σ 138) (σ 114 29) (σ 114 22) n))) = (weS (σ 138) (σ 114 29) (psA (σ 138) (σ 114 29) (σ 114 22) n)) by omega]
        have kr : (wkS (σ 138) (σ 114 29) 9 4 (psA (σ 138) (σ 114 29) (σ 114 22) n)) = -1 ∨ (9 ≤ (wkS (σ 138) (σ 114 29) 9 4 (psA (σ 138) (σ 114 29) (σ 114 22) n)) ∧ (wkS (σ 138) (σ 114 29) 9 4 (psA (σ 138) (σ 114 29) (σ 114 22) n)) < 9 + ((4 : Nat) : Int)) := lkF_rg
        have eC : clA (σ 138) (σ 114 29) (σ 114 22) n = clsR (σ 138) (σ 114 29) (σ 114 22) (n : Nat) (psA (σ 138) (σ 114 29) (σ 114 22) n) := rfl
        have join : ∀ kv : Int, kv = (if (wkS (σ 138) (σ 114 29) 9 4 (psA (σ 138) (σ 114 29) (σ 114 22) n)) = -1 then -1 else (wkS (σ 138) (σ 114 29) 9 4 (psA (σ 138) (σ 114 29) (σ 114 22) n)) - 9) → XI l G M_X11_term 4 149 [some (vr 114), some (vi d), some (vi n), o] [vi kv] τ8 (TmQ d σ) := by
          intro kv hkv
          have kvr : rgi kv := by rw [hkv]; split <;> omega
          refine x_istore_n (E_X11_term_1 19 rfl) rfl ?_
          refine x_aload_n (E_X11_term_1 20 rfl) rfl ?_
          refine x_iload_n (E_X11_term_1 21 rfl) rfl ?_
          refine x_if_lt (E_X11_term_1 22 rfl) (by omega) (fun c1 => ?_) (fun c1 => ?_)
          · refine x_iconst (E_X11_term_1 25 rfl) ?_
            refine x_iconst (E_X11_term_1 26 rfl) ?_
            refine x_aload_n (E_X11_term_1 27 rfl) rfl ?_
            refine x_getIe (v := τ8 114 33) (E_X11_term_1 28 rfl) fl_X11_279 rfl (by decide) rfl ?_
            refine z_callVi (E_X11_term_1 29 rfl) ml_X11_293 mv_X11_want rfl (by decide) (by decide) (c_X11_want (by omega) (by decide) (by decide) (by omega)) (by decide) rfl rfl (Nat.le_of_ble_eq_true rfl) (fun z7 τ7 h7 => ?_)
            have hk : (wkS (σ 138) (σ 114 29) 9 4 (psA (σ 138) (σ 114 29) (σ 114 22) n)) = -1 := Classical.byContradiction (fun h => by rw [if_neg h] at hkv; omega)
            have fl : (fltA (σ 138) (σ 114 29) (σ 114 22) n) = (1, (blS (σ 138) (σ 114 29) (psA (σ 138) (σ 114 29) (σ 114 22) n))) := by
              unfold fltA
              rw [if_neg (by omega), eC]
              unfold clsR
              rw [if_pos hk]
              rfl
            have ne : (clA (σ 138) (σ 114 29) (σ 114 22) n).1 ≠ 0 := by
              rw [eC]
              unfold clsR
              rw [if_pos hk]
              exact (show (1 : Int) ≠ 0 by decide)
            rcases h7 with ⟨a, -, -⟩ | ⟨-, a, -⟩ | ⟨-, -, rfl, rfl⟩
            · exact absurd (show τ8 114 31 = 0 by omega) a
            · exact absurd rfl a
            · refine x_if_eq (E_X11_term_1 30 rfl) (by decide) (fun _ => ?_) (fun c9 => absurd (by decide) c9)
              refine x_goto (E_X11_term_1 53 rfl) ?_
              refine fin41 hdd h8 n _ _ _ (by omega) ⟨hb, Or.inr ne⟩ ?_ (by rw [fl]; exact (show (1 : Int) ≠ 0 by decide)) ?_ ((G8.up (by decide)).up (by decide)) ((P8.up (by decide)).up (by decide))
              · rw [fl]; exact ⟨rfl, s8⟩
              · intro i hi
                show τ8 135 i = _ ∧ τ8 136 i = _ ∧ τ8 137 i = _
                rw [d35, d36, d37]; exact hol i hi
          · refine x_iconst (E_X11_term_1 23 rfl) ?_
            refine x_goto (E_X11_term_1 24 rfl) ?_
            refine x_iconst (E_X11_term_1 26 rfl) ?_
            refine x_aload_n (E_X11_term_1 27 rfl) rfl ?_
            refine x_getIe (v := τ8 114 33) (E_X11_term_1 28 rfl) fl_X11_279 rfl (by decide) rfl ?_
            refine z_callVi (E_X11_term_1 29 rfl) ml_X11_293 mv_X11_want rfl (by decide) (by decide) (c_X11_want (by omega) (by decide) (by decide) (by omega)) (by decide) rfl rfl (Nat.le_of_ble_eq_true rfl) (fun z7 τ7 h7 => ?_)
            have hk : ¬ (wkS (σ 138) (σ 114 29) 9 4 (psA (σ 138) (σ 114 29) (σ 114 22) n)) = -1 := fun h => by rw [if_pos h] at hkv; omega
            rw [if_neg hk] at hkv
            rcases h7 with ⟨a, -, -⟩ | ⟨-, -, rfl, e7⟩ | ⟨-, a, -, -⟩
            · exact absurd (show τ8 114 31 = 0 by omega) a
            · obtain rfl := e7.symm
              refine x_if_eq (E_X11_term_1 30 rfl) (by decide) (fun c9 => absurd c9 (by decide)) (fun _ => ?_)
              refine x_aload_n (E_X11_term_1 31 rfl) rfl ?_
              refine x_iload_n (E_X11_term_1 32 rfl) rfl ?_
              refine x_bipush (z := 10) (E_X11_term_1 33 rfl) (by decide) ?_
              refine x_icmp_ge (E_X11_term_1 34 rfl) (by omega) (by decide) (fun c1 => ?_) (fun c1 => ?_)
              · refine x_iconst (E_X11_term_1 37 rfl) ?_
                refine x_iconst (E_X11_term_1 38 rfl) ?_
                refine x_aload_n (E_X11_term_1 39 rfl) rfl ?_
                refine x_getIe (v := τ8 114 33) (E_X11_term_1 40 rfl) fl_X11_279 rfl (by decide) rfl ?_
                refine z_callVi (E_X11_term_1 41 rfl) ml_X11_293 mv_X11_want rfl (by decide) (by decide) (c_X11_want (by omega) (by decide) (by decide) (by omega)) (by decide) rfl rfl (Nat.le_of_ble_eq_true rfl) (fun z6 τ6 h6 => ?_)
                have fl : (fltA (σ 138) (σ 114 29) (σ 114 22) n) = (5, (blS (σ 138) (σ 114 29) (psA (σ 138) (σ 114 29) (σ 114 22) n))) := by
                  unfold fltA
                  rw [if_neg (by omega), eC]
                  unfold clsR
                  rw [if_neg hk, if_pos (by omega)]
                  rfl
                have ne : (clA (σ 138) (σ 114 29) (σ 114 22) n).1 ≠ 0 := by
                  rw [eC]
                  unfold clsR
                  rw [if_neg hk, if_pos (by omega)]
                  exact (show (5 : Int) ≠ 0 by decide)
                rcases h6 with ⟨a, -, -⟩ | ⟨-, a, -⟩ | ⟨-, -, rfl, rfl⟩
                · exact absurd (show τ8 114 31 = 0 by omega) a
                · exact absurd rfl a
                · refine x_if_eq (E_X11_term_1 42 rfl) (by decide) (fun _ => ?_) (fun c9 => absurd (by decide) c9)
                  refine x_goto (E_X11_term_1 53 rfl) ?_
                  refine fin41 hdd h8 n _ _ _ (by omega) ⟨hb, Or.inr ne⟩ ?_ (by rw [fl]; exact (show (5 : Int) ≠ 0 by decide)) ?_ ((G8.up (by decide)).up (by decide)) ((P8.up (by decide)).up (by decide))
                  · rw [fl]; exact ⟨rfl, s8⟩
                  · intro i hi
                    show τ8 135 i = _ ∧ τ8 136 i = _ ∧ τ8 137 i = _
                    rw [d35, d36, d37]; exact hol i hi
              · refine x_iconst (E_X11_term_1 35 rfl) ?_
                refine x_goto (E_X11_term_1 36 rfl) ?_
                refine x_iconst (E_X11_term_1 38 rfl) ?_
                refine x_aload_n (E_X11_term_1 39 rfl) rfl ?_
                refine x_getIe (v := τ8 114 33) (E_X11_term_1 40 rfl) fl_X11_279 rfl (by decide) rfl ?_
                refine z_callVi (E_X11_term_1 41 rfl) ml_X11_293 mv_X11_want rfl (by decide) (by decide) (c_X11_want (by omega) (by decide) (by decide) (by omega)) (by decide) rfl rfl (Nat.le_of_ble_eq_true rfl) (fun z6 τ6 h6 => ?_)
                have e10 : 10 * τ8 114 22 + ((n : Nat) : Int) = (10 * σ 114 22 + (n : Nat)) := by rw [k8]
                rcases h6 with ⟨a, -, -⟩ | ⟨-, -, rfl, e6⟩ | ⟨-, a, -, -⟩
                · exact absurd (show τ8 114 31 = 0 by omega) a
                · obtain rfl := e6.symm
                  refine x_if_eq (E_X11_term_1 42 rfl) (by decide) (fun c9 => absurd c9 (by decide)) (fun _ => ?_)
                  refine x_aload_n (E_X11_term_1 43 rfl) rfl ?_
                  refine x_iload_n (E_X11_term_1 44 rfl) rfl ?_
                  refine x_bipush (z := 10) (E_X11_term_1 45 rfl) (by decide) ?_
                  refine x_aload_n (E_X11_term_1 46 rfl) rfl ?_
                  refine x_getIe (v := τ8 114 22) (E_X11_term_1 47 rfl) fl_X11_323 rfl (by decide) rfl ?_
                  refine x_imul (E_X11_term_1 48 rfl) ?_
                  refine x_iload_n (E_X11_term_1 49 rfl) rfl ?_
                  refine x_iadd (E_X11_term_1 50 rfl) ?_
                  rw [e10]
                  refine z_callVv (E_X11_term_1 51 rfl) ml_X11_329 mv_X11_readClause rfl (by decide) (by decide) (c_X11_readClause (by omega) (by omega) (by omega) (by omega) t8 (by omega)) (by decide) rfl rfl (Nat.le_of_ble_eq_true rfl) (fun τ5 h5 => ?_)
                  rw [x8, l8, k8, a8] at h5
                  have eD : clA (σ 138) (σ 114 29) (σ 114 22) n = clR (σ 138) (σ 114 29) (σ 114 22) kv (weS (σ 138) (σ 114 29) (psA (σ 138) (σ 114 29) (σ 114 22) n)) := by
                    rw [eC]
                    unfold clsR
                    rw [if_neg hk, if_neg (by omega), hkv]
                  rw [← eD] at h5
                  obtain ⟨q5, r5, o5, i5, F5, O5⟩ := h5
                  have ck := fun h => clR_ck (tx := σ 138) (len := σ 114 29) (nt := σ 114 22) (p := (weS (σ 138) (σ 114 29) (psA (σ 138) (σ 114 29) (σ 114 22) n))) (kd := kv) (by omega) (eD ▸ h)
                  rw [← eD] at ck
                  have G5 : Fr [114, 135, 136, 137] σ τ5 := Fr.trans G8 F5 (fun k h => h) (fun k h => h)
                  have P5 : Fo 114 [30, 31, 32, 33, 34] σ τ5 := Fo.trans P8 O5 (fun k h => h) (fun k h => h)
                  have ol5 : ∀ i, i < 10 * σ 114 22 → τ5 135 i = σ 135 i ∧ τ5 136 i = σ 136 i ∧ τ5 137 i = σ 137 i := fun i hi => by
                    have a := o5 i (by omega)
                    rw [d35, d36, d37] at a
                    have b := hol i hi
                    exact ⟨a.1.trans b.1, a.2.1.trans b.2.1, a.2.2.trans b.2.2⟩
                  refine x_iinc (E_X11_term_1 52 rfl) rfl rfl ?_
                  refine x_goto (E_X11_term_1 53 rfl) ?_
                  rcases q5 with ⟨q1, q2, q3, q4, q5, q6⟩ | ⟨q1, q2, q3⟩
                  · refine ih (m - 1) (by omega) (n + 1) _ τ5 (by omega) ?_ ?_ (by omega) q2 (by omega) ol5 ?_ G5 P5
                    · intro j h
                      by_cases e : j = n
                      · subst e; exact ⟨pl, q1⟩
                      · exact hb j (by omega)
                    · rw [q4]; rfl
                    · intro j h
                      by_cases e : j = n
                      · subst e
                        exact ⟨i5.trans (ck q1).symm, q5, fun h => q6 (fun e => h ((ck q1).trans e))⟩
                      · have a := o5 (10 * σ 114 22 + j) (by omega)
                        rw [d35, d36, d37] at a
                        rw [a.1, a.2.1, a.2.2]
                        exact hrow j (by omega)
                  · refine fin41 hdd h8 n _ _ τ5 (by omega) ⟨hb, Or.inr q1⟩ ?_ ?_ ol5 G5 P5
                    · unfold fltA
                      rw [if_neg (by omega)]
                      exact ⟨q2, q3⟩
                    · unfold fltA
                      rw [if_neg (by omega)]
                      exact q1
                · exact absurd a (by decide)
            · exact absurd a (by decide)
        refine x_aload_n (E_X11_term_0 30 rfl) rfl ?_
        refine x_iconst (E_X11_term_0 31 rfl) ?_
        refine x_bipush (z := 108) (E_X11_term_0 32 rfl) (by decide) ?_
        refine x_bipush (z := 101) (E_X11_term_0 33 rfl) (by decide) ?_
        refine x_bipush (z := 116) (E_X11_term_0 34 rfl) (by decide) ?_
        refine x_iconst (E_X11_term_0 35 rfl) ?_
        refine x_iconst (E_X11_term_0 36 rfl) ?_
        refine x_iconst (E_X11_term_0 37 rfl) ?_
        refine z_callVi (E_X11_term_0 38 rfl) ml_X11_297 mv_X11_isWord rfl (by decide) (by decide) (c_isW (i := 8) (by decide) (by decide) (by decide) (by decide +kernel) t8.2 (by omega)) (by decide) rfl rfl (Nat.le_of_ble_eq_true rfl) (fun z9 τ9 h9 => ?_)
        obtain ⟨rfl, ⟨rfl, c3⟩ | ⟨rfl, c3⟩⟩ := h9
        · refine x_if_eq (E_X11_term_0 39 rfl) (by decide) (fun c9 => absurd c9 (by decide)) (fun _ => ?_)
          refine x_iconst (E_X11_term_0 40 rfl) ?_
          refine x_goto (E_X11_term_0 41 rfl) ?_
          rw [cw] at c3
          refine join 0 ?_
          show _ = (if lkF (σ 138) (blS (σ 138) (σ 114 29) (psA (σ 138) (σ 114 29) (σ 114 22) n)) (weS (σ 138) (σ 114 29) (psA (σ 138) (σ 114 29) (σ 114 22) n)) 4 9 = -1 then -1 else lkF (σ 138) (blS (σ 138) (σ 114 29) (psA (σ 138) (σ 114 29) (σ 114 22) n)) (weS (σ 138) (σ 114 29) (psA (σ 138) (σ 114 29) (σ 114 22) n)) 4 9 - 9)
          rw [lk9, if_pos c3]
          rfl
        · refine x_if_eq (E_X11_term_0 39 rfl) (by decide) (fun _ => ?_) (fun c9 => absurd (by decide) c9)
          refine x_aload_n (E_X11_term_0 42 rfl) rfl ?_
          refine x_iconst (E_X11_term_0 43 rfl) ?_
          refine x_bipush (z := 100) (E_X11_term_0 44 rfl) (by decide) ?_
          refine x_bipush (z := 114) (E_X11_term_0 45 rfl) (by decide) ?_
          refine x_bipush (z := 121) (E_X11_term_0 46 rfl) (by decide) ?_
          refine x_iconst (E_X11_term_0 47 rfl) ?_
          refine x_iconst (E_X11_term_0 48 rfl) ?_
          refine x_iconst (E_X11_term_0 49 rfl) ?_
          refine z_callVi (E_X11_term_0 50 rfl) ml_X11_297 mv_X11_isWord rfl (by decide) (by decide) (c_isW (i := 9) (by decide) (by decide) (by decide) (by decide +kernel) t8.2 (by omega)) (by decide) rfl rfl (Nat.le_of_ble_eq_true rfl) (fun z9 τ9 h9 => ?_)
          obtain ⟨rfl, ⟨rfl, c4⟩ | ⟨rfl, c4⟩⟩ := h9
          · refine x_if_eq (E_X11_term_0 51 rfl) (by decide) (fun c9 => absurd c9 (by decide)) (fun _ => ?_)
            refine x_iconst (E_X11_term_0 52 rfl) ?_
            refine x_goto (E_X11_term_0 53 rfl) ?_
            rw [cw] at c3 c4
            refine join 1 ?_
            show _ = (if lkF (σ 138) (blS (σ 138) (σ 114 29) (psA (σ 138) (σ 114 29) (σ 114 22) n)) (weS (σ 138) (σ 114 29) (psA (σ 138) (σ 114 29) (σ 114 22) n)) 4 9 = -1 then -1 else lkF (σ 138) (blS (σ 138) (σ 114 29) (psA (σ 138) (σ 114 29) (σ 114 22) n)) (weS (σ 138) (σ 114 29) (psA (σ 138) (σ 114 29) (σ 114 22) n)) 4 9 - 9)
            rw [lk9, if_neg c3, if_pos c4]
            rfl
          · refine x_if_eq (E_X11_term_0 51 rfl) (by decide) (fun _ => ?_) (fun c9 => absurd (by decide) c9)
            refine x_aload_n (E_X11_term_0 54 rfl) rfl ?_
            refine x_iconst (E_X11_term_0 55 rfl) ?_
            refine x_bipush (z := 114) (E_X11_term_0 56 rfl) (by decide) ?_
            refine x_bipush (z := 97) (E_X11_term_0 57 rfl) (by decide) ?_
            refine x_bipush (z := 110) (E_X11_term_0 58 rfl) (by decide) ?_
            refine x_bipush (z := 107) (E_X11_term_0 59 rfl) (by decide) ?_
            refine x_iconst (E_X11_term_1 0 rfl) ?_
            refine x_iconst (E_X11_term_1 1 rfl) ?_
            refine z_callVi (E_X11_term_1 2 rfl) ml_X11_297 mv_X11_isWord rfl (by decide) (by decide) (c_isW (i := 10) (by decide) (by decide) (by decide) (by decide +kernel) t8.2 (by omega)) (by decide) rfl rfl (Nat.le_of_ble_eq_true rfl) (fun z9 τ9 h9 => ?_)
            obtain ⟨rfl, ⟨rfl, c5⟩ | ⟨rfl, c5⟩⟩ := h9
            · refine x_if_eq (E_X11_term_1 3 rfl) (by decide) (fun c9 => absurd c9 (by decide)) (fun _ => ?_)
              refine x_iconst (E_X11_term_1 4 rfl) ?_
              refine x_goto (E_X11_term_1 5 rfl) ?_
              rw [cw] at c3 c4 c5
              refine join 2 ?_
              show _ = (if lkF (σ 138) (blS (σ 138) (σ 114 29) (psA (σ 138) (σ 114 29) (σ 114 22) n)) (weS (σ 138) (σ 114 29) (psA (σ 138) (σ 114 29) (σ 114 22) n)) 4 9 = -1 then -1 else lkF (σ 138) (blS (σ 138) (σ 114 29) (psA (σ 138) (σ 114 29) (σ 114 22) n)) (weS (σ 138) (σ 114 29) (psA (σ 138) (σ 114 29) (σ 114 22) n)) 4 9 - 9)
              rw [lk9, if_neg c3, if_neg c4, if_pos c5]
              rfl
            · refine x_if_eq (E_X11_term_1 3 rfl) (by decide) (fun _ => ?_) (fun c9 => absurd (by decide) c9)
              refine x_aload_n (E_X11_term_1 6 rfl) rfl ?_
              refine x_bipush (z := 6) (E_X11_term_1 7 rfl) (by decide) ?_
              refine x_bipush (z := 115) (E_X11_term_1 8 rfl) (by decide) ?_
              refine x_bipush (z := 116) (E_X11_term_1 9 rfl) (by decide) ?_
              refine x_bipush (z := 114) (E_X11_term_1 10 rfl) (by decide) ?_
              refine x_bipush (z := 105) (E_X11_term_1 11 rfl) (by decide) ?_
              refine x_bipush (z := 107) (E_X11_term_1 12 rfl) (by decide) ?_
              refine x_bipush (z := 101) (E_X11_term_1 13 rfl) (by decide) ?_
              refine z_callVi (E_X11_term_1 14 rfl) ml_X11_297 mv_X11_isWord rfl (by decide) (by decide) (c_isW (i := 11) (by decide) (by decide) (by decide) (by decide +kernel) t8.2 (by omega)) (by decide) rfl rfl (Nat.le_of_ble_eq_true rfl) (fun z9 τ9 h9 => ?_)
              obtain ⟨rfl, ⟨rfl, c6⟩ | ⟨rfl, c6⟩⟩ := h9
              · refine x_if_eq (E_X11_term_1 15 rfl) (by decide) (fun c9 => absurd c9 (by decide)) (fun _ => ?_)
                refine x_iconst (E_X11_term_1 16 rfl) ?_
                refine x_goto (E_X11_term_1 17 rfl) ?_
                rw [cw] at c3 c4 c5 c6
                refine join 3 ?_
                show _ = (if lkF (σ 138) (blS (σ 138) (σ 114 29) (psA (σ 138) (σ 114 29) (σ 114 22) n)) (weS (σ 138) (σ 114 29) (psA (σ 138) (σ 114 29) (σ 114 22) n)) 4 9 = -1 then -1 else lkF (σ 138) (blS (σ 138) (σ 114 29) (psA (σ 138) (σ 114 29) (σ 114 22) n)) (weS (σ 138) (σ 114 29) (psA (σ 138) (σ 114 29) (σ 114 22) n)) 4 9 - 9)
                rw [lk9, if_neg c3, if_neg c4, if_neg c5, if_pos c6]
                rfl
              · refine x_if_eq (E_X11_term_1 15 rfl) (by decide) (fun _ => ?_) (fun c9 => absurd (by decide) c9)
                refine x_iconst (E_X11_term_1 18 rfl) ?_
                rw [cw] at c3 c4 c5 c6
                refine join (-1) ?_
                show _ = (if lkF (σ 138) (blS (σ 138) (σ 114 29) (psA (σ 138) (σ 114 29) (σ 114 22) n)) (weS (σ 138) (σ 114 29) (psA (σ 138) (σ 114 29) (σ 114 22) n)) 4 9 = -1 then -1 else lkF (σ 138) (blS (σ 138) (σ 114 29) (psA (σ 138) (σ 114 29) (σ 114 22) n)) (weS (σ 138) (σ 114 29) (psA (σ 138) (σ 114 29) (σ 114 22) n)) 4 9 - 9)
                rw [lk9, if_neg c3, if_neg c4, if_neg c5, if_neg c6]
                rfl
  refine x_iload_n (E_X11_term_0 0 rfl) rfl ?_
  refine z_callSi (E_X11_term_0 1 rfl) ml_X11_326 ms_X11_isDay (c_X11_isDay (by omega)) (by decide) rfl rfl (Nat.le_of_ble_eq_true rfl) (fun z9 τ9 h9 => ?_)
  obtain ⟨rfl, ⟨rfl, c1⟩ | ⟨rfl, c1⟩⟩ := h9
  · refine x_if_ne (E_X11_term_0 2 rfl) (by decide) (fun _ => ?_) (fun c9 => absurd c9 (by decide))
    refine x_aload_n (E_X11_term_0 5 rfl) rfl ?_
    refine x_getIe (v := σ 114 22) (E_X11_term_0 6 rfl) fl_X11_323 rfl (by decide) rfl ?_
    refine x_bipush (z := 8) (E_X11_term_0 7 rfl) (by decide) ?_
    refine x_icmp_ne (E_X11_term_0 8 rfl) (by omega) (by decide) (fun c2 => ?_) (fun c2 => ?_)
    · refine x_aload_n (E_X11_term_0 11 rfl) rfl ?_
      refine x_iconst (E_X11_term_0 12 rfl) ?_
      refine x_putI (E_X11_term_0 13 rfl) fl_X11_269 rfl (by decide) ?_
      refine x_aload_n (E_X11_term_0 14 rfl) rfl ?_
      refine x_iconst (E_X11_term_0 15 rfl) ?_
      refine x_putI (E_X11_term_0 16 rfl) fl_X11_272 rfl (by decide) ?_
      refine x_aload_n (E_X11_term_0 17 rfl) rfl ?_
      refine x_iconst (E_X11_term_0 18 rfl) ?_
      refine x_putI (E_X11_term_0 19 rfl) fl_X11_83 rfl (by decide) ?_
      refine x_iconst (E_X11_term_0 20 rfl) ?_
      refine x_istore_n (E_X11_term_0 21 rfl) rfl ?_
      refine loop (by omega) (by omega) 10 0 none _ rfl (fun j h => absurd h (by omega)) rfl (show (0 : Int) ≤ 0 ∧ (0 : Int) ≤ σ 114 29 by omega) rfl rfl (fun i _ => ⟨rfl, rfl, rfl⟩) (fun j h => absurd h (by omega)) ?_ ?_
      · exact ((Fr.rf.up (by decide)).up (by decide)).up (by decide)
      · exact ((Fo.rf.up (by decide)).up (by decide)).up (by decide)
    · refine x_sipush (z := (-1004)) (E_X11_term_0 9 rfl) (by decide) ?_
      refine z_iret (E_X11_term_0 10 rfl) trivial ?_
      exact Or.inr (Or.inl ⟨by omega, by omega, rfl, rfl⟩)
  · refine x_if_ne (E_X11_term_0 2 rfl) (by decide) (fun c9 => absurd c9 (by decide)) (fun _ => ?_)
    refine x_sipush (z := (-1002)) (E_X11_term_0 3 rfl) (by decide) ?_
    refine z_iret (E_X11_term_0 4 rfl) trivial ?_
    exact Or.inl ⟨by omega, rfl, rfl⟩

