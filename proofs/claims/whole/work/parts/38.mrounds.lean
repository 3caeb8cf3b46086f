/-! rounds of the model; fails -/
variable {l : Launch} {G : GC} {σ : Nat → Int → Int}

/-- what goRounds leaves -/
def GrP (σ τ : Nat → Int → Int) : Prop := (∀ d, 0 ≤ d → d < σ 114 63 → τ 165 d = (goS (σ 162) (σ 163) (σ 164) (σ 167) (σ 114 63).toNat 50 (σ 164) 0).1 d ∧ 0 ≤ τ 165 d ∧ τ 165 d ≤ 9999) ∧ (τ 114 70 = (goS (σ 162) (σ 163) (σ 164) (σ 167) (σ 114 63).toNat 50 (σ 164) 0).2 ∧ 0 ≤ τ 114 70 ∧ τ 114 70 ≤ 50) ∧ Fr [114, 165, 166] σ τ ∧ Fo 114 [70] σ τ
set_option maxHeartbeats 2000000 in
theorem c_X11_goRounds (hd : DuOk (σ 114 63).toNat (σ 162) (σ 163) (σ 164) (σ 167)) (hn : 0 ≤ σ 114 63) : CV l G M_X11_goRounds 1 [vr 114] σ (GrP σ) := by
  have n24 := hd.1
  refine Ct.of rfl (Nat.le_of_ble_eq_true rfl) ?_
  have loopA : ∀ (k : Nat) (r m c : Int) (g : Int → Int) (o3 o4 o5 : Option AV) (τ : Nat → Int → Int), r = 50 - k → k ≤ 50 → (m = 0 ∨ m = 1) → (m = 1 → goS (σ 162) (σ 163) (σ 164) (σ 167) (σ 114 63).toNat k g c = (goS (σ 162) (σ 163) (σ 164) (σ 167) (σ 114 63).toNat 50 (σ 164) 0)) → (m = 0 → (g, c) = (goS (σ 162) (σ 163) (σ 164) (σ 167) (σ 114 63).toNat 50 (σ 164) 0)) → (∀ j, 0 ≤ j → j < σ 114 63 → 0 ≤ g j ∧ g j ≤ 9999) → (∀ d, 0 ≤ d → d < σ 114 63 → τ 165 d = g d) → τ 114 70 = c → (0 ≤ c ∧ c ≤ r) → Fr [114, 165, 166] σ τ → Fo 114 [70] σ τ → XV l G M_X11_goRounds 1 37 [some (vr 114), some (vi m), some (vi r), o3, o4, o5] [] τ (GrP σ) := by
    intro k
    induction k using Nat.strongRecOn with
    | _ k ih =>
    intro r m c g o3 o4 o5 τ hr hk h01 h1 h0 hg h165 hc hcr hF hO
    have g9 := fun j (x : 0 ≤ j) (y : j < σ 114 63) => rdS_rg hd (fun j x y => hg j x (by omega)) (j := j) x (by omega)
    have loopC : r < 50 → goS (σ 162) (σ 163) (σ 164) (σ 167) (σ 114 63).toNat k g c = (goS (σ 162) (σ 163) (σ 164) (σ 167) (σ 114 63).toNat 50 (σ 164) 0) → ∀ (q : Nat) (i m : Int) (o4 o5 : Option AV) (υ : Nat → Int → Int), i = σ 114 63 - q → q ≤ (σ 114 63).toNat → m = (if anyS (fun d => decide (rdS (σ 162) (σ 163) (σ 164) (σ 167) (σ 114 63).toNat g d ≠ g d)) i.toNat = true then 1 else 0) → (∀ d, 0 ≤ d → d < i → υ 165 d = rdS (σ 162) (σ 163) (σ 164) (σ 167) (σ 114 63).toNat g d) → (∀ d, i ≤ d → d < σ 114 63 → υ 165 d = g d) → (∀ d, 0 ≤ d → d < σ 114 63 → υ 166 d = rdS (σ 162) (σ 163) (σ 164) (σ 167) (σ 114 63).toNat g d) → υ 114 70 = c → Fr [114, 165, 166] σ υ → Fo 114 [70] σ υ → XV l G M_X11_goRounds 1 129 [some (vr 114), some (vi m), some (vi r), some (vi i), o4, o5] [] υ (GrP σ) := by
      intro hr5 hT q
      induction q using Nat.strongRecOn with
      | _ q ihC =>
      intro i m o4 o5 υ hi hq hm hG hH hX hc2 hF2 hO2
      have e63 := hO2 63 (by decide)
      have m01 : m = 0 ∨ m = 1 := by rw [hm]; split <;> omega
      refine x_iload_n (E_X11_goRounds_1 18 rfl) rfl ?_
      refine x_aload_n (E_X11_goRounds_1 19 rfl) rfl ?_
      refine x_getIe (v := υ 114 63) (E_X11_goRounds_1 20 rfl) fl_X11_390 rfl (by decide) rfl ?_
      refine x_icmp_ge (E_X11_goRounds_1 21 rfl) (by omega) (by omega) (fun c1 => ?_) (fun c1 => ?_)
      · refine x_aload_n (E_X11_goRounds_1 47 rfl) rfl ?_
        refine x_dupr (E_X11_goRounds_1 48 rfl) ?_
        refine x_getIe (v := υ 114 70) (E_X11_goRounds_1 49 rfl) fl_X11_438 rfl (by decide) rfl ?_
        refine x_iload_n (E_X11_goRounds_1 50 rfl) rfl ?_
        refine z_callSi (E_X11_goRounds_1 51 rfl) ml_X11_307 ms_X11_one (c_X11_one m01) (by decide) rfl rfl (Nat.le_of_ble_eq_true rfl) (fun z9 τ9 h9 => ?_)
        obtain ⟨e9, rfl⟩ := h9
        rw [e9]
        refine x_iadd (E_X11_goRounds_1 52 rfl) ?_
        refine x_putI (E_X11_goRounds_1 53 rfl) fl_X11_438 rfl (by decide) ?_
        refine x_iinc (E_X11_goRounds_1 54 rfl) rfl rfl ?_
        refine x_goto (E_X11_goRounds_1 55 rfl) ?_
        have ei : i = σ 114 63 := by omega
        have hm : m = (if chS (σ 162) (σ 163) (σ 164) (σ 167) (σ 114 63).toNat g = true then 1 else 0) := by rw [hm, ei]; rfl
        obtain ⟨k', rfl⟩ : ∃ k', k = k' + 1 := ⟨k - 1, by omega⟩
        have hT : (if chS (σ 162) (σ 163) (σ 164) (σ 167) (σ 114 63).toNat g = true then goS (σ 162) (σ 163) (σ 164) (σ 167) (σ 114 63).toNat k' (rdS (σ 162) (σ 163) (σ 164) (σ 167) (σ 114 63).toNat g) (c + 1) else (g, c)) = (goS (σ 162) (σ 163) (σ 164) (σ 167) (σ 114 63).toNat 50 (σ 164) 0) := hT
        by_cases a9 : chS (σ 162) (σ 163) (σ 164) (σ 167) (σ 114 63).toNat g = true
        · rw [if_pos a9] at hm hT
          subst hm
          refine ih k' (by omega) _ 1 (c + 1) (rdS (σ 162) (σ 163) (σ 164) (σ 167) (σ 114 63).toNat g) _ _ _ _ (by omega) (by omega) (Or.inr rfl) (fun _ => hT) (fun h => absurd h (by decide)) g9 (fun d a b => hG d a (by omega)) ?_ (by omega) (hF2.up (by decide)) (hO2.up (by decide))
          show υ 114 70 + 1 = c + 1
          omega
        · rw [if_neg a9] at hm hT
          subst hm
          refine ih k' (by omega) _ 0 c g _ _ _ _ (by omega) (by omega) (Or.inl rfl) (fun h => absurd h (by decide)) (fun _ => hT) hg (fun d a b => ?_) ?_ (by omega) (hF2.up (by decide)) (hO2.up (by decide))
          · show υ 165 d = g d
            have := anyS_no (Bool.not_eq_true _ ▸ a9 : chS (σ 162) (σ 163) (σ 164) (σ 167) (σ 114 63).toNat g = false) d a (by omega)
            rw [hG d a (by omega)]
            simpa using this
          · show υ 114 70 + 0 = c
            omega
      · have x9 := hX i (by omega) (by omega)
        have y9 := hH i (by omega) (by omega)
        have z8 := g9 i (by omega) (by omega)
        have z7 := hg i (by omega) (by omega)
        refine x_iload_n (E_X11_goRounds_1 22 rfl) rfl ?_
        refine x_if_ne (E_X11_goRounds_1 23 rfl) (by omega) (fun c2 => ?_) (fun c2 => ?_)
        · refine x_iconst (E_X11_goRounds_1 33 rfl) ?_
          refine x_goto (E_X11_goRounds_1 34 rfl) ?_
          refine x_istore_n (E_X11_goRounds_1 36 rfl) rfl ?_
          refine x_aload_n (E_X11_goRounds_1 37 rfl) rfl ?_
          refine x_getR (E_X11_goRounds_1 38 rfl) fl_X11_165 rfl (by decide) rfl ?_
          refine x_iload_n (E_X11_goRounds_1 39 rfl) rfl ?_
          refine x_aload_n (E_X11_goRounds_1 40 rfl) rfl ?_
          refine x_getR (E_X11_goRounds_1 41 rfl) fl_X11_168 rfl (by decide) rfl ?_
          refine x_iload_n (E_X11_goRounds_1 42 rfl) rfl ?_
          refine x_ialde (f := υ 166) (E_X11_goRounds_1 43 rfl) rfl (by decide) (by omega) rfl ?_
          refine x_iast (E_X11_goRounds_1 44 rfl) rfl (by decide) (by omega) ?_
          refine x_iinc (E_X11_goRounds_1 45 rfl) rfl rfl ?_
          refine x_goto (E_X11_goRounds_1 46 rfl) ?_
          refine ihC (q - 1) (by omega) _ _ _ _ _ (by omega) (by omega) ?_ (fun d a b => ?_) (fun d a b => ?_) hX hc2 (hF2.up (by decide)) (hO2.un (by decide))
          · rw [anyS_i (by omega)]
            by_cases a9 : anyS (fun d => decide (rdS (σ 162) (σ 163) (σ 164) (σ 167) (σ 114 63).toNat g d ≠ g d)) i.toNat = true
            · rw [if_pos a9] at hm
              rw [a9, Bool.true_or, if_pos rfl]
              try omega
            · rw [if_neg a9] at hm
              rw [Bool.not_eq_true] at a9
              rw [a9, Bool.false_or]
              by_cases b9 : rdS (σ 162) (σ 163) (σ 164) (σ 167) (σ 114 63).toNat g i = g i
              · rw [if_neg (by simp [b9])]
                try omega
              · rw [if_pos (by simp [b9])]
                try omega
          · show (if d = i then υ 166 i else υ 165 d) = _
            by_cases e : d = i
            · rw [if_pos e, x9, e]
            · rw [if_neg e]; exact hG d a (by omega)
          · show (if d = i then υ 166 i else υ 165 d) = _
            rw [if_neg (by omega)]; exact hH d (by omega) b
        · refine x_aload_n (E_X11_goRounds_1 24 rfl) rfl ?_
          refine x_getR (E_X11_goRounds_1 25 rfl) fl_X11_168 rfl (by decide) rfl ?_
          refine x_iload_n (E_X11_goRounds_1 26 rfl) rfl ?_
          refine x_ialde (f := υ 166) (E_X11_goRounds_1 27 rfl) rfl (by decide) (by omega) rfl ?_
          refine x_aload_n (E_X11_goRounds_1 28 rfl) rfl ?_
          refine x_getR (E_X11_goRounds_1 29 rfl) fl_X11_165 rfl (by decide) rfl ?_
          refine x_iload_n (E_X11_goRounds_1 30 rfl) rfl ?_
          refine x_ialde (f := υ 165) (E_X11_goRounds_1 31 rfl) rfl (by decide) (by omega) rfl ?_
          refine x_icmp_eq (E_X11_goRounds_1 32 rfl) (by omega) (by omega) (fun c3 => ?_) (fun c3 => ?_)
          · refine x_iconst (E_X11_goRounds_1 35 rfl) ?_
            refine x_istore_n (E_X11_goRounds_1 36 rfl) rfl ?_
            refine x_aload_n (E_X11_goRounds_1 37 rfl) rfl ?_
            refine x_getR (E_X11_goRounds_1 38 rfl) fl_X11_165 rfl (by decide) rfl ?_
            refine x_iload_n (E_X11_goRounds_1 39 rfl) rfl ?_
            refine x_aload_n (E_X11_goRounds_1 40 rfl) rfl ?_
            refine x_getR (E_X11_goRounds_1 41 rfl) fl_X11_168 rfl (by decide) rfl ?_
            refine x_iload_n (E_X11_goRounds_1 42 rfl) rfl ?_
            refine x_ialde (f := υ 166) (E_X11_goRounds_1 43 rfl) rfl (by decide) (by omega) rfl ?_
            refine x_iast (E_X11_goRounds_1 44 rfl) rfl (by decide) (by omega) ?_
            refine x_iinc (E_X11_goRounds_1 45 rfl) rfl rfl ?_
            refine x_goto (E_X11_goRounds_1 46 rfl) ?_
            refine ihC (q - 1) (by omega) _ _ _ _ _ (by omega) (by omega) ?_ (fun d a b => ?_) (fun d a b => ?_) hX hc2 (hF2.up (by decide)) (hO2.un (by decide))
            · rw [anyS_i (by omega)]
              by_cases a9 : anyS (fun d => decide (rdS (σ 162) (σ 163) (σ 164) (σ 167) (σ 114 63).toNat g d ≠ g d)) i.toNat = true
              · rw [if_pos a9] at hm
                rw [a9, Bool.true_or, if_pos rfl]
                try omega
              · rw [if_neg a9] at hm
                rw [Bool.not_eq_true] at a9
                rw [a9, Bool.false_or]
                by_cases b9 : rdS (σ 162) (σ 163) (σ 164) (σ 167) (σ 114 63).toNat g i = g i
                · rw [if_neg (by simp [b9])]
                  try omega
                · rw [if_pos (by simp [b9])]
                  try omega
            · show (if d = i then υ 166 i else υ 165 d) = _
              by_cases e : d = i
              · rw [if_pos e, x9, e]
              · rw [if_neg e]; exact hG d a (by omega)
            · show (if d = i then υ 166 i else υ 165 d) = _
              rw [if_neg (by omega)]; exact hH d (by omega) b
          · refine x_iconst (E_X11_goRounds_1 33 rfl) ?_
            refine x_goto (E_X11_goRounds_1 34 rfl) ?_
            refine x_istore_n (E_X11_goRounds_1 36 rfl) rfl ?_
            refine x_aload_n (E_X11_goRounds_1 37 rfl) rfl ?_
            refine x_getR (E_X11_goRounds_1 38 rfl) fl_X11_165 rfl (by decide) rfl ?_
            refine x_iload_n (E_X11_goRounds_1 39 rfl) rfl ?_
            refine x_aload_n (E_X11_goRounds_1 40 rfl) rfl ?_
            refine x_getR (E_X11_goRounds_1 41 rfl) fl_X11_168 rfl (by decide) rfl ?_
            refine x_iload_n (E_X11_goRounds_1 42 rfl) rfl ?_
            refine x_ialde (f := υ 166) (E_X11_goRounds_1 43 rfl) rfl (by decide) (by omega) rfl ?_
            refine x_iast (E_X11_goRounds_1 44 rfl) rfl (by decide) (by omega) ?_
            refine x_iinc (E_X11_goRounds_1 45 rfl) rfl rfl ?_
            refine x_goto (E_X11_goRounds_1 46 rfl) ?_
            refine ihC (q - 1) (by omega) _ _ _ _ _ (by omega) (by omega) ?_ (fun d a b => ?_) (fun d a b => ?_) hX hc2 (hF2.up (by decide)) (hO2.un (by decide))
            · rw [anyS_i (by omega)]
              by_cases a9 : anyS (fun d => decide (rdS (σ 162) (σ 163) (σ 164) (σ 167) (σ 114 63).toNat g d ≠ g d)) i.toNat = true
              · rw [if_pos a9] at hm
                rw [a9, Bool.true_or, if_pos rfl]
                try omega
              · rw [if_neg a9] at hm
                rw [Bool.not_eq_true] at a9
                rw [a9, Bool.false_or]
                by_cases b9 : rdS (σ 162) (σ 163) (σ 164) (σ 167) (σ 114 63).toNat g i = g i
                · rw [if_neg (by simp [b9])]
                  try omega
                · rw [if_pos (by simp [b9])]
                  try omega
            · show (if d = i then υ 166 i else υ 165 d) = _
              by_cases e : d = i
              · rw [if_pos e, x9, e]
              · rw [if_neg e]; exact hG d a (by omega)
            · show (if d = i then υ 166 i else υ 165 d) = _
              rw [if_neg (by omega)]; exact hH d (by omega) b
    have loopB : r < 50 → goS (σ 162) (σ 163) (σ 164) (σ 167) (σ 114 63).toNat k g c = (goS (σ 162) (σ 163) (σ 164) (σ 167) (σ 114 63).toNat 50 (σ 164) 0) → ∀ (q : Nat) (i : Int) (o4 o5 : Option AV) (υ : Nat → Int → Int), i = σ 114 63 - q → q ≤ (σ 114 63).toNat → (∀ d, 0 ≤ d → d < i → υ 166 d = rdS (σ 162) (σ 163) (σ 164) (σ 167) (σ 114 63).toNat g d) → (∀ d, 0 ≤ d → d < σ 114 63 → υ 165 d = g d) → υ 114 70 = c → Fr [114, 165, 166] σ υ → Fo 114 [70] σ υ → XV l G M_X11_goRounds 1 51 [some (vr 114), some (vi 0), some (vi r), some (vi i), o4, o5] [] υ (GrP σ) := by
      intro hr5 hT q
      induction q using Nat.strongRecOn with
      | _ q ihB =>
      intro i o4 o5 υ hi hq hX hH hc2 hF2 hO2
      have e63 := hO2 63 (by decide)
      have e162 : υ 162 = σ 162 := hF2 162 (by decide)
      have e163 : υ 163 = σ 163 := hF2 163 (by decide)
      have e164 : υ 164 = σ 164 := hF2 164 (by decide)
      have e167 : υ 167 = σ 167 := hF2 167 (by decide)
      refine x_iload_n (E_X11_goRounds_0 32 rfl) rfl ?_
      refine x_aload_n (E_X11_goRounds_0 33 rfl) rfl ?_
      refine x_getIe (v := υ 114 63) (E_X11_goRounds_0 34 rfl) fl_X11_390 rfl (by decide) rfl ?_
      refine x_icmp_ge (E_X11_goRounds_0 35 rfl) (by omega) (by omega) (fun c1 => ?_) (fun c1 => ?_)
      · refine x_iconst (E_X11_goRounds_1 16 rfl) ?_
        refine x_istore_n (E_X11_goRounds_1 17 rfl) rfl ?_
        exact loopC hr5 hT (σ 114 63).toNat 0 0 _ _ υ (by omega) (Nat.le_refl _) rfl (fun d a b => absurd a (by omega)) (fun d a b => hH d a b) (fun d a b => hX d a (by omega)) hc2 hF2 hO2
      · have d9 := hd.2.1 i (by omega) (by omega)
        have f162 := congrFun e162 i
        have f164 := congrFun e164 i
        have w1 := hsS_rg (g := g) (h := υ 162 i) hd (by omega) (fun j x y => hg j x (by omega))
        have w2 := owS_rg (h := υ 162 i) hd
        refine x_aload_n (E_X11_goRounds_0 36 rfl) rfl ?_
        refine x_aload_n (E_X11_goRounds_0 37 rfl) rfl ?_
        refine x_getR (E_X11_goRounds_0 38 rfl) fl_X11_156 rfl (by decide) rfl ?_
        refine x_iload_n (E_X11_goRounds_0 39 rfl) rfl ?_
        refine x_ialde (f := υ 162) (E_X11_goRounds_0 40 rfl) rfl (by decide) (by omega) rfl ?_
        refine z_callVi (E_X11_goRounds_0 41 rfl) ml_X11_441 mv_X11_owes rfl (by decide) (by decide) (c_X11_owes (h := υ 162 i) (by omega) (by omega) (by rw [e63, e162]; exact fun j x y => (hd.2.1 j x (by omega)).1)) (by decide) rfl rfl (Nat.le_of_ble_eq_true rfl) (fun z8 τ9 h9 => ?_)
        obtain ⟨q1, rfl⟩ := h9
        have q1 : z8 = owS (σ 162) (σ 164) (σ 114 63).toNat (υ 162 i) := by rw [q1, e63, e162, e164]; show 0 + owS _ _ _ _ = _; omega
        refine x_istore (E_X11_goRounds_0 42 rfl) rfl ?_
        refine x_aload_n (E_X11_goRounds_0 43 rfl) rfl ?_
        refine x_aload_n (E_X11_goRounds_0 44 rfl) rfl ?_
        refine x_getR (E_X11_goRounds_0 45 rfl) fl_X11_156 rfl (by decide) rfl ?_
        refine x_iload_n (E_X11_goRounds_0 46 rfl) rfl ?_
        refine x_ialde (f := υ 162) (E_X11_goRounds_0 47 rfl) rfl (by decide) (by omega) rfl ?_
        refine z_callVi (E_X11_goRounds_0 48 rfl) ml_X11_444 mv_X11_has rfl (by decide) (by decide) (c_X11_has (h := υ 162 i) (by omega) (by omega) (by rw [e63, e163]; exact fun j x y => (hd.2.1 j x (by omega)).2.1)) (by decide) rfl rfl (Nat.le_of_ble_eq_true rfl) (fun y8 τ9 h9 => ?_)
        obtain ⟨q2, rfl⟩ := h9
        have q2 : y8 = hsS (σ 167) (σ 163) (σ 114 63).toNat g (υ 162 i) := by rw [q2, e63, e163, e167]; exact hsS_cong (g := υ 165) (fun j x y => hH j x (by omega))
        have q3 : rdS (σ 162) (σ 163) (σ 164) (σ 167) (σ 114 63).toNat g i = if y8 < z8 then υ 164 i * y8 / z8 else υ 164 i := by rw [q1, q2, f162, f164]; rfl
        refine x_istore (E_X11_goRounds_0 49 rfl) rfl ?_
        refine x_aload_n (E_X11_goRounds_0 50 rfl) rfl ?_
        refine x_getR (E_X11_goRounds_0 51 rfl) fl_X11_168 rfl (by decide) rfl ?_
        refine x_iload_n (E_X11_goRounds_0 52 rfl) rfl ?_
        refine x_iload (E_X11_goRounds_0 53 rfl) rfl ?_
        refine x_iload (E_X11_goRounds_0 54 rfl) rfl ?_
        refine x_icmp_ge (E_X11_goRounds_0 55 rfl) (by omega) (by omega) (fun c2 => ?_) (fun c2 => ?_)
        · refine x_aload_n (E_X11_goRounds_1 9 rfl) rfl ?_
          refine x_getR (E_X11_goRounds_1 10 rfl) fl_X11_162 rfl (by decide) rfl ?_
          refine x_iload_n (E_X11_goRounds_1 11 rfl) rfl ?_
          refine x_ialde (f := υ 164) (E_X11_goRounds_1 12 rfl) rfl (by decide) (by omega) rfl ?_
          refine x_iast (E_X11_goRounds_1 13 rfl) rfl (by decide) (by omega) ?_
          refine x_iinc (E_X11_goRounds_1 14 rfl) rfl rfl ?_
          refine x_goto (E_X11_goRounds_1 15 rfl) ?_
          refine ihB (q - 1) (by omega) _ _ _ _ (by omega) (by omega) (fun d a b => ?_) hH hc2 (hF2.up (by decide)) (hO2.un (by decide))
          refine Eq.trans (show _ = (if d = i then _ else υ 166 d) from rfl) ?_
          by_cases e : d = i
          · rw [if_pos e, e, q3]
            first | exact (if_neg (by omega)).symm | exact (l2i_s (by omega)).trans (if_pos (by omega)).symm
          · rw [if_neg e]; exact hX d a (by omega)
        · have p9 := part_rg (v := υ 164 i) (h := y8) (o := z8) (by omega) (by omega) (by omega)
          refine x_aload_n (E_X11_goRounds_0 56 rfl) rfl ?_
          refine x_getR (E_X11_goRounds_0 57 rfl) fl_X11_162 rfl (by decide) rfl ?_
          refine x_iload_n (E_X11_goRounds_0 58 rfl) rfl ?_
          refine x_ialde (f := υ 164) (E_X11_goRounds_0 59 rfl) rfl (by decide) (by omega) rfl ?_
          refine x_i2l (E_X11_goRounds_1 0 rfl) (by omega) ?_
          refine x_iload (E_X11_goRounds_1 1 rfl) rfl ?_
          refine x_i2l (E_X11_goRounds_1 2 rfl) (by omega) ?_
          refine x_lmul (E_X11_goRounds_1 3 rfl) ?_
          refine x_iload (E_X11_goRounds_1 4 rfl) rfl ?_
          refine x_i2l (E_X11_goRounds_1 5 rfl) (by omega) ?_
          refine x_ldiv (E_X11_goRounds_1 6 rfl) (by omega) (by omega) ?_
          refine x_l2i (E_X11_goRounds_1 7 rfl) ?_
          refine x_goto (E_X11_goRounds_1 8 rfl) ?_
          refine x_iast (E_X11_goRounds_1 13 rfl) rfl (by decide) (by omega) ?_
          refine x_iinc (E_X11_goRounds_1 14 rfl) rfl rfl ?_
          refine x_goto (E_X11_goRounds_1 15 rfl) ?_
          refine ihB (q - 1) (by omega) _ _ _ _ (by omega) (by omega) (fun d a b => ?_) hH hc2 (hF2.up (by decide)) (hO2.un (by decide))
          refine Eq.trans (show _ = (if d = i then _ else υ 166 d) from rfl) ?_
          by_cases e : d = i
          · rw [if_pos e, e, q3]
            first | exact (if_neg (by omega)).symm | exact (l2i_s (by omega)).trans (if_pos (by omega)).symm
          · rw [if_neg e]; exact hX d a (by omega)
    refine x_iload_n (E_X11_goRounds_0 23 rfl) rfl ?_
    refine x_bipush (z := 50) (E_X11_goRounds_0 24 rfl) (by decide) ?_
    refine x_icmp_ge (E_X11_goRounds_0 25 rfl) (by omega) (by decide) (fun c1 => ?_) (fun c1 => ?_)
    · refine z_vret (E_X11_goRounds_1 56 rfl) trivial ?_
      have e : (g, c) = (goS (σ 162) (σ 163) (σ 164) (σ 167) (σ 114 63).toNat 50 (σ 164) 0) := h01.elim h0 (fun e => by have q := h1 e; rw [show k = 0 by omega] at q; exact q)
      refine ⟨fun d a b => ?_, ?_, hF, hO⟩
      · rw [h165 d a b, ← e]; exact ⟨rfl, hg d a b⟩
      · rw [hc, ← e]; exact ⟨rfl, by omega⟩
    · refine x_iload_n (E_X11_goRounds_0 26 rfl) rfl ?_
      refine x_if_eq (E_X11_goRounds_0 27 rfl) (by omega) (fun c2 => ?_) (fun c2 => ?_)
      · refine z_vret (E_X11_goRounds_1 56 rfl) trivial ?_
        have e : (g, c) = (goS (σ 162) (σ 163) (σ 164) (σ 167) (σ 114 63).toNat 50 (σ 164) 0) := h01.elim h0 (fun e => by have q := h1 e; rw [show k = 0 by omega] at q; exact q)
        refine ⟨fun d a b => ?_, ?_, hF, hO⟩
        · rw [h165 d a b, ← e]; exact ⟨rfl, hg d a b⟩
        · rw [hc, ← e]; exact ⟨rfl, by omega⟩
      · refine x_iconst (E_X11_goRounds_0 28 rfl) ?_
        refine x_istore_n (E_X11_goRounds_0 29 rfl) rfl ?_
        refine x_iconst (E_X11_goRounds_0 30 rfl) ?_
        refine x_istore_n (E_X11_goRounds_0 31 rfl) rfl ?_
        exact loopB (by omega) (h1 (by omega)) (σ 114 63).toNat 0 _ _ τ (by omega) (Nat.le_refl _) (fun d a b => absurd a (by omega)) h165 hc hF hO
  have loop1 : ∀ (k : Nat) (i : Int) (τ : Nat → Int → Int), i = σ 114 63 - k → k ≤ (σ 114 63).toNat → (∀ d, 0 ≤ d → d < i → τ 165 d = σ 164 d) → Fr [165] σ τ → XV l G M_X11_goRounds 1 2 [some (vr 114), some (vi i), none, none, none, none] [] τ (GrP σ) := by
    intro k
    induction k using Nat.strongRecOn with
    | _ k ih =>
    intro i τ hi hk hA hF
    have e63 := congrFun (hF 114 (by decide)) 63
    have e164 := congrFun (hF 164 (by decide)) i
    refine x_iload_n (E_X11_goRounds_0 2 rfl) rfl ?_
    refine x_aload_n (E_X11_goRounds_0 3 rfl) rfl ?_
    refine x_getIe (v := τ 114 63) (E_X11_goRounds_0 4 rfl) fl_X11_390 rfl (by decide) rfl ?_
    refine x_icmp_ge (E_X11_goRounds_0 5 rfl) (by omega) (by omega) (fun c1 => ?_) (fun c1 => ?_)
    · refine x_aload_n (E_X11_goRounds_0 16 rfl) rfl ?_
      refine x_iconst (E_X11_goRounds_0 17 rfl) ?_
      refine x_putI (E_X11_goRounds_0 18 rfl) fl_X11_438 rfl (by decide) ?_
      refine x_iconst (E_X11_goRounds_0 19 rfl) ?_
      refine x_istore_n (E_X11_goRounds_0 20 rfl) rfl ?_
      refine x_iconst (E_X11_goRounds_0 21 rfl) ?_
      refine x_istore_n (E_X11_goRounds_0 22 rfl) rfl ?_
      exact loopA 50 0 1 0 (σ 164) none none none _ (by omega) (Nat.le_refl _) (Or.inr rfl) (fun _ => rfl) (fun h => absurd h (by decide)) (fun j x y => by have := hd.2.1 j x (by omega); omega) (fun d a b => hA d a (by omega)) rfl (by omega) ((hF.sub (by decide)).up (by decide)) ((Fo.of hF (by decide)).up (by decide))
    · refine x_aload_n (E_X11_goRounds_0 6 rfl) rfl ?_
      refine x_getR (E_X11_goRounds_0 7 rfl) fl_X11_165 rfl (by decide) rfl ?_
      refine x_iload_n (E_X11_goRounds_0 8 rfl) rfl ?_
      refine x_aload_n (E_X11_goRounds_0 9 rfl) rfl ?_
      refine x_getR (E_X11_goRounds_0 10 rfl) fl_X11_162 rfl (by decide) rfl ?_
      refine x_iload_n (E_X11_goRounds_0 11 rfl) rfl ?_
      refine x_ialde (f := τ 164) (E_X11_goRounds_0 12 rfl) rfl (by decide) (by omega) rfl ?_
      refine x_iast (E_X11_goRounds_0 13 rfl) rfl (by decide) (by omega) ?_
      refine x_iinc (E_X11_goRounds_0 14 rfl) rfl rfl ?_
      refine x_goto (E_X11_goRounds_0 15 rfl) ?_
      refine ih (k - 1) (by omega) _ _ (by omega) (by omega) (fun d a b => ?_) (hF.up (by decide))
      show (if d = i then τ 164 i else τ 165 d) = _
      by_cases e : d = i
      · rw [if_pos e, e164, e]
      · rw [if_neg e]; exact hA d a (by omega)
  refine x_iconst (E_X11_goRounds_0 0 rfl) ?_
  refine x_istore_n (E_X11_goRounds_0 1 rfl) rfl ?_
  exact loop1 (σ 114 63).toNat 0 σ (by omega) (Nat.le_refl _) (fun d a b => absurd a (by omega)) Fr.rf

