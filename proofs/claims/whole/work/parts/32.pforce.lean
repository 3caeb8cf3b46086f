/-! the pair of force -/
variable {l : Launch} {G : GC} {σ : Nat → Int → Int}

theorem KR.key {v f s : Int} (h : KR v f s) {k : Nat} (hk : k < 4) : kyS v k = if (k : Int) < s then f / 4 ^ k % 4 else -1 := by
  have := h.2.2.2.1 k hk
  unfold kyS
  split
  · have := this.1 (by assumption); omega
  · have := this.2 (by omega); omega
theorem KR.many {v f s : Int} (h : KR v f s) : nkS v 4 = s := by
  have h0 := h.key (k := 0) (by omega)
  have h1 := h.key (k := 1) (by omega)
  have h2 := h.key (k := 2) (by omega)
  have h3 := h.key (k := 3) (by omega)
  have hs := h.1
  show 0 + (if kyS v 0 = -1 then 0 else 1) + (if kyS v 1 = -1 then 0 else 1) + (if kyS v 2 = -1 then 0 else 1) + (if kyS v 3 = -1 then 0 else 1) = s
  generalize kyS v 0 = a at h0 ⊢
  generalize kyS v 1 = b at h1 ⊢
  generalize kyS v 2 = c at h2 ⊢
  generalize kyS v 3 = e at h3 ⊢
  have g0 : (0 ≤ f / 4 ^ 0 % 4) := by omega
  have g1 : (0 ≤ f / 4 ^ 1 % 4) := by omega
  have g2 : (0 ≤ f / 4 ^ 2 % 4) := by omega
  have g3 : (0 ≤ f / 4 ^ 3 % 4) := by omega
  generalize f / 4 ^ 0 % 4 = a' at h0 g0
  generalize f / 4 ^ 1 % 4 = b' at h1 g1
  generalize f / 4 ^ 2 % 4 = c' at h2 g2
  generalize f / 4 ^ 3 % 4 = e' at h3 g3
  rcases (by omega : s = 1 ∨ s = 2 ∨ s = 3 ∨ s = 4) with rfl | rfl | rfl | rfl <;> simp at h0 h1 h2 h3 <;> (repeat' split) <;> omega
theorem k4_b {f k : Int} (hf : 0 ≤ f ∧ f < 256) (hk : 0 ≤ k ∧ k ≤ 3) : bAnd (bShr f (2 * k)) 3 = f / 4 ^ k.toNat % 4 := by
  rw [bShr_i (by omega) (by omega)]
  rcases (by omega : k = 0 ∨ k = 1 ∨ k = 2 ∨ k = 3) with rfl | rfl | rfl | rfl
  · show bAnd (f / 1) 3 = f / 1 % 4
    rw [bAnd_3 (by omega)]
  · show bAnd (f / 4) 3 = f / 4 % 4
    rw [bAnd_3 (by omega)]
  · show bAnd (f / 16) 3 = f / 16 % 4
    rw [bAnd_3 (by omega)]
  · show bAnd (f / 64) 3 = f / 64 % 4
    rw [bAnd_3 (by omega)]
set_option maxRecDepth 100000 in
theorem FtP.sd {dy cl : Int → Int} {cd vl : Int → Int → Int} {d : Int} {σ τ : Nat → Int → Int} (h : FtP dy cl cd vl d σ τ) : Sd σ τ := by
  obtain ⟨-, -, hF, hO⟩ := h
  exact ⟨⟨List.forall_mem_cons.mpr ⟨hF 2 (by decide), List.forall_mem_cons.mpr ⟨hF 3 (by decide), List.forall_mem_cons.mpr ⟨hF 4 (by decide), List.forall_mem_cons.mpr ⟨hF 5 (by decide), List.forall_mem_cons.mpr ⟨hF 6 (by decide), List.forall_mem_cons.mpr ⟨hF 115 (by decide), List.forall_mem_cons.mpr ⟨hF 116 (by decide), List.forall_mem_cons.mpr ⟨hF 117 (by decide), List.forall_mem_cons.mpr ⟨hF 119 (by decide), List.forall_mem_cons.mpr ⟨hF 120 (by decide), List.forall_mem_cons.mpr ⟨hF 105 (by decide), List.forall_mem_cons.mpr ⟨hF 121 (by decide), List.forall_mem_cons.mpr ⟨hF 8 (by decide), List.forall_mem_cons.mpr ⟨hF 9 (by decide), List.forall_mem_cons.mpr ⟨hF 10 (by decide), List.forall_mem_cons.mpr ⟨hF 11 (by decide), List.forall_mem_cons.mpr ⟨hF 12 (by decide), List.forall_mem_cons.mpr ⟨hF 13 (by decide), List.forall_mem_cons.mpr ⟨hF 14 (by decide), List.forall_mem_cons.mpr ⟨hF 122 (by decide), List.forall_mem_cons.mpr ⟨hF 123 (by decide), List.forall_mem_cons.mpr ⟨hF 124 (by decide), List.forall_mem_cons.mpr ⟨hF 125 (by decide), List.forall_mem_cons.mpr ⟨hF 126 (by decide), List.forall_mem_cons.mpr ⟨hF 127 (by decide), List.forall_mem_cons.mpr ⟨hF 128 (by decide), List.forall_mem_cons.mpr ⟨hF 15 (by decide), List.forall_mem_cons.mpr ⟨hF 18 (by decide), List.forall_mem_cons.mpr ⟨hF 19 (by decide), List.forall_mem_cons.mpr ⟨hF 133 (by decide), List.forall_mem_cons.mpr ⟨hF 134 (by decide), List.forall_mem_cons.mpr ⟨hF 21 (by decide), List.forall_mem_cons.mpr ⟨hF 22 (by decide), List.forall_mem_cons.mpr ⟨hF 23 (by decide), List.forall_mem_cons.mpr ⟨hF 24 (by decide), List.forall_mem_cons.mpr ⟨hF 25 (by decide), List.forall_mem_cons.mpr ⟨hF 26 (by decide), List.forall_mem_cons.mpr ⟨hF 27 (by decide), List.forall_mem_cons.mpr ⟨hF 28 (by decide), List.forall_mem_cons.mpr ⟨hF 30 (by decide), List.forall_mem_cons.mpr ⟨hF 31 (by decide), List.forall_mem_cons.mpr ⟨hF 32 (by decide), List.forall_mem_cons.mpr ⟨hF 33 (by decide), List.forall_mem_cons.mpr ⟨hF 34 (by decide), List.forall_mem_cons.mpr ⟨hF 35 (by decide), List.forall_mem_cons.mpr ⟨hF 36 (by decide), List.forall_mem_cons.mpr ⟨hF 37 (by decide), List.forall_mem_cons.mpr ⟨hF 135 (by decide), List.forall_mem_cons.mpr ⟨hF 136 (by decide), List.forall_mem_cons.mpr ⟨hF 137 (by decide), List.forall_mem_cons.mpr ⟨hF 38 (by decide), List.forall_mem_cons.mpr ⟨hF 42 (by decide), List.forall_mem_cons.mpr ⟨hF 138 (by decide), List.forall_mem_cons.mpr ⟨hF 75 (by decide), List.forall_mem_cons.mpr ⟨hF 76 (by decide), List.forall_mem_cons.mpr ⟨hF 77 (by decide), List.forall_mem_cons.mpr ⟨hF 78 (by decide), List.forall_mem_cons.mpr ⟨hF 155 (by decide), List.forall_mem_cons.mpr ⟨hF 156 (by decide), List.forall_mem_cons.mpr ⟨hF 157 (by decide), List.forall_mem_cons.mpr ⟨hF 158 (by decide), List.forall_mem_cons.mpr ⟨hF 80 (by decide), List.forall_mem_cons.mpr ⟨hF 81 (by decide), List.forall_mem_cons.mpr ⟨hF 82 (by decide), List.forall_mem_cons.mpr ⟨hF 83 (by decide), List.forall_mem_cons.mpr ⟨hF 84 (by decide), List.forall_mem_cons.mpr ⟨hF 85 (by decide), List.forall_mem_cons.mpr ⟨hF 86 (by decide), List.forall_mem_cons.mpr ⟨hF 87 (by decide), List.forall_mem_cons.mpr ⟨hF 159 (by decide), List.forall_mem_cons.mpr ⟨hF 89 (by decide), List.forall_mem_cons.mpr ⟨hF 90 (by decide), List.forall_mem_cons.mpr ⟨hF 91 (by decide), List.forall_mem_cons.mpr ⟨hF 92 (by decide), List.forall_mem_cons.mpr ⟨hF 160 (by decide), List.forall_mem_cons.mpr ⟨hF 97 (by decide), List.forall_mem_cons.mpr ⟨hF 98 (by decide), List.forall_mem_cons.mpr ⟨hF 99 (by decide), List.forall_mem_cons.mpr ⟨hF 162 (by decide), List.forall_mem_cons.mpr ⟨hF 163 (by decide), List.forall_mem_cons.mpr ⟨hF 164 (by decide), List.forall_mem_cons.mpr ⟨hF 101 (by decide), List.forall_mem_cons.mpr ⟨hF 167 (by decide), List.forall_mem_cons.mpr ⟨hF 106 (by decide), List.forall_mem_cons.mpr ⟨hF 168 (by decide), fun _ h => nomatch h⟩⟩⟩⟩⟩⟩⟩⟩⟩⟩⟩⟩⟩⟩⟩⟩⟩⟩⟩⟩⟩⟩⟩⟩⟩⟩⟩⟩⟩⟩⟩⟩⟩⟩⟩⟩⟩⟩⟩⟩⟩⟩⟩⟩⟩⟩⟩⟩⟩⟩⟩⟩⟩⟩⟩⟩⟩⟩⟩⟩⟩⟩⟩⟩⟩⟩⟩⟩⟩⟩⟩⟩⟩⟩⟩⟩⟩⟩⟩⟩⟩⟩⟩⟩⟩, List.forall_mem_cons.mpr ⟨congrFun (hF 0 (by decide)) 0, List.forall_mem_cons.mpr ⟨hO 0 (by decide), List.forall_mem_cons.mpr ⟨congrFun (hF 1 (by decide)) 5, List.forall_mem_cons.mpr ⟨hO 1 (by decide), List.forall_mem_cons.mpr ⟨congrFun (hF 7 (by decide)) 9, List.forall_mem_cons.mpr ⟨hO 9 (by decide), List.forall_mem_cons.mpr ⟨congrFun (hF 17 (by decide)) 8, List.forall_mem_cons.mpr ⟨hO 22 (by decide), List.forall_mem_cons.mpr ⟨congrFun (hF 41 (by decide)) 1, List.forall_mem_cons.mpr ⟨hO 29 (by decide), List.forall_mem_cons.mpr ⟨congrFun (hF 41 (by decide)) 6, List.forall_mem_cons.mpr ⟨hO 32 (by decide), List.forall_mem_cons.mpr ⟨congrFun (hF 74 (by decide)) 4, List.forall_mem_cons.mpr ⟨hO 54 (by decide), List.forall_mem_cons.mpr ⟨congrFun (hF 88 (by decide)) 7, List.forall_mem_cons.mpr ⟨hO 60 (by decide), List.forall_mem_cons.mpr ⟨congrFun (hF 96 (by decide)) 4, List.forall_mem_cons.mpr ⟨hO 63 (by decide), fun _ h => nomatch h⟩⟩⟩⟩⟩⟩⟩⟩⟩⟩⟩⟩⟩⟩⟩⟩⟩⟩⟩, congrFun (hF 17 (by decide)) 7, hF 40 (by decide)⟩
theorem c_X11_force {w d : Int} {dy cl : Int → Int} {cd vl : Int → Int → Int} (q1 : rgi w) (q2 : rgi d) (hT : TmM dy cl cd vl σ) : CI l G M_X11_force 2 [vr 114, vi w, vi d] σ (fun z τ => (¬ ((0 ≤ w ∧ w ≤ 13) ∧ 0 ≤ d ∧ d ≤ 2000) ∧ z = -1002 ∧ τ = σ) ∨ (((0 ≤ w ∧ w ≤ 13) ∧ 0 ≤ d ∧ d ≤ 2000) ∧ z = frS (heldS dy cl cd vl (σ 114 22).toNat d) w ∧ FtP dy cl cd vl d σ τ)) := by
  refine Ct.of rfl (Nat.le_of_ble_eq_true rfl) ?_
  refine x_iload_n (E_X11_force_0 0 rfl) rfl ?_
  refine x_i2l (E_X11_force_0 1 rfl) (by omega) ?_
  refine x_lconst (z := 0) (E_X11_force_0 2 rfl) rfl ?_
  refine x_ldc2 (z := 13) (E_X11_force_0 3 rfl) kc_X11_339 (by decide) ?_
  refine z_callSi (E_X11_force_0 4 rfl) ml_X11_197 ms_X11_in (c_X11_in (by omega) (by omega) (by omega)) (by decide) rfl rfl (Nat.le_of_ble_eq_true rfl) (fun z9 τ9 h9 => ?_)
  obtain ⟨rfl, ⟨rfl, c1⟩ | ⟨rfl, c1⟩⟩ := h9
  · refine x_if_eq (E_X11_force_0 5 rfl) (by decide) (fun c9 => absurd c9 (by decide)) (fun _ => ?_)
    refine x_iload_n (E_X11_force_0 6 rfl) rfl ?_
    refine z_callSi (E_X11_force_0 7 rfl) ml_X11_326 ms_X11_isDay (c_X11_isDay (by omega)) (by decide) rfl rfl (Nat.le_of_ble_eq_true rfl) (fun z9 τ9 h9 => ?_)
    obtain ⟨rfl, ⟨rfl, c2⟩ | ⟨rfl, c2⟩⟩ := h9
    · refine x_if_ne (E_X11_force_0 8 rfl) (by decide) (fun _ => ?_) (fun c9 => absurd c9 (by decide))
      refine x_aload_n (E_X11_force_0 11 rfl) rfl ?_
      refine x_iload_n (E_X11_force_0 12 rfl) rfl ?_
      refine z_callVv (E_X11_force_0 13 rfl) ml_X11_341 mv_X11_findTerms rfl (by decide) (by decide) (c_X11_findTerms (by omega) hT) (by decide) rfl rfl (Nat.le_of_ble_eq_true rfl) (fun τ9 k9 => ?_)
      have kr := k9.2.1
      have kb := kr.1
      have kf := kr.2.2.1
      refine x_iload_n (E_X11_force_0 14 rfl) rfl ?_
      refine x_bipush (z := 9) (E_X11_force_0 15 rfl) (by decide) ?_
      refine x_icmp_ge (E_X11_force_0 16 rfl) (by omega) (by decide) (fun c3 => ?_) (fun c3 => ?_)
      · refine x_iload_n (E_X11_force_0 22 rfl) rfl ?_
        refine x_bipush (z := 9) (E_X11_force_0 23 rfl) (by decide) ?_
        refine x_icmp_ne (E_X11_force_0 24 rfl) (by omega) (by decide) (fun c4 => ?_) (fun c4 => ?_)
        · refine x_iload_n (E_X11_force_0 28 rfl) rfl ?_
          refine x_bipush (z := 10) (E_X11_force_0 29 rfl) (by decide) ?_
          refine x_isub (E_X11_force_0 30 rfl) ?_
          refine x_aload_n (E_X11_force_0 31 rfl) rfl ?_
          refine x_getIe (v := τ9 114 39) (E_X11_force_0 32 rfl) fl_X11_336 rfl (by decide) rfl ?_
          refine x_icmp_ge (E_X11_force_0 33 rfl) (by omega) (by omega) (fun c5 => ?_) (fun c5 => ?_)
          · refine x_iconst (E_X11_force_0 45 rfl) ?_
            refine z_iret (E_X11_force_0 46 rfl) trivial ?_
            exact Or.inr ⟨by omega, ((if_neg (show ¬ w < 9 by omega)).trans ((if_neg (show ¬ w = 9 by omega)).trans ((kr.key (k := (w - 10).toNat) (by omega)).trans (if_neg (by omega))))).symm, k9⟩
          · refine x_aload_n (E_X11_force_0 34 rfl) rfl ?_
            refine x_getIe (v := τ9 114 38) (E_X11_force_0 35 rfl) fl_X11_333 rfl (by decide) rfl ?_
            refine x_iconst (E_X11_force_0 36 rfl) ?_
            refine x_iload_n (E_X11_force_0 37 rfl) rfl ?_
            refine x_bipush (z := 10) (E_X11_force_0 38 rfl) (by decide) ?_
            refine x_isub (E_X11_force_0 39 rfl) ?_
            refine x_imul (E_X11_force_0 40 rfl) ?_
            refine x_ishr (E_X11_force_0 41 rfl) ?_
            refine x_iconst (E_X11_force_0 42 rfl) ?_
            refine x_iand (E_X11_force_0 43 rfl) ?_
            refine x_goto (E_X11_force_0 44 rfl) ?_
            refine z_iret (E_X11_force_0 46 rfl) trivial ?_
            exact Or.inr ⟨by omega, (k4_b (by omega) (by omega)).trans ((if_neg (show ¬ w < 9 by omega)).trans ((if_neg (show ¬ w = 9 by omega)).trans ((kr.key (k := (w - 10).toNat) (by omega)).trans (if_pos (by omega))))).symm, k9⟩
        · refine x_aload_n (E_X11_force_0 25 rfl) rfl ?_
          refine x_getIe (v := τ9 114 39) (E_X11_force_0 26 rfl) fl_X11_336 rfl (by decide) rfl ?_
          refine x_goto (E_X11_force_0 27 rfl) ?_
          refine z_iret (E_X11_force_0 46 rfl) trivial ?_
          exact Or.inr ⟨by omega, ((if_neg (show ¬ w < 9 by omega)).trans ((if_pos (show w = 9 by omega)).trans kr.many)).symm, k9⟩
      · refine x_aload_n (E_X11_force_0 17 rfl) rfl ?_
        refine x_getR (E_X11_force_0 18 rfl) fl_X11_93 rfl (by decide) rfl ?_
        refine x_iload_n (E_X11_force_0 19 rfl) rfl ?_
        refine x_ialde (f := τ9 141) (E_X11_force_0 20 rfl) rfl (by decide) (by omega) rfl ?_
        refine x_goto (E_X11_force_0 21 rfl) ?_
        refine z_iret (E_X11_force_0 46 rfl) trivial ?_
        exact Or.inr ⟨by omega, (k9.1 w (by omega) (by omega)).trans (if_pos (show w < 9 by omega)).symm, k9⟩
    · refine x_if_ne (E_X11_force_0 8 rfl) (by decide) (fun c9 => absurd c9 (by decide)) (fun _ => ?_)
      refine x_sipush (z := (-1002)) (E_X11_force_0 9 rfl) (by decide) ?_
      refine z_iret (E_X11_force_0 10 rfl) trivial ?_
      exact Or.inl ⟨by omega, rfl, rfl⟩
  · refine x_if_eq (E_X11_force_0 5 rfl) (by decide) (fun _ => ?_) (fun c9 => absurd (by decide) c9)
    refine x_sipush (z := (-1002)) (E_X11_force_0 9 rfl) (by decide) ?_
    refine z_iret (E_X11_force_0 10 rfl) trivial ?_
    exact Or.inl ⟨by omega, rfl, rfl⟩
theorem RTerms.model {σ τ : Nat → Int → Int} (h : RTerms (σ 17 8) (σ 114 22) (σ 18) (σ 19) (σ 133) (σ 134) (cdq σ) (vlq σ) (σ 135) (σ 136) (σ 137) (σ 38)) (hs : Sc σ τ) : TmM (σ 18) (σ 19) (cdq σ) (vlq σ) τ := by
  obtain ⟨e22, h22, ⟨e1, e2⟩, h4, -⟩ := h
  have f22 : τ 114 22 = σ 17 8 := (hs.2 (114, 22) (by decide)).trans e22
  refine ⟨by rw [f22]; exact h22, (hs.1 133 (by decide)).trans e1, (hs.1 134 (by decide)).trans e2, ?_⟩
  rw [f22, hs.1 135 (by decide), hs.1 136 (by decide), hs.1 137 (by decide)]
  exact h4
theorem frS_rg {h : Int → Int} {w : Int} (hw : 0 ≤ w) (hh : ∀ q, 0 ≤ q ∧ q < 10 → 0 ≤ h q ∧ h q ≤ 4095) : rgi (frS h w) := by
  unfold frS
  split
  · have := hh w (by omega); omega
  · split
    · have := nkS_rg (v := h 9) (k := 4); omega
    · have := kyS_rg (v := h 9) (k := (w - 10).toNat); omega
theorem pair_force {w d : Int} (hR : RR σ) (q1 : rgi w) (q2 : rgi d) : Pair l G M_X10_force 5 M_X11_force 2 [vi w, vi d] σ := by
  have hR0 := hR
  obtain ⟨-, -, -, -, r5, -, -, -, -, -, -, r12⟩ := hR
  have ok := r5.ok
  refine ⟨_, c_X10_force q1 q2 ok r5.2.2.2.2 r12, fun z τ c1 => ?_⟩
  rcases c1 with ⟨a, rfl, rfl⟩ | ⟨a, rfl, c1⟩
  · refine ⟨by omega, CI_mono (c_X11_force q1 q2 (r5.model ⟨fun _ _ => rfl, fun _ _ => rfl⟩)) (fun z υ c2 => ?_)⟩
    rcases c2 with ⟨b, rfl, rfl⟩ | ⟨b, -, -⟩
    · exact ⟨rfl, hR0⟩
    · exact absurd b a
  · refine ⟨frS_rg a.1.1 (fun q hq => ok.held hq), CI_mono (c_X11_force q1 q2 (r5.model c1.sc)) (fun z υ c2 => ?_)⟩
    have f22 : τ 114 22 = σ 17 8 := (c1.sc.2 (114, 22) (by decide)).trans r5.1
    rcases c2 with ⟨b, -, -⟩ | ⟨b, rfl, c2⟩
    · exact absurd a b
    · rw [f22]
      exact ⟨rfl, c2.sd.rr (c1.rr a.2 hR0)⟩

