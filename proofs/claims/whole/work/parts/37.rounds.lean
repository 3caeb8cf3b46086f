/-! rounds -/
variable {l : Launch} {G : GC} {σ : Nat → Int → Int}

/-- what receive leaves -/
def RcP (σ τ : Nat → Int → Int) : Prop := (∀ h, 0 ≤ h → h < 8 → τ 103 h = hsS (σ 101) (σ 98) (σ 96 4).toNat (σ 100) h) ∧ Fr [103] σ τ
set_option maxHeartbeats 1000000 in
theorem c_X1_receive (hd : DuOk (σ 96 4).toNat (σ 97) (σ 98) (σ 99) (σ 101)) (hn : 0 ≤ σ 96 4) : CV l G M_X1_receive 0 [vr 96] σ (RcP σ) := by
  have n24 := hd.1
  refine Ct.of rfl (Nat.le_of_ble_eq_true rfl) ?_
  have loop2 : ∀ (k : Nat) (i : Int) (τ : Nat → Int → Int), i = σ 96 4 - k → k ≤ (σ 96 4).toNat → (∀ h, 0 ≤ h → h < 8 → τ 103 h = hsS (σ 101) (σ 98) i.toNat (σ 100) h) → Fr [103] σ τ → XV l G M_X1_receive 0 28 [some (vr 96), some (vi i)] [] τ (RcP σ) := by
    intro k
    induction k using Nat.strongRecOn with
    | _ k ih =>
    intro i τ hi hk hA hF
    have e4 := congrFun (hF 96 (by decide)) 4
    have e98 := congrFun (hF 98 (by decide)) i
    have e100 := congrFun (hF 100 (by decide)) i
    refine x_iload_n (E_X1_receive_0 17 rfl) rfl ?_
    refine x_aload_n (E_X1_receive_0 18 rfl) rfl ?_
    refine x_getIe (v := τ 96 4) (E_X1_receive_0 19 rfl) fl_X1_33 rfl (by decide) rfl ?_
    refine x_icmp_ge (E_X1_receive_0 20 rfl) (by omega) (by omega) (fun c1 => ?_) (fun c1 => ?_)
    · refine z_vret (E_X1_receive_0 37 rfl) trivial ?_
      exact ⟨fun h a b => by rw [hA h a b, show i = σ 96 4 by omega], hF⟩
    · have d9 := hd.2.1 i (by omega) (by omega)
      refine x_aload_n (E_X1_receive_0 21 rfl) rfl ?_
      refine x_getR (E_X1_receive_0 22 rfl) fl_X1_30 rfl (by decide) rfl ?_
      refine x_aload_n (E_X1_receive_0 23 rfl) rfl ?_
      refine x_getR (E_X1_receive_0 24 rfl) fl_X1_15 rfl (by decide) rfl ?_
      refine x_iload_n (E_X1_receive_0 25 rfl) rfl ?_
      refine x_ialde (f := τ 98) (E_X1_receive_0 26 rfl) rfl (by decide) (by omega) rfl ?_
      refine x_dup2 (E_X1_receive_0 27 rfl) ?_
      refine x_ialde (f := τ 103) (E_X1_receive_0 28 rfl) rfl (by decide) (by omega) rfl ?_
      refine x_aload_n (E_X1_receive_0 29 rfl) rfl ?_
      refine x_getR (E_X1_receive_0 30 rfl) fl_X1_21 rfl (by decide) rfl ?_
      refine x_iload_n (E_X1_receive_0 31 rfl) rfl ?_
      refine x_ialde (f := τ 100) (E_X1_receive_0 32 rfl) rfl (by decide) (by omega) rfl ?_
      refine x_iadd (E_X1_receive_0 33 rfl) ?_
      refine x_iast (E_X1_receive_0 34 rfl) rfl (by decide) (by omega) ?_
      refine x_iinc (E_X1_receive_0 35 rfl) rfl rfl ?_
      refine x_goto (E_X1_receive_0 36 rfl) ?_
      refine ih (k - 1) (by omega) _ _ (by omega) (by omega) (fun h a b => ?_) (hF.up (by decide))
      show (if h = τ 98 i then τ 103 (τ 98 i) + τ 100 i else τ 103 h) = σ 101 h + sumS (slS (σ 98) (σ 100) h) (i + 1).toNat
      rw [sumS_i (by omega)]
      have q9 : τ 103 h = σ 101 h + sumS (slS (σ 98) (σ 100) h) i.toNat := hA h a b
      dsimp only [slS] at q9 ⊢
      by_cases e : h = τ 98 i
      · rw [if_pos e, if_pos (by omega), ← e]; omega
      · rw [if_neg e, if_neg (by omega)]; omega
  have loop1 : ∀ (k : Nat) (i : Int) (τ : Nat → Int → Int), i = 8 - k → k ≤ 8 → (∀ h, 0 ≤ h → h < i → τ 103 h = σ 101 h) → Fr [103] σ τ → XV l G M_X1_receive 0 2 [some (vr 96), some (vi i)] [] τ (RcP σ) := by
    intro k
    induction k using Nat.strongRecOn with
    | _ k ih =>
    intro i τ hi hk hA hF
    have e101 := congrFun (hF 101 (by decide)) i
    refine x_iload_n (E_X1_receive_0 2 rfl) rfl ?_
    refine x_bipush (z := 8) (E_X1_receive_0 3 rfl) (by decide) ?_
    refine x_icmp_ge (E_X1_receive_0 4 rfl) (by omega) (by decide) (fun c1 => ?_) (fun c1 => ?_)
    · refine x_iconst (E_X1_receive_0 15 rfl) ?_
      refine x_istore_n (E_X1_receive_0 16 rfl) rfl ?_
      refine loop2 (σ 96 4).toNat 0 τ (by omega) (Nat.le_refl _) (fun h a b => ?_) hF
      rw [hA h a (by omega)]
      show _ = σ 101 h + 0
      omega
    · refine x_aload_n (E_X1_receive_0 5 rfl) rfl ?_
      refine x_getR (E_X1_receive_0 6 rfl) fl_X1_30 rfl (by decide) rfl ?_
      refine x_iload_n (E_X1_receive_0 7 rfl) rfl ?_
      refine x_aload_n (E_X1_receive_0 8 rfl) rfl ?_
      refine x_getR (E_X1_receive_0 9 rfl) fl_X1_24 rfl (by decide) rfl ?_
      refine x_iload_n (E_X1_receive_0 10 rfl) rfl ?_
      refine x_ialde (f := τ 101) (E_X1_receive_0 11 rfl) rfl (by decide) (by omega) rfl ?_
      refine x_iast (E_X1_receive_0 12 rfl) rfl (by decide) (by omega) ?_
      refine x_iinc (E_X1_receive_0 13 rfl) rfl rfl ?_
      refine x_goto (E_X1_receive_0 14 rfl) ?_
      refine ih (k - 1) (by omega) _ _ (by omega) (by omega) (fun h a b => ?_) (hF.up (by decide))
      show (if h = i then τ 101 i else τ 103 h) = _
      by_cases e : h = i
      · rw [if_pos e, e101, e]
      · rw [if_neg e]; exact hA h a (by omega)
  refine x_iconst (E_X1_receive_0 0 rfl) ?_
  refine x_istore_n (E_X1_receive_0 1 rfl) rfl ?_
  exact loop1 8 0 σ (by omega) (Nat.le_refl _) (fun h a b => absurd a (by omega)) Fr.rf

/-- what begin leaves -/
def BgP (σ τ : Nat → Int → Int) : Prop := (∀ d, 0 ≤ d → d < σ 96 4 → τ 100 d = σ 99 d) ∧ (∀ h, 0 ≤ h → h < 8 → τ 102 h = owS (σ 97) (σ 99) (σ 96 4).toNat h) ∧ (∀ h, 0 ≤ h → h < 8 → τ 103 h = hsS (σ 101) (σ 98) (σ 96 4).toNat (σ 99) h) ∧ Fr [100, 102, 103] σ τ
set_option maxHeartbeats 1000000 in
theorem c_X1_begin (hd : DuOk (σ 96 4).toNat (σ 97) (σ 98) (σ 99) (σ 101)) (hn : 0 ≤ σ 96 4) : CV l G M_X1_begin 1 [vr 96] σ (BgP σ) := by
  have n24 := hd.1
  refine Ct.of rfl (Nat.le_of_ble_eq_true rfl) ?_
  have loop2 : ∀ (k : Nat) (i : Int) (τ : Nat → Int → Int), i = σ 96 4 - k → k ≤ (σ 96 4).toNat → (∀ d, 0 ≤ d → d < i → τ 100 d = σ 99 d) → (∀ h, 0 ≤ h → h < 8 → τ 102 h = owS (σ 97) (σ 99) i.toNat h) → Fr [100, 102] σ τ → XV l G M_X1_begin 1 23 [some (vr 96), some (vi i)] [] τ (BgP σ) := by
    intro k
    induction k using Nat.strongRecOn with
    | _ k ih =>
    intro i τ hi hk hG hA hF
    have e4 := congrFun (hF 96 (by decide)) 4
    have e97 := congrFun (hF 97 (by decide)) i
    have e99 := congrFun (hF 99 (by decide)) i
    refine x_iload_n (E_X1_begin_0 14 rfl) rfl ?_
    refine x_aload_n (E_X1_begin_0 15 rfl) rfl ?_
    refine x_getIe (v := τ 96 4) (E_X1_begin_0 16 rfl) fl_X1_33 rfl (by decide) rfl ?_
    refine x_icmp_ge (E_X1_begin_0 17 rfl) (by omega) (by omega) (fun c1 => ?_) (fun c1 => ?_)
    · have hd2 : DuOk (τ 96 4).toNat (τ 97) (τ 98) (τ 99) (τ 101) := by
        rw [e4, show τ 97 = σ 97 from hF 97 (by decide), show τ 98 = σ 98 from hF 98 (by decide), show τ 99 = σ 99 from hF 99 (by decide), show τ 101 = σ 101 from hF 101 (by decide)]
        exact hd
      refine x_aload_n (E_X1_begin_0 42 rfl) rfl ?_
      refine z_callVv (E_X1_begin_0 43 rfl) ml_X1_47 mv_X1_receive rfl (by decide) (by decide) (c_X1_receive hd2 (by omega)) (by decide) rfl rfl (Nat.le_of_ble_eq_true rfl) (fun τ9 h9 => ?_)
      refine z_vret (E_X1_begin_0 44 rfl) trivial ?_
      obtain ⟨c1, c2⟩ := h9
      have e4' : τ 96 = σ 96 := hF 96 (by decide)
      have e100 : τ9 100 = τ 100 := c2 100 (by decide)
      have e102 : τ9 102 = τ 102 := c2 102 (by decide)
      refine ⟨fun d a b => ?_, fun h a b => ?_, fun h a b => ?_, Fr.trans hF c2 (by decide) (by decide)⟩
      · rw [e100]; exact hG d a (by omega)
      · rw [e102, hA h a b, show i = σ 96 4 by omega]
      · rw [c1 h a b, e4', show τ 101 = σ 101 from hF 101 (by decide), show τ 98 = σ 98 from hF 98 (by decide)]
        exact hsS_cong (fun j x y => hG j x (by omega))
    · have d9 := hd.2.1 i (by omega) (by omega)
      refine x_aload_n (E_X1_begin_0 18 rfl) rfl ?_
      refine x_getR (E_X1_begin_0 19 rfl) fl_X1_21 rfl (by decide) rfl ?_
      refine x_iload_n (E_X1_begin_0 20 rfl) rfl ?_
      refine x_aload_n (E_X1_begin_0 21 rfl) rfl ?_
      refine x_getR (E_X1_begin_0 22 rfl) fl_X1_18 rfl (by decide) rfl ?_
      refine x_iload_n (E_X1_begin_0 23 rfl) rfl ?_
      refine x_ialde (f := τ 99) (E_X1_begin_0 24 rfl) rfl (by decide) (by omega) rfl ?_
      refine x_iast (E_X1_begin_0 25 rfl) rfl (by decide) (by omega) ?_
      refine x_aload_n (E_X1_begin_0 26 rfl) rfl ?_
      refine x_getR (E_X1_begin_0 27 rfl) fl_X1_27 rfl (by decide) rfl ?_
      refine x_aload_n (E_X1_begin_0 28 rfl) rfl ?_
      refine x_getR (E_X1_begin_0 29 rfl) fl_X1_11 rfl (by decide) rfl ?_
      refine x_iload_n (E_X1_begin_0 30 rfl) rfl ?_
      refine x_ialde (f := τ 97) (E_X1_begin_0 31 rfl) rfl (by decide) (by omega) rfl ?_
      refine x_dup2 (E_X1_begin_0 32 rfl) ?_
      refine x_ialde (f := τ 102) (E_X1_begin_0 33 rfl) rfl (by decide) (by omega) rfl ?_
      refine x_aload_n (E_X1_begin_0 34 rfl) rfl ?_
      refine x_getR (E_X1_begin_0 35 rfl) fl_X1_18 rfl (by decide) rfl ?_
      refine x_iload_n (E_X1_begin_0 36 rfl) rfl ?_
      refine x_ialde (f := τ 99) (E_X1_begin_0 37 rfl) rfl (by decide) (by omega) rfl ?_
      refine x_iadd (E_X1_begin_0 38 rfl) ?_
      refine x_iast (E_X1_begin_0 39 rfl) rfl (by decide) (by omega) ?_
      refine x_iinc (E_X1_begin_0 40 rfl) rfl rfl ?_
      refine x_goto (E_X1_begin_0 41 rfl) ?_
      refine ih (k - 1) (by omega) _ _ (by omega) (by omega) (fun d a b => ?_) (fun h a b => ?_) ((hF.up (by decide)).up (by decide))
      · show (if d = i then τ 99 i else τ 100 d) = _
        by_cases e : d = i
        · rw [if_pos e, e99, e]
        · rw [if_neg e]; exact hG d a (by omega)
      · show (if h = τ 97 i then τ 102 (τ 97 i) + τ 99 i else τ 102 h) = sumS (slS (σ 97) (σ 99) h) (i + 1).toNat
        rw [sumS_i (by omega)]
        have q9 : τ 102 h = sumS (slS (σ 97) (σ 99) h) i.toNat := hA h a b
        dsimp only [slS] at q9 ⊢
        by_cases e : h = τ 97 i
        · rw [if_pos e, if_pos (by omega), ← e]; omega
        · rw [if_neg e, if_neg (by omega)]; omega
  have loop1 : ∀ (k : Nat) (i : Int) (τ : Nat → Int → Int), i = 8 - k → k ≤ 8 → (∀ h, 0 ≤ h → h < i → τ 102 h = 0) → Fr [100, 102] σ τ → XV l G M_X1_begin 1 2 [some (vr 96), some (vi i)] [] τ (BgP σ) := by
    intro k
    induction k using Nat.strongRecOn with
    | _ k ih =>
    intro i τ hi hk hA hF
    refine x_iload_n (E_X1_begin_0 2 rfl) rfl ?_
    refine x_bipush (z := 8) (E_X1_begin_0 3 rfl) (by decide) ?_
    refine x_icmp_ge (E_X1_begin_0 4 rfl) (by omega) (by decide) (fun c1 => ?_) (fun c1 => ?_)
    · refine x_iconst (E_X1_begin_0 12 rfl) ?_
      refine x_istore_n (E_X1_begin_0 13 rfl) rfl ?_
      exact loop2 (σ 96 4).toNat 0 τ (by omega) (Nat.le_refl _) (fun d a b => absurd a (by omega)) (fun h a b => by rw [hA h a (by omega)]; rfl) hF
    · refine x_aload_n (E_X1_begin_0 5 rfl) rfl ?_
      refine x_getR (E_X1_begin_0 6 rfl) fl_X1_27 rfl (by decide) rfl ?_
      refine x_iload_n (E_X1_begin_0 7 rfl) rfl ?_
      refine x_iconst (E_X1_begin_0 8 rfl) ?_
      refine x_iast (E_X1_begin_0 9 rfl) rfl (by decide) (by omega) ?_
      refine x_iinc (E_X1_begin_0 10 rfl) rfl rfl ?_
      refine x_goto (E_X1_begin_0 11 rfl) ?_
      refine ih (k - 1) (by omega) _ _ (by omega) (by omega) (fun h a b => ?_) (hF.up (by decide))
      show (if h = i then 0 else τ 102 h) = 0
      by_cases e : h = i
      · rw [if_pos e]
      · rw [if_neg e]; exact hA h a (by omega)
  refine x_iconst (E_X1_begin_0 0 rfl) ?_
  refine x_istore_n (E_X1_begin_0 1 rfl) rfl ?_
  exact loop1 8 0 σ (by omega) (Nat.le_refl _) (fun h a b => absurd a (by omega)) Fr.rf

/-- what a round leaves -/
def RoP (g : Int → Int) (σ : Nat → Int → Int) (z : Int) (τ : Nat → Int → Int) : Prop := z = (if chS (σ 97) (σ 98) (σ 99) (σ 101) (σ 96 4).toNat g = true then 1 else 0) ∧ (∀ d, 0 ≤ d → d < σ 96 4 → τ 100 d = rdS (σ 97) (σ 98) (σ 99) (σ 101) (σ 96 4).toNat g d) ∧ (∀ h, 0 ≤ h → h < 8 → τ 103 h = hsS (σ 101) (σ 98) (σ 96 4).toNat (rdS (σ 97) (σ 98) (σ 99) (σ 101) (σ 96 4).toNat g) h) ∧ Fr [100, 103] σ τ
set_option maxHeartbeats 1000000 in
theorem c_X1_isRoundChanging (hd : DuOk (σ 96 4).toNat (σ 97) (σ 98) (σ 99) (σ 101)) (hn : 0 ≤ σ 96 4) {g : Int → Int} (hg : ∀ j, 0 ≤ j → j < σ 96 4 → 0 ≤ g j ∧ g j ≤ 9999) (h100 : ∀ d, 0 ≤ d → d < σ 96 4 → σ 100 d = g d) (h102 : ∀ h, 0 ≤ h → h < 8 → σ 102 h = owS (σ 97) (σ 99) (σ 96 4).toNat h) (h103 : ∀ h, 0 ≤ h → h < 8 → σ 103 h = hsS (σ 101) (σ 98) (σ 96 4).toNat g h) : CI l G M_X1_isRoundChanging 2 [vr 96] σ (RoP g σ) := by
  have n24 := hd.1
  refine Ct.of rfl (Nat.le_of_ble_eq_true rfl) ?_
  have loop : ∀ (k : Nat) (i c : Int) (o : Option AV) (τ : Nat → Int → Int), i = σ 96 4 - k → k ≤ (σ 96 4).toNat → c = (if anyS (fun d => decide (rdS (σ 97) (σ 98) (σ 99) (σ 101) (σ 96 4).toNat g d ≠ g d)) i.toNat = true then 1 else 0) → (∀ d, 0 ≤ d → d < i → τ 100 d = rdS (σ 97) (σ 98) (σ 99) (σ 101) (σ 96 4).toNat g d) → (∀ d, i ≤ d → τ 100 d = σ 100 d) → Fr [100] σ τ → XI l G M_X1_isRoundChanging 2 4 [some (vr 96), some (vi c), some (vi i), o] [] τ (RoP g σ) := by
    intro k
    induction k using Nat.strongRecOn with
    | _ k ih =>
    intro i c o τ hi hk hc hG hH hF
    have e4 := congrFun (hF 96 (by decide)) 4
    have e97 := congrFun (hF 97 (by decide)) i
    have e99 := congrFun (hF 99 (by decide)) i
    have c01 : c = 0 ∨ c = 1 := by rw [hc]; split <;> omega
    refine x_iload_n (E_X1_isRoundChanging_0 4 rfl) rfl ?_
    refine x_aload_n (E_X1_isRoundChanging_0 5 rfl) rfl ?_
    refine x_getIe (v := τ 96 4) (E_X1_isRoundChanging_0 6 rfl) fl_X1_33 rfl (by decide) rfl ?_
    refine x_icmp_ge (E_X1_isRoundChanging_0 7 rfl) (by omega) (by omega) (fun c1 => ?_) (fun c1 => ?_)
    · have hd2 : DuOk (τ 96 4).toNat (τ 97) (τ 98) (τ 99) (τ 101) := by
        rw [e4, show τ 97 = σ 97 from hF 97 (by decide), show τ 98 = σ 98 from hF 98 (by decide), show τ 99 = σ 99 from hF 99 (by decide), show τ 101 = σ 101 from hF 101 (by decide)]
        exact hd
      refine x_aload_n (E_X1_isRoundChanging_0 38 rfl) rfl ?_
      refine z_callVv (E_X1_isRoundChanging_0 39 rfl) ml_X1_47 mv_X1_receive rfl (by decide) (by decide) (c_X1_receive hd2 (by omega)) (by decide) rfl rfl (Nat.le_of_ble_eq_true rfl) (fun τ9 h9 => ?_)
      refine x_iload_n (E_X1_isRoundChanging_0 40 rfl) rfl ?_
      refine z_iret (E_X1_isRoundChanging_0 41 rfl) c01 ?_
      obtain ⟨c1, c2⟩ := h9
      have e4' : τ 96 = σ 96 := hF 96 (by decide)
      have e100 : τ9 100 = τ 100 := c2 100 (by decide)
      refine ⟨by rw [hc, show i = σ 96 4 by omega]; rfl, fun d a b => ?_, fun h a b => ?_, Fr.trans hF c2 (by decide) (by decide)⟩
      · rw [e100]; exact hG d a (by omega)
      · rw [c1 h a b, e4', show τ 101 = σ 101 from hF 101 (by decide), show τ 98 = σ 98 from hF 98 (by decide)]
        exact hsS_cong (fun j x y => hG j x (by omega))
    · have d9 := hd.2.1 i (by omega) (by omega)
      have e102 := congrFun (hF 102 (by decide)) (τ 97 i)
      have e103 := congrFun (hF 103 (by decide)) (τ 97 i)
      have q102 := h102 (τ 97 i) (by omega) (by omega)
      have q103 := h103 (τ 97 i) (by omega) (by omega)
      have w1 := hsS_rg (g := g) (h := τ 97 i) hd (by omega) (fun j x y => hg j x (by omega))
      have w2 := owS_rg (h := τ 97 i) hd
      have w3 := rdS_rg hd (fun j x y => hg j x (by omega)) (j := i) (by omega) (by omega)
      have w4 := hH i (by omega)
      have w5 := h100 i (by omega) (by omega)
      have w6 := hg i (by omega) (by omega)
      refine x_aload_n (E_X1_isRoundChanging_0 8 rfl) rfl ?_
      refine x_aload_n (E_X1_isRoundChanging_0 9 rfl) rfl ?_
      refine x_getR (E_X1_isRoundChanging_0 10 rfl) fl_X1_18 rfl (by decide) rfl ?_
      refine x_iload_n (E_X1_isRoundChanging_0 11 rfl) rfl ?_
      refine x_ialde (f := τ 99) (E_X1_isRoundChanging_0 12 rfl) rfl (by decide) (by omega) rfl ?_
      refine x_aload_n (E_X1_isRoundChanging_0 13 rfl) rfl ?_
      refine x_getR (E_X1_isRoundChanging_0 14 rfl) fl_X1_11 rfl (by decide) rfl ?_
      refine x_iload_n (E_X1_isRoundChanging_0 15 rfl) rfl ?_
      refine x_ialde (f := τ 97) (E_X1_isRoundChanging_0 16 rfl) rfl (by decide) (by omega) rfl ?_
      refine z_callVi (E_X1_isRoundChanging_0 17 rfl) ml_X1_50 mv_X1_partOf rfl (by decide) (by decide) (c_X1_partOf (by omega) (by omega) (by omega) (by omega)) (by decide) rfl rfl (Nat.le_of_ble_eq_true rfl) (fun z9 τ9 h9 => ?_)
      obtain ⟨e9, rfl⟩ := h9
      have r9 : z9 = rdS (σ 97) (σ 98) (σ 99) (σ 101) (σ 96 4).toNat g i := by
        rw [e9, e102, e103, q102, q103, e97, e99]
        rfl
      refine x_istore_n (E_X1_isRoundChanging_0 18 rfl) rfl ?_
      refine x_iload_n (E_X1_isRoundChanging_0 19 rfl) rfl ?_
      refine x_if_ne (E_X1_isRoundChanging_0 20 rfl) (by omega) (fun c2 => ?_) (fun c2 => ?_)
      · refine x_iconst (E_X1_isRoundChanging_0 27 rfl) ?_
        refine x_goto (E_X1_isRoundChanging_0 28 rfl) ?_
        refine x_istore_n (E_X1_isRoundChanging_0 30 rfl) rfl ?_
        refine x_aload_n (E_X1_isRoundChanging_0 31 rfl) rfl ?_
        refine x_getR (E_X1_isRoundChanging_0 32 rfl) fl_X1_21 rfl (by decide) rfl ?_
        refine x_iload_n (E_X1_isRoundChanging_0 33 rfl) rfl ?_
        refine x_iload_n (E_X1_isRoundChanging_0 34 rfl) rfl ?_
        refine x_iast (E_X1_isRoundChanging_0 35 rfl) rfl (by decide) (by omega) ?_
        refine x_iinc (E_X1_isRoundChanging_0 36 rfl) rfl rfl ?_
        refine x_goto (E_X1_isRoundChanging_0 37 rfl) ?_
        refine ih (k - 1) (by omega) _ _ _ _ (by omega) (by omega) ?_ (fun d a b => ?_) (fun d a => ?_) (hF.up (by decide))
        · rw [anyS_i (by omega)]
          by_cases a9 : anyS (fun d => decide (rdS (σ 97) (σ 98) (σ 99) (σ 101) (σ 96 4).toNat g d ≠ g d)) i.toNat = true
          · rw [if_pos a9] at hc
            rw [a9, Bool.true_or, if_pos rfl]
            try omega
          · rw [if_neg a9] at hc
            rw [Bool.not_eq_true] at a9
            rw [a9, Bool.false_or]
            by_cases b9 : rdS (σ 97) (σ 98) (σ 99) (σ 101) (σ 96 4).toNat g i = g i
            · rw [if_neg (by simp [b9])]
              try omega
            · rw [if_pos (by simp [b9])]
              try omega
        · show (if d = i then z9 else τ 100 d) = _
          by_cases e : d = i
          · rw [if_pos e, r9, e]
          · rw [if_neg e]; exact hG d a (by omega)
        · show (if d = i then z9 else τ 100 d) = _
          rw [if_neg (by omega)]; exact hH d (by omega)
      · refine x_iload_n (E_X1_isRoundChanging_0 21 rfl) rfl ?_
        refine x_aload_n (E_X1_isRoundChanging_0 22 rfl) rfl ?_
        refine x_getR (E_X1_isRoundChanging_0 23 rfl) fl_X1_21 rfl (by decide) rfl ?_
        refine x_iload_n (E_X1_isRoundChanging_0 24 rfl) rfl ?_
        refine x_ialde (f := τ 100) (E_X1_isRoundChanging_0 25 rfl) rfl (by decide) (by omega) rfl ?_
        refine x_icmp_eq (E_X1_isRoundChanging_0 26 rfl) (by omega) (by omega) (fun c3 => ?_) (fun c3 => ?_)
        · refine x_iconst (E_X1_isRoundChanging_0 29 rfl) ?_
          refine x_istore_n (E_X1_isRoundChanging_0 30 rfl) rfl ?_
          refine x_aload_n (E_X1_isRoundChanging_0 31 rfl) rfl ?_
          refine x_getR (E_X1_isRoundChanging_0 32 rfl) fl_X1_21 rfl (by decide) rfl ?_
          refine x_iload_n (E_X1_isRoundChanging_0 33 rfl) rfl ?_
          refine x_iload_n (E_X1_isRoundChanging_0 34 rfl) rfl ?_
          refine x_iast (E_X1_isRoundChanging_0 35 rfl) rfl (by decide) (by omega) ?_
          refine x_iinc (E_X1_isRoundChanging_0 36 rfl) rfl rfl ?_
          refine x_goto (E_X1_isRoundChanging_0 37 rfl) ?_
          refine ih (k - 1) (by omega) _ _ _ _ (by omega) (by omega) ?_ (fun d a b => ?_) (fun d a => ?_) (hF.up (by decide))
          · rw [anyS_i (by omega)]
            by_cases a9 : anyS (fun d => decide (rdS (σ 97) (σ 98) (σ 99) (σ 101) (σ 96 4).toNat g d ≠ g d)) i.toNat = true
            · rw [if_pos a9] at hc
              rw [a9, Bool.true_or, if_pos rfl]
              try omega
            · rw [if_neg a9] at hc
              rw [Bool.not_eq_true] at a9
              rw [a9, Bool.false_or]
              by_cases b9 : rdS (σ 97) (σ 98) (σ 99) (σ 101) (σ 96 4).toNat g i = g i
              · rw [if_neg (by simp [b9])]
                try omega
              · rw [if_pos (by simp [b9])]
                try omega
          · show (if d = i then z9 else τ 100 d) = _
            by_cases e : d = i
            · rw [if_pos e, r9, e]
            · rw [if_neg e]; exact hG d a (by omega)
          · show (if d = i then z9 else τ 100 d) = _
            rw [if_neg (by omega)]; exact hH d (by omega)
        · refine x_iconst (E_X1_isRoundChanging_0 27 rfl) ?_
          refine x_goto (E_X1_isRoundChanging_0 28 rfl) ?_
          refine x_istore_n (E_X1_isRoundChanging_0 30 rfl) rfl ?_
          refine x_aload_n (E_X1_isRoundChanging_0 31 rfl) rfl ?_
          refine x_getR (E_X1_isRoundChanging_0 32 rfl) fl_X1_21 rfl (by decide) rfl ?_
          refine x_iload_n (E_X1_isRoundChanging_0 33 rfl) rfl ?_
          refine x_iload_n (E_X1_isRoundChanging_0 34 rfl) rfl ?_
          refine x_iast (E_X1_isRoundChanging_0 35 rfl) rfl (by decide) (by omega) ?_
          refine x_iinc (E_X1_isRoundChanging_0 36 rfl) rfl rfl ?_
          refine x_goto (E_X1_isRoundChanging_0 37 rfl) ?_
          refine ih (k - 1) (by omega) _ _ _ _ (by omega) (by omega) ?_ (fun d a b => ?_) (fun d a => ?_) (hF.up (by decide))
          · rw [anyS_i (by omega)]
            by_cases a9 : anyS (fun d => decide (rdS (σ 97) (σ 98) (σ 99) (σ 101) (σ 96 4).toNat g d ≠ g d)) i.toNat = true
            · rw [if_pos a9] at hc
              rw [a9, Bool.true_or, if_pos rfl]
              try omega
            · rw [if_neg a9] at hc
              rw [Bool.not_eq_true] at a9
              rw [a9, Bool.false_or]
              by_cases b9 : rdS (σ 97) (σ 98) (σ 99) (σ 101) (σ 96 4).toNat g i = g i
              · rw [if_neg (by simp [b9])]
                try omega
              · rw [if_pos (by simp [b9])]
                try omega
          · show (if d = i then z9 else τ 100 d) = _
            by_cases e : d = i
            · rw [if_pos e, r9, e]
            · rw [if_neg e]; exact hG d a (by omega)
          · show (if d = i then z9 else τ 100 d) = _
            rw [if_neg (by omega)]; exact hH d (by omega)
  refine x_iconst (E_X1_isRoundChanging_0 0 rfl) ?_
  refine x_istore_n (E_X1_isRoundChanging_0 1 rfl) rfl ?_
  refine x_iconst (E_X1_isRoundChanging_0 2 rfl) ?_
  refine x_istore_n (E_X1_isRoundChanging_0 3 rfl) rfl ?_
  exact loop (σ 96 4).toNat 0 0 none σ (by omega) (Nat.le_refl _) rfl (fun d a b => absurd a (by omega)) (fun d a => rfl) Fr.rf

/-- what settle leaves -/
def StP (σ τ : Nat → Int → Int) : Prop := (∀ d, 0 ≤ d → d < σ 96 4 → τ 100 d = (goS (σ 97) (σ 98) (σ 99) (σ 101) (σ 96 4).toNat 50 (σ 99) 0).1 d ∧ 0 ≤ τ 100 d ∧ τ 100 d ≤ 9999) ∧ (∀ h, 0 ≤ h → h < 8 → τ 102 h = owS (σ 97) (σ 99) (σ 96 4).toNat h) ∧ (∀ h, 0 ≤ h → h < 8 → τ 103 h = hsS (σ 101) (σ 98) (σ 96 4).toNat (goS (σ 97) (σ 98) (σ 99) (σ 101) (σ 96 4).toNat 50 (σ 99) 0).1 h) ∧ (τ 96 8 = (goS (σ 97) (σ 98) (σ 99) (σ 101) (σ 96 4).toNat 50 (σ 99) 0).2 ∧ 0 ≤ τ 96 8 ∧ τ 96 8 ≤ 50) ∧ Fr [96, 100, 102, 103] σ τ ∧ Fo 96 [8] σ τ
set_option maxHeartbeats 1000000 in
theorem c_X1_settle (hd : DuOk (σ 96 4).toNat (σ 97) (σ 98) (σ 99) (σ 101)) (hn : 0 ≤ σ 96 4) : CV l G M_X1_settle 3 [vr 96] σ (StP σ) := by
  have n24 := hd.1
  refine Ct.of rfl (Nat.le_of_ble_eq_true rfl) ?_
  have loop : ∀ (k : Nat) (r ch c : Int) (g : Int → Int) (τ : Nat → Int → Int), r = 50 - k → k ≤ 50 → (ch = 0 ∨ ch = 1) → (ch = 1 → goS (σ 97) (σ 98) (σ 99) (σ 101) (σ 96 4).toNat k g c = (goS (σ 97) (σ 98) (σ 99) (σ 101) (σ 96 4).toNat 50 (σ 99) 0)) → (ch = 0 → (g, c) = (goS (σ 97) (σ 98) (σ 99) (σ 101) (σ 96 4).toNat 50 (σ 99) 0)) → (∀ j, 0 ≤ j → j < σ 96 4 → 0 ≤ g j ∧ g j ≤ 9999) → (∀ d, 0 ≤ d → d < σ 96 4 → τ 100 d = g d) → (∀ h, 0 ≤ h → h < 8 → τ 102 h = owS (σ 97) (σ 99) (σ 96 4).toNat h) → (∀ h, 0 ≤ h → h < 8 → τ 103 h = hsS (σ 101) (σ 98) (σ 96 4).toNat g h) → τ 96 8 = c → (0 ≤ c ∧ c ≤ r) → Fr [96, 100, 102, 103] σ τ → Fo 96 [8] σ τ → XV l G M_X1_settle 3 13 [some (vr 96), some (vi ch), some (vi r)] [] τ (StP σ) := by
    intro k
    induction k using Nat.strongRecOn with
    | _ k ih =>
    intro r ch c g τ hr hk h01 h1 h0 hg h100 h102 h103 hc hcr hF hO
    have fin : (g, c) = (goS (σ 97) (σ 98) (σ 99) (σ 101) (σ 96 4).toNat 50 (σ 99) 0) → StP σ τ := by
      intro e
      refine ⟨fun d a b => ?_, h102, fun h a b => ?_, ?_, hF, hO⟩
      · rw [h100 d a b, ← e]; exact ⟨rfl, hg d a b⟩
      · rw [h103 h a b, ← e]
      · rw [hc, ← e]; exact ⟨rfl, by omega⟩
    have e4 := hO 4 (by decide)
    have hd2 : DuOk (τ 96 4).toNat (τ 97) (τ 98) (τ 99) (τ 101) := by
      rw [e4, show τ 97 = σ 97 from hF 97 (by decide), show τ 98 = σ 98 from hF 98 (by decide), show τ 99 = σ 99 from hF 99 (by decide), show τ 101 = σ 101 from hF 101 (by decide)]
      exact hd
    refine x_iload_n (E_X1_settle_0 9 rfl) rfl ?_
    refine x_bipush (z := 50) (E_X1_settle_0 10 rfl) (by decide) ?_
    refine x_icmp_ge (E_X1_settle_0 11 rfl) (by omega) (by decide) (fun c1 => ?_) (fun c1 => ?_)
    · refine z_vret (E_X1_settle_0 29 rfl) trivial ?_
      exact fin (h01.elim h0 (fun e => by have q := h1 e; rw [show k = 0 by omega] at q; exact q))
    · refine x_iload_n (E_X1_settle_0 12 rfl) rfl ?_
      refine x_if_eq (E_X1_settle_0 13 rfl) (by omega) (fun c2 => ?_) (fun c2 => ?_)
      · refine z_vret (E_X1_settle_0 29 rfl) trivial ?_
        exact fin (h01.elim h0 (fun e => by have q := h1 e; rw [show k = 0 by omega] at q; exact q))
      · refine x_aload_n (E_X1_settle_0 14 rfl) rfl ?_
        refine z_callVi (E_X1_settle_0 15 rfl) ml_X1_43 mv_X1_isRoundChanging rfl (by decide) (by decide) (c_X1_isRoundChanging (g := g) hd2 (by omega) (by rw [e4]; exact hg) (by rw [e4]; exact h100) (by rw [e4, show τ 97 = σ 97 from hF 97 (by decide), show τ 99 = σ 99 from hF 99 (by decide)]; exact h102) (by rw [e4, show τ 101 = σ 101 from hF 101 (by decide), show τ 98 = σ 98 from hF 98 (by decide)]; exact h103)) (by decide) rfl rfl (Nat.le_of_ble_eq_true rfl) (fun z9 τ9 h9 => ?_)
        unfold RoP at h9
        rw [e4, show τ 97 = σ 97 from hF 97 (by decide), show τ 98 = σ 98 from hF 98 (by decide), show τ 99 = σ 99 from hF 99 (by decide), show τ 101 = σ 101 from hF 101 (by decide)] at h9
        obtain ⟨z1, z2, z3, z4⟩ := h9
        have e8 : τ9 96 8 = τ 96 8 := congrFun (z4 96 (by decide)) 8
        have e102 : τ9 102 = τ 102 := z4 102 (by decide)
        have hF9 : Fr [96, 100, 102, 103] σ τ9 := Fr.trans hF z4 (fun k h => h) (by decide)
        have hO9 : Fo 96 [8] σ τ9 := fun j h => (congrFun (z4 96 (by decide)) j).trans (hO j h)
        have z01 : z9 = 0 ∨ z9 = 1 := by rw [z1]; split <;> omega
        have g9 := fun j (x : 0 ≤ j) (y : j < σ 96 4) => rdS_rg hd (fun j x y => hg j x (by omega)) (j := j) x (by omega)
        refine x_istore_n (E_X1_settle_0 16 rfl) rfl ?_
        refine x_aload_n (E_X1_settle_0 17 rfl) rfl ?_
        refine x_dupr (E_X1_settle_0 18 rfl) ?_
        refine x_getIe (v := τ9 96 8) (E_X1_settle_0 19 rfl) fl_X1_40 rfl (by decide) rfl ?_
        refine x_iload_n (E_X1_settle_0 20 rfl) rfl ?_
        refine x_if_eq (E_X1_settle_0 21 rfl) (by omega) (fun c3 => ?_) (fun c3 => ?_)
        · refine x_iconst (E_X1_settle_0 24 rfl) ?_
          refine x_iadd (E_X1_settle_0 25 rfl) ?_
          refine x_putI (E_X1_settle_0 26 rfl) fl_X1_40 rfl (by decide) ?_
          refine x_iinc (E_X1_settle_0 27 rfl) rfl rfl ?_
          refine x_goto (E_X1_settle_0 28 rfl) ?_
          obtain rfl : z9 = 0 := by omega
          have n9 : ¬ chS (σ 97) (σ 98) (σ 99) (σ 101) (σ 96 4).toNat g = true := fun h => by rw [if_pos h] at z1; omega
          refine ih (k - 1) (by omega) _ 0 c g _ (by omega) (by omega) (Or.inl rfl) (fun h => absurd h (by decide)) (fun _ => ?_) hg (fun d a b => ?_) (by rw [← e102] at h102; exact h102) (fun h a b => ?_) ?_ (by omega) (hF9.up (by decide)) (hO9.up (by decide))
          · have q := h1 (by omega)
            obtain ⟨k', rfl⟩ : ∃ k', k = k' + 1 := ⟨k - 1, by omega⟩
            have q : (if chS (σ 97) (σ 98) (σ 99) (σ 101) (σ 96 4).toNat g = true then _ else (g, c)) = (goS (σ 97) (σ 98) (σ 99) (σ 101) (σ 96 4).toNat 50 (σ 99) 0) := q
            rw [if_neg n9] at q
            exact q
          · show τ9 100 d = g d
            have := anyS_no (Bool.not_eq_true _ ▸ n9 : chS (σ 97) (σ 98) (σ 99) (σ 101) (σ 96 4).toNat g = false) d a (by omega)
            rw [z2 d a b]
            simpa using this
          · show τ9 103 h = _
            rw [z3 h a b]
            refine hsS_cong (fun j x y => ?_)
            have := anyS_no (Bool.not_eq_true _ ▸ n9 : chS (σ 97) (σ 98) (σ 99) (σ 101) (σ 96 4).toNat g = false) j x y
            simpa using this
          · show τ9 96 8 + 0 = c
            omega
        · refine x_iconst (E_X1_settle_0 22 rfl) ?_
          refine x_goto (E_X1_settle_0 23 rfl) ?_
          refine x_iadd (E_X1_settle_0 25 rfl) ?_
          refine x_putI (E_X1_settle_0 26 rfl) fl_X1_40 rfl (by decide) ?_
          refine x_iinc (E_X1_settle_0 27 rfl) rfl rfl ?_
          refine x_goto (E_X1_settle_0 28 rfl) ?_
          obtain rfl : z9 = 1 := by omega
          have n9 : chS (σ 97) (σ 98) (σ 99) (σ 101) (σ 96 4).toNat g = true := Classical.byContradiction (fun h => by rw [if_neg h] at z1; omega)
          refine ih (k - 1) (by omega) _ 1 (c + 1) (rdS (σ 97) (σ 98) (σ 99) (σ 101) (σ 96 4).toNat g) _ (by omega) (by omega) (Or.inr rfl) (fun _ => ?_) (fun h => absurd h (by decide)) g9 z2 (by rw [← e102] at h102; exact h102) z3 ?_ (by omega) (hF9.up (by decide)) (hO9.up (by decide))
          · have q := h1 (by omega)
            obtain ⟨k', rfl⟩ : ∃ k', k = k' + 1 := ⟨k - 1, by omega⟩
            have q : (if chS (σ 97) (σ 98) (σ 99) (σ 101) (σ 96 4).toNat g = true then goS (σ 97) (σ 98) (σ 99) (σ 101) (σ 96 4).toNat k' (rdS (σ 97) (σ 98) (σ 99) (σ 101) (σ 96 4).toNat g) (c + 1) else (g, c)) = (goS (σ 97) (σ 98) (σ 99) (σ 101) (σ 96 4).toNat 50 (σ 99) 0) := q
            rw [if_pos n9] at q
            exact q
          · show τ9 96 8 + 1 = c + 1
            omega
  refine x_aload_n (E_X1_settle_0 0 rfl) rfl ?_
  refine z_callVv (E_X1_settle_0 1 rfl) ml_X1_37 mv_X1_begin rfl (by decide) (by decide) (c_X1_begin hd hn) (by decide) rfl rfl (Nat.le_of_ble_eq_true rfl) (fun τ9 h9 => ?_)
  obtain ⟨b1, b2, b3, b4⟩ := h9
  refine x_aload_n (E_X1_settle_0 2 rfl) rfl ?_
  refine x_iconst (E_X1_settle_0 3 rfl) ?_
  refine x_putI (E_X1_settle_0 4 rfl) fl_X1_40 rfl (by decide) ?_
  refine x_iconst (E_X1_settle_0 5 rfl) ?_
  refine x_istore_n (E_X1_settle_0 6 rfl) rfl ?_
  refine x_iconst (E_X1_settle_0 7 rfl) ?_
  refine x_istore_n (E_X1_settle_0 8 rfl) rfl ?_
  exact loop 50 0 1 0 (σ 99) _ (by omega) (Nat.le_refl _) (Or.inr rfl) (fun _ => rfl) (fun h => absurd h (by decide)) (fun j x y => by have := hd.2.1 j x (by omega); omega) b1 b2 b3 rfl (by omega) ((b4.sub (by decide)).up (by decide)) ((Fo.of b4 (by decide)).up (by decide))

