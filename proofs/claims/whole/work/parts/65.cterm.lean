/-! a text is kept -/
variable {l : Launch} {G : GC} {σ : Nat → Int → Int}

def AdP (d : Int) (σ : Nat → Int → Int) (z : Int) (τ : Nat → Int → Int) : Prop := z = σ 17 8 ∧ (τ 18 = updI (σ 18) (σ 17 8) d ∧ τ 19 = updI (σ 19) (σ 17 8) (σ 41 4)) ∧ (∀ j, 0 ≤ j → j < σ 41 4 → τ (21 + (σ 17 8).toNat) j = σ 43 j ∧ τ (30 + (σ 17 8).toNat) j = σ 44 j) ∧ (τ 17 8 = σ 17 8 + 1 ∧ τ 17 7 = -1) ∧ RepL (τ 38) (srtL (τ 18) (fun _ => true) (σ 17 8 + 1).toNat) ∧ Fr [17, 18, 19, 38, 21 + (σ 17 8).toNat, 30 + (σ 17 8).toNat] σ τ ∧ Fo 17 [7, 8] σ τ
set_option maxHeartbeats 4000000 in
theorem c_X8_add {d : Int} (hd : rgi d) (hn : 0 ≤ σ 17 8 ∧ σ 17 8 < 8) (hc : 0 ≤ σ 41 4 ∧ σ 41 4 ≤ 10) (hdy : ∀ i, 0 ≤ i → i < σ 17 8 → 0 ≤ σ 18 i ∧ σ 18 i ≤ 2000) (ho : RepL (σ 38) (srtL (σ 18) (fun _ => true) (σ 17 8).toNat)) : CI l G M_X8_add 0 [vr 17, vi d, vr 41] σ (AdP d σ) := by
  have hlen : (srtL (σ 18) (fun _ => true) (σ 17 8).toNat).length = (σ 17 8).toNat := srtL_len
  have hmem : ∀ k : Nat, k < (σ 17 8).toNat → 0 ≤ (srtL (σ 18) (fun _ => true) (σ 17 8).toNat).getD k 0 ∧ (srtL (σ 18) (fun _ => true) (σ 17 8).toNat).getD k 0 < σ 17 8 := fun k hk => by
    have := srtL_mem.mp (getD_mem (L := (srtL (σ 18) (fun _ => true) (σ 17 8).toNat)) (k := k) (by omega))
    omega
  refine Ct.of rfl (Nat.le_of_ble_eq_true rfl) ?_
  have loop2 : ∀ (υ : Nat → Int → Int), Fr [18, 19, 21 + (σ 17 8).toNat, 30 + (σ 17 8).toNat] σ υ → υ 18 = updI (σ 18) (σ 17 8) d → υ 19 = updI (σ 19) (σ 17 8) (σ 41 4) → (∀ j, 0 ≤ j → j < σ 41 4 → υ (21 + (σ 17 8).toNat) j = σ 43 j ∧ υ (30 + (σ 17 8).toNat) j = σ 44 j) → ∀ (m : Nat) (pl : Int) (τ : Nat → Int → Int), pl = m → m ≤ (σ 17 8).toNat → Fr [38] υ τ → (∀ k : Nat, k < m → τ 38 k = (srtL (σ 18) (fun _ => true) (σ 17 8).toNat).getD k 0) → (∀ k : Nat, m ≤ k → k < (σ 17 8).toNat → τ 38 ((k : Int) + 1) = (srtL (σ 18) (fun _ => true) (σ 17 8).toNat).getD k 0 ∧ d < σ 18 ((srtL (σ 18) (fun _ => true) (σ 17 8).toNat).getD k 0)) → XI l G M_X8_add 0 75 [some (vr 17), some (vi d), some (vr 41), some (vi (σ 17 8)), some (vi pl)] [] τ (AdP d σ) := by
    intro υ uF u18 u19 urow m
    induction m using Nat.strongRecOn with
    | _ m ih =>
    intro pl τ hpl hm hF hI1 hI2
    have e17 : τ 17 = σ 17 := (hF 17 (by decide)).trans (uF 17 (by simp only [List.mem_cons, List.not_mem_nil, or_false, not_or]; omega))
    have e78 : τ 17 8 = σ 17 8 := by rw [e17]
    have e18 : τ 18 = fun k => if k = σ 17 8 then d else σ 18 k := (hF 18 (by decide)).trans u18
    have exit : (m = 0 ∨ τ 18 (τ 38 (pl - 1)) ≤ d) → XI l G M_X8_add 0 120 [some (vr 17), some (vi d), some (vr 41), some (vi (σ 17 8)), some (vi pl)] [] τ (AdP d σ) := by
      intro hx
      refine x_aload_n (E_X8_add_1 9 rfl) rfl ?_
      refine x_getR (E_X8_add_1 10 rfl) fl_X8_28 rfl (by decide) rfl ?_
      refine x_iload (E_X8_add_1 11 rfl) rfl ?_
      refine x_iload_n (E_X8_add_1 12 rfl) rfl ?_
      refine x_iast (E_X8_add_1 13 rfl) rfl (by decide) (by omega) ?_
      refine x_aload_n (E_X8_add_1 14 rfl) rfl ?_
      refine x_dupr (E_X8_add_1 15 rfl) ?_
      refine x_getIe (v := τ 17 8) (E_X8_add_1 16 rfl) fl_X8_42 rfl (by decide) rfl ?_
      refine x_iconst (E_X8_add_1 17 rfl) ?_
      refine x_iadd (E_X8_add_1 18 rfl) ?_
      refine x_putI (E_X8_add_1 19 rfl) fl_X8_42 rfl (by decide) ?_
      refine x_aload_n (E_X8_add_1 20 rfl) rfl ?_
      refine x_iconst (E_X8_add_1 21 rfl) ?_
      refine x_putI (E_X8_add_1 22 rfl) fl_X8_38 rfl (by decide) ?_
      refine x_iload_n (E_X8_add_1 23 rfl) rfl ?_
      refine z_iret (E_X8_add_1 24 rfl) trivial ?_
      refine ⟨rfl, ⟨e18, (hF 19 (by decide)).trans u19⟩, ?_, ⟨?_, rfl⟩, ?_, ?_, ?_⟩
      · intro j j0 j1
        have := urow j j0 j1
        have a1 : τ (21 + (σ 17 8).toNat) = υ (21 + (σ 17 8).toNat) := hF _ (by simp only [List.mem_cons, List.not_mem_nil, or_false, not_or]; omega)
        have a2 : τ (30 + (σ 17 8).toNat) = υ (30 + (σ 17 8).toNat) := hF _ (by simp only [List.mem_cons, List.not_mem_nil, or_false, not_or]; omega)
        rw [upq_ne (by omega), upq_ne (by omega), upq_ne (by omega), a1, upq_ne (by omega), upq_ne (by omega), upq_ne (by omega), a2]
        exact this
      · show τ 17 8 + 1 = σ 17 8 + 1
        rw [e78]
      · have es : srtL (fun k => if k = σ 17 8 then d else σ 18 k) (fun _ => true) (σ 17 8).toNat = (srtL (σ 18) (fun _ => true) (σ 17 8).toNat) := srtL_cong (fun i q1 q2 => ⟨if_neg (by omega), rfl⟩)
        show RepL (fun k => if k = pl then σ 17 8 else τ 38 k) (srtL (τ 18) (fun _ => true) (σ 17 8 + 1).toNat)
        rw [e18, show (σ 17 8 + 1).toNat = (σ 17 8).toNat + 1 by omega]
        show RepL _ (if true = true then insL _ _ (srtL (fun k => if k = σ 17 8 then d else σ 18 k) (fun _ => true) (σ 17 8).toNat) else _)
        rw [if_pos rfl, es, show (((σ 17 8).toNat : Nat) : Int) = σ 17 8 by omega]
        have hkx : ∀ k : Nat, k < (σ 17 8).toNat → (fun k => if k = σ 17 8 then d else σ 18 k) ((srtL (σ 18) (fun _ => true) (σ 17 8).toNat).getD k 0) = σ 18 ((srtL (σ 18) (fun _ => true) (σ 17 8).toNat).getD k 0) := fun k hk => if_neg (by have := hmem k hk; omega)
        refine ins_rep (m := m) (by omega) (fun k hk => ?_) (if_pos (by omega)) (fun k h3 h4 => ?_) (fun k h3 h4 => ?_) ?_ ?_
        · rw [if_neg (by omega)]; exact hI1 k hk
        · rw [if_neg (by omega)]; exact (hI2 k h3 (by omega)).1
        · have w := hkx k (by omega)
          have w2 := (hI2 k h3 (by omega)).2
          rw [← w] at w2
          exact lt_of_eq_of_lt' (if_pos rfl) w2
        · rcases hx with hx | hx
          · exact Or.inl hx
          · by_cases em : m = 0
            · exact Or.inl em
            · refine Or.inr ?_
              have q1 := hI1 (m - 1) (by omega)
              rw [show ((m - 1 : Nat) : Int) = pl - 1 by omega] at q1
              rw [e18, q1] at hx
              show _ ≤ (if σ 17 8 = σ 17 8 then d else _)
              rw [if_pos rfl]; exact hx
        · rw [← es]; exact srtL_sorted
      · refine (Fr.up (Fr.up (Fr.up ?_ (by simp)) (by simp)) (by simp))
        exact Fr.trans uF hF (by intro k hk; simp only [List.mem_cons, List.not_mem_nil, or_false] at hk ⊢; omega) (by intro k hk; simp only [List.mem_cons, List.not_mem_nil, or_false] at hk ⊢; omega)
      · refine Fo.up (Fo.up (Fo.un ?_ (by decide)) (by decide)) (by decide)
        exact fun j _ => by rw [e17]
    refine x_iload (E_X8_add_0 44 rfl) rfl ?_
    refine x_if_le (E_X8_add_0 45 rfl) (by omega) (fun c1 => ?_) (fun c1 => ?_)
    · exact exit (by omega)
    · have q9 := hI1 (m - 1) (by omega)
      rw [show ((m - 1 : Nat) : Int) = pl - 1 by omega] at q9
      have w9 := hmem (m - 1) (by omega)
      have w8 := hdy _ w9.1 w9.2
      have w7 : τ 18 (τ 38 (pl - 1)) = σ 18 (τ 38 (pl - 1)) := by rw [e18]; exact if_neg (by rw [q9]; omega)
      rw [← q9] at w9 w8
      refine x_aload_n (E_X8_add_0 46 rfl) rfl ?_
      refine x_getR (E_X8_add_0 47 rfl) fl_X8_11 rfl (by decide) rfl ?_
      refine x_aload_n (E_X8_add_0 48 rfl) rfl ?_
      refine x_getR (E_X8_add_0 49 rfl) fl_X8_28 rfl (by decide) rfl ?_
      refine x_iload (E_X8_add_0 50 rfl) rfl ?_
      refine x_iconst (E_X8_add_0 51 rfl) ?_
      refine x_isub (E_X8_add_0 52 rfl) ?_
      refine x_ialde (f := τ 38) (E_X8_add_0 53 rfl) rfl (by decide) (by omega) rfl ?_
      refine x_ialde (f := τ 18) (E_X8_add_0 54 rfl) rfl (by decide) (by omega) rfl ?_
      refine x_iload_n (E_X8_add_0 55 rfl) rfl ?_
      refine x_icmp_le (E_X8_add_0 56 rfl) (by rw [w7]; omega) (by omega) (fun c2 => ?_) (fun c2 => ?_)
      · exact exit (by omega)
      · refine x_aload_n (E_X8_add_0 57 rfl) rfl ?_
        refine x_getR (E_X8_add_0 58 rfl) fl_X8_28 rfl (by decide) rfl ?_
        refine x_iload (E_X8_add_0 59 rfl) rfl ?_
        refine x_aload_n (E_X8_add_1 0 rfl) rfl ?_
        refine x_getR (E_X8_add_1 1 rfl) fl_X8_28 rfl (by decide) rfl ?_
        refine x_iload (E_X8_add_1 2 rfl) rfl ?_
        refine x_iconst (E_X8_add_1 3 rfl) ?_
        refine x_isub (E_X8_add_1 4 rfl) ?_
        refine x_ialde (f := τ 38) (E_X8_add_1 5 rfl) rfl (by decide) (by omega) rfl ?_
        refine x_iast (E_X8_add_1 6 rfl) rfl (by decide) (by omega) ?_
        refine x_iinc (E_X8_add_1 7 rfl) rfl rfl ?_
        refine x_goto (E_X8_add_1 8 rfl) ?_
        refine ih (m - 1) (by omega) _ _ (by omega) (by omega) (hF.up (by decide)) (fun k hk => ?_) (fun k h3 h4 => ?_)
        · show (if (k : Int) = pl then _ else τ 38 k) = _
          rw [if_neg (by omega)]; exact hI1 k (by omega)
        · show (if (k : Int) + 1 = pl then τ 38 (pl - 1) else τ 38 ((k : Int) + 1)) = _ ∧ _
          by_cases ek : k = m - 1
          · subst ek
            rw [if_pos (by omega), q9]
            refine ⟨rfl, ?_⟩
            rw [← q9, ← w7]; omega
          · rw [if_neg (by omega)]; exact hI2 k (by omega) h4
  have loop1 : ∀ (m : Nat) (i : Int) (τ : Nat → Int → Int), i = σ 41 4 - m → 0 ≤ i → Fr [18, 19, 21 + (σ 17 8).toNat, 30 + (σ 17 8).toNat] σ τ → τ 18 = updI (σ 18) (σ 17 8) d → τ 19 = updI (σ 19) (σ 17 8) (σ 41 4) → (∀ j, 0 ≤ j → j < i → τ (21 + (σ 17 8).toNat) j = σ 43 j ∧ τ (30 + (σ 17 8).toNat) j = σ 44 j) → XI l G M_X8_add 0 25 [some (vr 17), some (vi d), some (vr 41), some (vi (σ 17 8)), some (vi i)] [] τ (AdP d σ) := by
    intro m
    induction m with
    | zero =>
      intro i τ hi h0 hF h18 h19 hj
      have e4 : τ 41 4 = σ 41 4 := by rw [hF 41 (by simp only [List.mem_cons, List.not_mem_nil, or_false, not_or]; omega)]
      have e38 : τ 38 = σ 38 := hF 38 (by simp only [List.mem_cons, List.not_mem_nil, or_false, not_or]; omega)
      refine x_iload (E_X8_add_0 16 rfl) rfl ?_
      refine x_aload_n (E_X8_add_0 17 rfl) rfl ?_
      refine x_getIe (v := τ 41 4) (E_X8_add_0 18 rfl) fl_X8_45 rfl (by decide) rfl ?_
      refine x_icmp_ge (E_X8_add_0 19 rfl) (by omega) (by omega) (fun c1 => ?_) (fun c1 => ?_)
      · refine x_iload_n (E_X8_add_0 42 rfl) rfl ?_
        refine x_istore (E_X8_add_0 43 rfl) rfl ?_
        exact loop2 τ hF h18 h19 (fun j a b => hj j a (by omega)) (σ 17 8).toNat _ _ (by omega) (Nat.le_refl _) Fr.rf (fun k hk => by rw [e38]; exact ho.at (by omega)) (fun k q1 q2 => absurd q2 (by omega))
      · exfalso; omega
    | succ m ih =>
      intro i τ hi h0 hF h18 h19 hj
      have e4 : τ 41 4 = σ 41 4 := by rw [hF 41 (by simp only [List.mem_cons, List.not_mem_nil, or_false, not_or]; omega)]
      have e43 : τ 43 = σ 43 := hF 43 (by simp only [List.mem_cons, List.not_mem_nil, or_false, not_or]; omega)
      have e44 : τ 44 = σ 44 := hF 44 (by simp only [List.mem_cons, List.not_mem_nil, or_false, not_or]; omega)
      refine x_iload (E_X8_add_0 16 rfl) rfl ?_
      refine x_aload_n (E_X8_add_0 17 rfl) rfl ?_
      refine x_getIe (v := τ 41 4) (E_X8_add_0 18 rfl) fl_X8_45 rfl (by decide) rfl ?_
      refine x_icmp_ge (E_X8_add_0 19 rfl) (by omega) (by omega) (fun c1 => ?_) (fun c1 => ?_)
      · exfalso; omega
      · refine x_aload_n (E_X8_add_0 20 rfl) rfl ?_
        refine x_getR (E_X8_add_0 21 rfl) fl_X8_22 rfl (by decide) rfl ?_
        refine x_iload_n (E_X8_add_0 22 rfl) rfl ?_
        refine x_aald (E_X8_add_0 23 rfl) rfl (by decide) (by omega) (shp_cd (by omega)).2 ?_
        refine x_iload (E_X8_add_0 24 rfl) rfl ?_
        refine x_aload_n (E_X8_add_0 25 rfl) rfl ?_
        refine x_getR (E_X8_add_0 26 rfl) fl_X8_47 rfl (by decide) rfl ?_
        refine x_iload (E_X8_add_0 27 rfl) rfl ?_
        refine x_ialde (f := τ 43) (E_X8_add_0 28 rfl) rfl (by decide) (by omega) rfl ?_
        refine x_iast (E_X8_add_0 29 rfl) (shp_cd (by omega)).1 (by omega) (by omega) ?_
        refine x_aload_n (E_X8_add_0 30 rfl) rfl ?_
        refine x_getR (E_X8_add_0 31 rfl) fl_X8_25 rfl (by decide) rfl ?_
        refine x_iload_n (E_X8_add_0 32 rfl) rfl ?_
        refine x_aald (E_X8_add_0 33 rfl) rfl (by decide) (by omega) (shp_vl (by omega)).2 ?_
        refine x_iload (E_X8_add_0 34 rfl) rfl ?_
        refine x_aload_n (E_X8_add_0 35 rfl) rfl ?_
        refine x_getR (E_X8_add_0 36 rfl) fl_X8_49 rfl (by decide) rfl ?_
        refine x_iload (E_X8_add_0 37 rfl) rfl ?_
        refine x_iald (E_X8_add_0 38 rfl) rfl (by decide) (by omega) ?_
        refine x_iast (E_X8_add_0 39 rfl) (shp_vl (by omega)).1 (by omega) (by omega) ?_
        refine x_iinc (E_X8_add_0 40 rfl) rfl rfl ?_
        refine x_goto (E_X8_add_0 41 rfl) ?_
        refine ih (i + 1) _ (by omega) (by omega) ?_ ?_ ?_ ?_
        · exact (hF.up (by simp)).up (by simp)
        · rw [upq_ne (by omega), upq_ne (by omega)]; exact h18
        · rw [upq_ne (by omega), upq_ne (by omega)]; exact h19
        · intro j j0 j1
          have g44 : (upq τ (21 + (σ 17 8).toNat) i (τ 43 i)) 44 = τ 44 := upq_ne (by omega)
          rw [upq_ne (show 21 + (σ 17 8).toNat ≠ 30 + (σ 17 8).toNat by omega), upq_eq, upq_eq, upq_ne (show 30 + (σ 17 8).toNat ≠ 21 + (σ 17 8).toNat by omega), g44, e43, e44]
          by_cases e : j = i
          · subst e; exact ⟨if_pos rfl, if_pos rfl⟩
          · rw [if_neg e, if_neg e]; exact hj j j0 (by omega)
  refine x_aload_n (E_X8_add_0 0 rfl) rfl ?_
  refine x_getIe (v := σ 17 8) (E_X8_add_0 1 rfl) fl_X8_42 rfl (by decide) rfl ?_
  refine x_istore_n (E_X8_add_0 2 rfl) rfl ?_
  refine x_aload_n (E_X8_add_0 3 rfl) rfl ?_
  refine x_getR (E_X8_add_0 4 rfl) fl_X8_11 rfl (by decide) rfl ?_
  refine x_iload_n (E_X8_add_0 5 rfl) rfl ?_
  refine x_iload_n (E_X8_add_0 6 rfl) rfl ?_
  refine x_iast (E_X8_add_0 7 rfl) rfl (by decide) (by omega) ?_
  refine x_aload_n (E_X8_add_0 8 rfl) rfl ?_
  refine x_getR (E_X8_add_0 9 rfl) fl_X8_15 rfl (by decide) rfl ?_
  refine x_iload_n (E_X8_add_0 10 rfl) rfl ?_
  refine x_aload_n (E_X8_add_0 11 rfl) rfl ?_
  refine x_getIe (v := σ 41 4) (E_X8_add_0 12 rfl) fl_X8_45 rfl (by decide) rfl ?_
  refine x_iast (E_X8_add_0 13 rfl) rfl (by decide) (by omega) ?_
  refine x_iconst (E_X8_add_0 14 rfl) ?_
  refine x_istore (E_X8_add_0 15 rfl) rfl ?_
  exact loop1 (σ 41 4).toNat 0 _ (by omega) (by omega) ((Fr.rf.up (by simp)).up (by simp)) rfl rfl (fun j a b => absurd b (by omega))

