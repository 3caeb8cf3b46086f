/-! terms: hold, on -/
variable {l : Launch} {G : GC} {σ : Nat → Int → Int}

/-- terms are as they were -/
theorem Fr.tm {cs : List Nat} {σ τ : Nat → Int → Int} (h : Fr cs σ τ) (hc : ∀ k ∈ cs, k = 17 ∨ k = 39 ∨ k = 40) : cdq τ = cdq σ ∧ vlq τ = vlq σ ∧ τ 18 = σ 18 ∧ τ 19 = σ 19 ∧ τ 38 = σ 38 := by
  have e : ∀ k, k ≠ 17 → k ≠ 39 → k ≠ 40 → τ k = σ k := fun k a b c => h k (fun q => by rcases hc k q with q | q | q <;> contradiction)
  refine ⟨?_, ?_, e 18 (by decide) (by decide) (by decide), e 19 (by decide) (by decide) (by decide), e 38 (by decide) (by decide) (by decide)⟩
  · unfold cdq
    rw [e 21 (by decide) (by decide) (by decide), e 22 (by decide) (by decide) (by decide), e 23 (by decide) (by decide) (by decide), e 24 (by decide) (by decide) (by decide), e 25 (by decide) (by decide) (by decide), e 26 (by decide) (by decide) (by decide), e 27 (by decide) (by decide) (by decide), e 28 (by decide) (by decide) (by decide)]
  · unfold vlq
    rw [e 30 (by decide) (by decide) (by decide), e 31 (by decide) (by decide) (by decide), e 32 (by decide) (by decide) (by decide), e 33 (by decide) (by decide) (by decide), e 34 (by decide) (by decide) (by decide), e 35 (by decide) (by decide) (by decide), e 36 (by decide) (by decide) (by decide), e 37 (by decide) (by decide) (by decide)]
theorem TmOk.fr {cs : List Nat} {σ τ : Nat → Int → Int} (hO : TmOk σ) (h : Fr cs σ τ) (hc : ∀ k ∈ cs, k = 17 ∨ k = 39 ∨ k = 40) (h8 : τ 17 8 = σ 17 8) : TmOk τ := by
  obtain ⟨e1, e2, e3, e4, -⟩ := h.tm hc
  unfold TmOk
  rw [e1, e2, e3, e4, h8]
  exact hO
/-- what hold leaves -/
def HoldP (d : Int) (σ τ : Nat → Int → Int) : Prop := (∀ q, 0 ≤ q → q < 10 → τ 40 q = heldS (σ 18) (σ 19) (cdq σ) (vlq σ) (σ 17 8).toNat d q) ∧ τ 17 7 = d ∧ Fr [17, 39, 40] σ τ ∧ Fo 17 [7] σ τ
set_option maxHeartbeats 1000000 in
theorem c_X8_hold {d : Int} (hd : rgi d) (hO : TmOk σ) (ho : RepL (σ 38) (srtL (σ 18) (fun _ => true) (σ 17 8).toNat)) : CV l G M_X8_hold 1 [vr 17, vi d] σ (HoldP d σ) := by
  have h8 := hO.1
  have hlen : (srtL (σ 18) (fun _ => true) (σ 17 8).toNat).length = (σ 17 8).toNat := srtL_len
  refine Ct.of rfl (Nat.le_of_ble_eq_true rfl) ?_
  have loopB : ∀ (R : List Int) (k : Int) (o3 : Option AV) (τ : Nat → Int → Int), (srtL (σ 18) (fun _ => true) (σ 17 8).toNat).drop k.toNat = R → 0 ≤ k → k + R.length = σ 17 8 → (∀ q, 0 ≤ q → q < 10 → foldS (σ 19) (cdq σ) (vlq σ) (R.filter (cntS (σ 18) (σ 19) (cdq σ) (vlq σ) d (σ 17 8).toNat)) (τ 40) q = heldS (σ 18) (σ 19) (cdq σ) (vlq σ) (σ 17 8).toNat d q) → Fr [39, 40] σ τ → (∀ x, 0 ≤ x → x < σ 17 8 → τ 39 x = b2i (strS (σ 18) (σ 19) (cdq σ) (vlq σ) d (σ 17 8).toNat (σ 17 8).toNat x)) → XV l G M_X8_hold 1 32 [some (vr 17), some (vi d), some (vi k), o3] [] τ (HoldP d σ) := by
    intro R
    induction R with
    | nil =>
      intro k o3 τ e1 e2 e3 e4 hF hA
      simp only [List.length_nil] at e3
      have e8 := congrFun (hF 17 (by decide)) 8
      refine x_iload_n (E_X8_hold_0 19 rfl) rfl ?_
      refine x_aload_n (E_X8_hold_0 20 rfl) rfl ?_
      refine x_getIe (v := τ 17 8) (E_X8_hold_0 21 rfl) fl_X8_42 rfl (by decide) rfl ?_
      refine x_icmp_ge (E_X8_hold_0 22 rfl) (by omega) (by omega) (fun c1 => ?_) (fun c1 => ?_)
      · refine x_aload_n (E_X8_hold_0 44 rfl) rfl ?_
        refine x_iload_n (E_X8_hold_0 45 rfl) rfl ?_
        refine x_putI (E_X8_hold_0 46 rfl) fl_X8_38 rfl (by decide) ?_
        refine z_vret (E_X8_hold_0 47 rfl) trivial ?_
        exact ⟨fun q a b => e4 q a b, rfl, (hF.sub (by decide)).up (by decide), (Fo.of hF (by decide)).up (by decide)⟩
      · exfalso; omega
    | cons x R ih =>
      intro k o3 τ e1 e2 e3 e4 hF hA
      simp only [List.length_cons] at e3
      have e8 := congrFun (hF 17 (by decide)) 8
      have hx : (srtL (σ 18) (fun _ => true) (σ 17 8).toNat)[k.toNat]? = some x := by
        have : ((srtL (σ 18) (fun _ => true) (σ 17 8).toNat).drop k.toNat)[0]? = some x := by rw [e1]; rfl
        rw [List.getElem?_drop] at this
        exact this
      have hk : τ 38 k = x := by
        have := ho _ _ hx
        rw [show ((k.toNat : Nat) : Int) = k by omega] at this
        rw [hF 38 (by decide)]
        exact this
      have hm := srtL_mem.mp (List.mem_of_getElem? hx)
      have ed : (srtL (σ 18) (fun _ => true) (σ 17 8).toNat).drop (k + 1).toNat = R := by
        rw [show (k + 1).toNat = k.toNat + 1 by omega, ← List.drop_drop, e1]
        rfl
      have hm2 : 0 ≤ x ∧ x < σ 17 8 := by omega
      have o9 := hO.2 x hm2.1 hm2.2
      have e18 := congrFun (hF 18 (by decide)) x
      have a9 := hA x hm2.1 hm2.2
      have hbs : (strS (σ 18) (σ 19) (cdq σ) (vlq σ) d (σ 17 8).toNat (σ 17 8).toNat x = true ∧ τ 39 x = 1) ∨ (strS (σ 18) (σ 19) (cdq σ) (vlq σ) d (σ 17 8).toNat (σ 17 8).toNat x = false ∧ τ 39 x = 0) := by
        rw [a9]
        cases strS (σ 18) (σ 19) (cdq σ) (vlq σ) d (σ 17 8).toNat (σ 17 8).toNat x
        · exact Or.inr ⟨rfl, rfl⟩
        · exact Or.inl ⟨rfl, rfl⟩
      have cn : (cntS (σ 18) (σ 19) (cdq σ) (vlq σ) d (σ 17 8).toNat) x = (decide (σ 18 x ≤ d) && !(strS (σ 18) (σ 19) (cdq σ) (vlq σ) d (σ 17 8).toNat (σ 17 8).toNat x)) := rfl
      rw [List.filter_cons] at e4
      subst hk
      refine x_iload_n (E_X8_hold_0 19 rfl) rfl ?_
      refine x_aload_n (E_X8_hold_0 20 rfl) rfl ?_
      refine x_getIe (v := τ 17 8) (E_X8_hold_0 21 rfl) fl_X8_42 rfl (by decide) rfl ?_
      refine x_icmp_ge (E_X8_hold_0 22 rfl) (by omega) (by omega) (fun c1 => ?_) (fun c1 => ?_)
      · exfalso; omega
      · refine x_aload_n (E_X8_hold_0 23 rfl) rfl ?_
        refine x_getR (E_X8_hold_0 24 rfl) fl_X8_28 rfl (by decide) rfl ?_
        refine x_iload_n (E_X8_hold_0 25 rfl) rfl ?_
        refine x_ialde (f := τ 38) (E_X8_hold_0 26 rfl) rfl (by decide) (by omega) rfl ?_
        refine x_istore_n (E_X8_hold_0 27 rfl) rfl ?_
        refine x_aload_n (E_X8_hold_0 28 rfl) rfl ?_
        refine x_getR (E_X8_hold_0 29 rfl) fl_X8_11 rfl (by decide) rfl ?_
        refine x_iload_n (E_X8_hold_0 30 rfl) rfl ?_
        refine x_ialde (f := τ 18) (E_X8_hold_0 31 rfl) rfl (by decide) (by omega) rfl ?_
        refine x_iload_n (E_X8_hold_0 32 rfl) rfl ?_
        refine x_icmp_gt (E_X8_hold_0 33 rfl) (by omega) (by omega) (fun c2 => ?_) (fun c2 => ?_)
        · rw [if_neg (by rw [cn]; intro h; rw [Bool.and_eq_true, decide_eq_true_iff] at h; have := h.1; omega)] at e4
          refine x_iinc (E_X8_hold_0 42 rfl) rfl rfl ?_
          refine x_goto (E_X8_hold_0 43 rfl) ?_
          exact ih _ _ _ ed (by omega) (by omega) e4 hF hA
        · refine x_aload_n (E_X8_hold_0 34 rfl) rfl ?_
          refine x_getR (E_X8_hold_0 35 rfl) fl_X8_31 rfl (by decide) rfl ?_
          refine x_iload_n (E_X8_hold_0 36 rfl) rfl ?_
          refine x_zalde (f := τ 39) (E_X8_hold_0 37 rfl) rfl (by decide) (by omega) rfl ?_
          refine x_if_ne (E_X8_hold_0 38 rfl) (by omega) (fun c3 => ?_) (fun c3 => ?_)
          · have hb := hbs.resolve_right (by omega)
            rw [if_neg (by rw [cn, hb.1, Bool.not_true, Bool.and_false]; exact Bool.false_ne_true)] at e4
            refine x_iinc (E_X8_hold_0 42 rfl) rfl rfl ?_
            refine x_goto (E_X8_hold_0 43 rfl) ?_
            exact ih _ _ _ ed (by omega) (by omega) e4 hF hA
          · refine x_aload_n (E_X8_hold_0 39 rfl) rfl ?_
            refine x_iload_n (E_X8_hold_0 40 rfl) rfl ?_
            refine z_callVv (E_X8_hold_0 41 rfl) ml_X8_68 mv_X8_rule rfl (by decide) (by decide) (c_X8_rule (hO.fr hF (by decide) e8) (by omega)) (by decide) rfl rfl (Nat.le_of_ble_eq_true rfl) (fun υ9 k9 => ?_)
            have hb := hbs.resolve_left (by omega)
            rw [if_pos (by rw [cn, hb.1, Bool.not_false, Bool.and_true]; exact decide_eq_true (by omega))] at e4
            obtain ⟨t1, t2, t3, t4, -⟩ := hF.tm (by decide)
            rw [t1, t2, t4] at k9
            refine x_iinc (E_X8_hold_0 42 rfl) rfl rfl ?_
            refine x_goto (E_X8_hold_0 43 rfl) ?_
            exact ih _ _ _ ed (by omega) (by omega) (fun q a b => by rw [k9.1]; exact e4 q a b) (Fr.trans hF k9.2 (fun k h => h) (by decide)) (fun x a b => by rw [k9.2 39 (by decide)]; exact hA x a b)
  have loopA : ∀ (k : Nat) (i : Int) (τ : Nat → Int → Int), i = 10 - (k : Int) → k ≤ 10 → (∀ j, 0 ≤ j → j < i → τ 40 j = held0 j) → Fr [39, 40] σ τ → (∀ x, 0 ≤ x → x < σ 17 8 → τ 39 x = b2i (strS (σ 18) (σ 19) (cdq σ) (vlq σ) d (σ 17 8).toNat (σ 17 8).toNat x)) → XV l G M_X8_hold 1 7 [some (vr 17), some (vi d), some (vi i), none] [] τ (HoldP d σ) := by
    intro k
    induction k using Nat.strongRecOn with
    | _ k ih =>
    intro i τ hi hk9 hZ hF hA
    refine x_iload_n (E_X8_hold_0 5 rfl) rfl ?_
    refine x_bipush (z := 9) (E_X8_hold_0 6 rfl) (by decide) ?_
    refine x_icmp_gt (E_X8_hold_0 7 rfl) (by omega) (by decide) (fun c1 => ?_) (fun c1 => ?_)
    · refine x_iconst (E_X8_hold_0 17 rfl) ?_
      refine x_istore_n (E_X8_hold_0 18 rfl) rfl ?_
      refine loopB _ 0 none τ rfl (by omega) (by show 0 + (((srtL (σ 18) (fun _ => true) (σ 17 8).toNat).length : Nat) : Int) = _; omega) (fun q a b => ?_) hF hA
      exact foldS_ag (hZ q a (by omega))
    · refine x_aload_n (E_X8_hold_0 8 rfl) rfl ?_
      refine x_getR (E_X8_hold_0 9 rfl) fl_X8_35 rfl (by decide) rfl ?_
      refine x_iload_n (E_X8_hold_0 10 rfl) rfl ?_
      refine x_gets (i := 4) (E_X8_hold_0 11 rfl) rfl sl_X8_65 ?_
      refine x_iload_n (E_X8_hold_0 12 rfl) rfl ?_
      refine x_ialdSe (E_X8_hold_0 13 rfl) rfl ⟨by omega, show i < 10 by omega⟩ (by decide) (show held0 i = _ from rfl) ?_
      refine x_iast (E_X8_hold_0 14 rfl) rfl (by decide) (by omega) ?_
      refine x_iinc (E_X8_hold_0 15 rfl) rfl rfl ?_
      refine x_goto (E_X8_hold_0 16 rfl) ?_
      refine ih (k - 1) (by omega) _ _ (by omega) (by omega) (fun j a b => ?_) (hF.up (by decide)) hA
      show (if j = i then held0 i else τ 40 j) = held0 j
      by_cases e : j = i
      · rw [if_pos e, e]
      · rw [if_neg e]; exact hZ j a (by omega)
  refine x_aload_n (E_X8_hold_0 0 rfl) rfl ?_
  refine x_iload_n (E_X8_hold_0 1 rfl) rfl ?_
  refine z_callVv (E_X8_hold_0 2 rfl) ml_X8_62 mv_X8_strike rfl (by decide) (by decide) (c_X8_strike hd hO) (by decide) rfl rfl (Nat.le_of_ble_eq_true rfl) (fun τ9 k9 => ?_)
  refine x_iconst (E_X8_hold_0 3 rfl) ?_
  refine x_istore_n (E_X8_hold_0 4 rfl) rfl ?_
  exact loopA 10 0 τ9 (by omega) (by omega) (fun j a b => absurd a (by omega)) (k9.2.sub (by decide)) k9.1

/-- what on leaves: it keeps the day asked -/
theorem c_X8_on {w d : Int} (hw : 0 ≤ w ∧ w < 10) (hd : 0 ≤ d ∧ d ≤ 2000) (hO : TmOk σ) (ho : RepL (σ 38) (srtL (σ 18) (fun _ => true) (σ 17 8).toNat)) (hc : RCache (σ 17 7) (σ 17 8) (σ 18) (σ 19) (cdq σ) (vlq σ) (σ 40)) : CI l G M_X8_on 2 [vr 17, vi w, vi d] σ (fun z τ => z = heldS (σ 18) (σ 19) (cdq σ) (vlq σ) (σ 17 8).toNat d w ∧ HoldP d σ τ) := by
  have h7 : rgi (σ 17 7) := by
    rcases hc with h | h
    · omega
    · have := h.1; omega
  refine Ct.of rfl (Nat.le_of_ble_eq_true rfl) ?_
  refine x_aload_n (E_X8_on_0 0 rfl) rfl ?_
  refine x_getIe (v := σ 17 7) (E_X8_on_0 1 rfl) fl_X8_38 rfl (by decide) rfl ?_
  refine x_iload_n (E_X8_on_0 2 rfl) rfl ?_
  refine x_icmp_eq (E_X8_on_0 3 rfl) (by omega) (by omega) (fun c1 => ?_) (fun c1 => ?_)
  · have hc2 := hc.resolve_left (by omega)
    have k9 : HoldP d σ σ := ⟨fun q a b => by have := hc2.2 q a b; rw [show σ 17 7 = d by omega] at this; exact this, by omega, Fr.rf, Fo.rf⟩
    refine x_aload_n (E_X8_on_0 7 rfl) rfl ?_
    refine x_getR (E_X8_on_0 8 rfl) fl_X8_35 rfl (by decide) rfl ?_
    refine x_iload_n (E_X8_on_0 9 rfl) rfl ?_
    refine x_ialde (f := σ 40) (E_X8_on_0 10 rfl) rfl (by decide) (by omega) rfl ?_
    refine z_iret (E_X8_on_0 11 rfl) trivial ?_
    exact ⟨k9.1 w (by omega) (by omega), k9⟩
  · refine x_aload_n (E_X8_on_0 4 rfl) rfl ?_
    refine x_iload_n (E_X8_on_0 5 rfl) rfl ?_
    refine z_callVv (E_X8_on_0 6 rfl) ml_X8_51 mv_X8_hold rfl (by decide) (by decide) (c_X8_hold (by omega) hO ho) (by decide) rfl rfl (Nat.le_of_ble_eq_true rfl) (fun τ9 k9 => ?_)
    skip
    refine x_aload_n (E_X8_on_0 7 rfl) rfl ?_
    refine x_getR (E_X8_on_0 8 rfl) fl_X8_35 rfl (by decide) rfl ?_
    refine x_iload_n (E_X8_on_0 9 rfl) rfl ?_
    refine x_ialde (f := τ9 40) (E_X8_on_0 10 rfl) rfl (by decide) (by omega) rfl ?_
    refine z_iret (E_X8_on_0 11 rfl) trivial ?_
    exact ⟨k9.1 w (by omega) (by omega), k9⟩

