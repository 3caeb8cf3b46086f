/-! fails -/
variable {l : Launch} {G : GC} {σ : Nat → Int → Int}

/-- the answer of fails -/
def flZ (a b v co : Int → Int) (n : Nat) (h w : Int) : Int := if w = 0 then (if hsS co b n (goS a b v co n 50 v 0).1 h < owS a v n h then 1 else 0) else if w = 1 then hsS co b n (goS a b v co n 50 v 0).1 h else if w = 2 then sumS (slS a (goS a b v co n 50 v 0).1 h) n else if w = 3 then owS a v n h else if w = 4 then (goS a b v co n 50 v 0).2 else sumS (fun h => if hsS co b n (goS a b v co n 50 v 0).1 h < owS a v n h then 1 else 0) 8
set_option maxHeartbeats 1000000 in
theorem c_X10_fails {h w : Int} (q1 : rgi h) (q2 : rgi w) (hd : DuOk (σ 96 4).toNat (σ 97) (σ 98) (σ 99) (σ 101)) (hn : 0 ≤ σ 96 4) : CI l G M_X10_fails 4 [vr 0, vi h, vi w] σ (fun z τ => (¬ (h = -1 ∨ (0 ≤ h ∧ h ≤ 7)) ∧ z = -1001 ∧ τ = σ) ∨ ((h = -1 ∨ (0 ≤ h ∧ h ≤ 7)) ∧ ¬ ((h = -1 → 4 ≤ w ∧ w ≤ 5) ∧ (h ≠ -1 → 0 ≤ w ∧ w ≤ 3)) ∧ z = -1002 ∧ τ = σ) ∨ ((h = -1 ∨ (0 ≤ h ∧ h ≤ 7)) ∧ ((h = -1 → 4 ≤ w ∧ w ≤ 5) ∧ (h ≠ -1 → 0 ≤ w ∧ w ≤ 3)) ∧ z = flZ (σ 97) (σ 98) (σ 99) (σ 101) (σ 96 4).toNat h w ∧ StP σ τ)) := by
  have n24 := hd.1
  refine Ct.of rfl (Nat.le_of_ble_eq_true rfl) ?_
  have j46 : (h = -1 ∨ (0 ≤ h ∧ h ≤ 7)) → ((h = -1 → 4 ≤ w ∧ w ≤ 5) ∧ (h ≠ -1 → 0 ≤ w ∧ w ≤ 3)) → XI l G M_X10_fails 4 46 [some (vr 0), some (vi h), some (vi w)] [] σ (fun z τ => (¬ (h = -1 ∨ (0 ≤ h ∧ h ≤ 7)) ∧ z = -1001 ∧ τ = σ) ∨ ((h = -1 ∨ (0 ≤ h ∧ h ≤ 7)) ∧ ¬ ((h = -1 → 4 ≤ w ∧ w ≤ 5) ∧ (h ≠ -1 → 0 ≤ w ∧ w ≤ 3)) ∧ z = -1002 ∧ τ = σ) ∨ ((h = -1 ∨ (0 ≤ h ∧ h ≤ 7)) ∧ ((h = -1 → 4 ≤ w ∧ w ≤ 5) ∧ (h ≠ -1 → 0 ≤ w ∧ w ≤ 3)) ∧ z = flZ (σ 97) (σ 98) (σ 99) (σ 101) (σ 96 4).toNat h w ∧ StP σ τ)) := by
    intro a1 a2
    refine x_aload_n (E_X10_fails_0 24 rfl) rfl ?_
    refine x_getR (E_X10_fails_0 25 rfl) fl_X10_82 rfl (by decide) rfl ?_
    refine z_callVv (E_X10_fails_0 26 rfl) ml_X10_340 mv_X1_settle rfl (by decide) (by decide) (c_X1_settle hd hn) (by decide) rfl rfl (Nat.le_of_ble_eq_true rfl) (fun τ9 h9 => ?_)
    obtain ⟨s1, s2, s3, s4, s5, s6⟩ := id h9
    have gr : ∀ j, 0 ≤ j → j < (((σ 96 4).toNat : Nat) : Int) → 0 ≤ (goS (σ 97) (σ 98) (σ 99) (σ 101) (σ 96 4).toNat 50 (σ 99) 0).1 j ∧ (goS (σ 97) (σ 98) (σ 99) (σ 101) (σ 96 4).toNat 50 (σ 99) 0).1 j ≤ 9999 := fun j x y => by
      have := s1 j x (by omega)
      omega
    have r2 : ∀ h, 0 ≤ h → h < 8 → 0 ≤ τ9 102 h ∧ τ9 102 h ≤ 300000 := fun h x y => by
      rw [s2 h x y]; exact owS_rg hd
    have r3 : ∀ h, 0 ≤ h → h < 8 → 0 ≤ τ9 103 h ∧ τ9 103 h ≤ 300000 := fun h x y => by
      rw [s3 h x y]; exact hsS_rg hd (by omega) gr
    refine x_iload_n (E_X10_fails_0 27 rfl) rfl ?_
    by_cases w0 : w = 0
    · subst w0
      refine x_tsw (t := 88) (E_X10_fails_0 28 rfl) (by decide) (by decide) (by decide) ?_
      have hh : 0 ≤ h ∧ h ≤ 7 := by omega
      have t2 := s2 h (by omega) (by omega)
      have t3 := s3 h (by omega) (by omega)
      refine x_aload_n (E_X10_fails_0 29 rfl) rfl ?_
      refine x_getR (E_X10_fails_0 30 rfl) fl_X10_82 rfl (by decide) rfl ?_
      refine x_iload_n (E_X10_fails_0 31 rfl) rfl ?_
      refine z_callVi (E_X10_fails_0 32 rfl) ml_X10_343 mv_X1_isShort rfl (by decide) (by decide) (c_X1_isShort hh (by have := r2 h (by omega) (by omega); omega) (by have := r3 h (by omega) (by omega); omega)) (by decide) rfl rfl (Nat.le_of_ble_eq_true rfl) (fun z9 τ9 h9 => ?_)
      obtain ⟨rfl, ⟨rfl, c1⟩ | ⟨rfl, c1⟩⟩ := h9
      · refine x_if_eq (E_X10_fails_0 33 rfl) (by decide) (fun c9 => absurd c9 (by decide)) (fun _ => ?_)
        refine x_iconst (E_X10_fails_0 34 rfl) ?_
        refine x_goto (E_X10_fails_0 35 rfl) ?_
        refine z_iret (E_X10_fails_0 37 rfl) trivial ?_
        exact Or.inr (Or.inr ⟨a1, a2, (if_pos (by rw [← t3, ← t2]; assumption)).symm, h9⟩)
      · refine x_if_eq (E_X10_fails_0 33 rfl) (by decide) (fun _ => ?_) (fun c9 => absurd (by decide) c9)
        refine x_iconst (E_X10_fails_0 36 rfl) ?_
        refine z_iret (E_X10_fails_0 37 rfl) trivial ?_
        exact Or.inr (Or.inr ⟨a1, a2, (if_neg (by rw [← t3, ← t2]; assumption)).symm, h9⟩)
    by_cases w1 : w = 1
    · subst w1
      refine x_tsw (t := 105) (E_X10_fails_0 28 rfl) (by decide) (by decide) (by decide) ?_
      have hh : 0 ≤ h ∧ h ≤ 7 := by omega
      have t3 := s3 h (by omega) (by omega)
      refine x_aload_n (E_X10_fails_0 38 rfl) rfl ?_
      refine x_getR (E_X10_fails_0 39 rfl) fl_X10_82 rfl (by decide) rfl ?_
      refine x_getR (E_X10_fails_0 40 rfl) fl_X10_346 rfl (by decide) rfl ?_
      refine x_iload_n (E_X10_fails_0 41 rfl) rfl ?_
      refine x_ialde (f := τ9 103) (E_X10_fails_0 42 rfl) rfl (by decide) (by omega) rfl ?_
      refine z_iret (E_X10_fails_0 43 rfl) trivial ?_
      exact Or.inr (Or.inr ⟨a1, a2, t3, h9⟩)
    by_cases w2 : w = 2
    · subst w2
      refine x_tsw (t := 115) (E_X10_fails_0 28 rfl) (by decide) (by decide) (by decide) ?_
      have hh : 0 ≤ h ∧ h ≤ 7 := by omega
      refine x_aload_n (E_X10_fails_0 44 rfl) rfl ?_
      refine x_getR (E_X10_fails_0 45 rfl) fl_X10_82 rfl (by decide) rfl ?_
      refine x_iload_n (E_X10_fails_0 46 rfl) rfl ?_
      refine z_callVi (E_X10_fails_0 47 rfl) ml_X10_348 mv_X1_givenBy rfl (by decide) (by decide) (c_X1_givenBy hh (by rw [s6 4 (by decide)]; omega) (by rw [s6 4 (by decide), s5 97 (by decide)]; exact fun j x y => (hd.2.1 j x (by omega)).1)) (by decide) rfl rfl (Nat.le_of_ble_eq_true rfl) (fun z9 υ9 k9 => ?_)
      obtain ⟨e9, rfl⟩ := k9
      rw [s6 4 (by decide), s5 97 (by decide), slS_cong (fun j x y => (s1 j x (by omega)).1), Int.zero_add] at e9
      refine z_iret (E_X10_fails_0 48 rfl) trivial ?_
      exact Or.inr (Or.inr ⟨a1, a2, e9, h9⟩)
    by_cases w3 : w = 3
    · subst w3
      refine x_tsw (t := 124) (E_X10_fails_0 28 rfl) (by decide) (by decide) (by decide) ?_
      have hh : 0 ≤ h ∧ h ≤ 7 := by omega
      have t2 := s2 h (by omega) (by omega)
      refine x_aload_n (E_X10_fails_0 49 rfl) rfl ?_
      refine x_getR (E_X10_fails_0 50 rfl) fl_X10_82 rfl (by decide) rfl ?_
      refine x_getR (E_X10_fails_0 51 rfl) fl_X10_351 rfl (by decide) rfl ?_
      refine x_iload_n (E_X10_fails_0 52 rfl) rfl ?_
      refine x_ialde (f := τ9 102) (E_X10_fails_0 53 rfl) rfl (by decide) (by omega) rfl ?_
      refine z_iret (E_X10_fails_0 54 rfl) trivial ?_
      exact Or.inr (Or.inr ⟨a1, a2, t2, h9⟩)
    by_cases w4 : w = 4
    · subst w4
      refine x_tsw (t := 134) (E_X10_fails_0 28 rfl) (by decide) (by decide) (by decide) ?_
      refine x_aload_n (E_X10_fails_0 55 rfl) rfl ?_
      refine x_getR (E_X10_fails_0 56 rfl) fl_X10_82 rfl (by decide) rfl ?_
      refine x_getIe (v := τ9 96 8) (E_X10_fails_0 57 rfl) fl_X10_354 rfl (by decide) rfl ?_
      refine z_iret (E_X10_fails_0 58 rfl) trivial ?_
      exact Or.inr (Or.inr ⟨a1, a2, s4.1, h9⟩)
    refine x_tswD (t := 142) (E_X10_fails_0 28 rfl) (by omega) (by omega) (by decide) ?_
    obtain rfl : w = 5 := by omega
    refine x_aload_n (E_X10_fails_0 59 rfl) rfl ?_
    refine x_getR (E_X10_fails_1 0 rfl) fl_X10_82 rfl (by decide) rfl ?_
    refine z_callVi (E_X10_fails_1 1 rfl) ml_X10_357 mv_X1_shortCount rfl (by decide) (by decide) (c_X1_shortCount (fun h x y => by have := r2 h x y; omega) (fun h x y => by have := r3 h x y; omega)) (by decide) rfl rfl (Nat.le_of_ble_eq_true rfl) (fun z9 υ9 k9 => ?_)
    obtain ⟨e9, rfl⟩ := k9
    rw [Int.zero_add, sumS_cong (g := fun h => if hsS (σ 101) (σ 98) (σ 96 4).toNat (goS (σ 97) (σ 98) (σ 99) (σ 101) (σ 96 4).toNat 50 (σ 99) 0).1 h < owS (σ 97) (σ 99) (σ 96 4).toNat h then 1 else 0) (fun j x y => by rw [s2 j x (by omega), s3 j x (by omega)])] at e9
    refine z_iret (E_X10_fails_1 2 rfl) trivial ?_
    exact Or.inr (Or.inr ⟨a1, a2, e9, h9⟩)
  refine x_iload_n (E_X10_fails_0 0 rfl) rfl ?_
  refine x_iconst (E_X10_fails_0 1 rfl) ?_
  refine x_icmp_eq (E_X10_fails_0 2 rfl) (by omega) (by decide) (fun c1 => ?_) (fun c1 => ?_)
  · refine x_iload_n (E_X10_fails_0 8 rfl) rfl ?_
    refine x_iconst (E_X10_fails_0 9 rfl) ?_
    refine x_icmp_ne (E_X10_fails_0 10 rfl) (by omega) (by decide) (fun c2 => ?_) (fun c2 => ?_)
    · refine x_iload_n (E_X10_fails_0 17 rfl) rfl ?_
      refine x_iconst (E_X10_fails_0 18 rfl) ?_
      refine x_iconst (E_X10_fails_0 19 rfl) ?_
      refine z_callSi (E_X10_fails_0 20 rfl) ml_X10_100 ms_X10_within (c_X10_within (by omega) (by omega) (by omega)) (by decide) rfl rfl (Nat.le_of_ble_eq_true rfl) (fun z9 τ9 h9 => ?_)
      obtain ⟨rfl, ⟨rfl, c3⟩ | ⟨rfl, c3⟩⟩ := h9
      · refine x_if_ne (E_X10_fails_0 21 rfl) (by decide) (fun _ => ?_) (fun c9 => absurd c9 (by decide))
        exact j46 (by omega) (by omega)
      · refine x_if_ne (E_X10_fails_0 21 rfl) (by decide) (fun c9 => absurd c9 (by decide)) (fun _ => ?_)
        refine x_sipush (z := (-1002)) (E_X10_fails_0 22 rfl) (by decide) ?_
        refine z_iret (E_X10_fails_0 23 rfl) trivial ?_
        exact Or.inr (Or.inl ⟨by omega, by omega, rfl, rfl⟩)
    · refine x_iload_n (E_X10_fails_0 11 rfl) rfl ?_
      refine x_iconst (E_X10_fails_0 12 rfl) ?_
      refine x_iconst (E_X10_fails_0 13 rfl) ?_
      refine z_callSi (E_X10_fails_0 14 rfl) ml_X10_100 ms_X10_within (c_X10_within (by omega) (by omega) (by omega)) (by decide) rfl rfl (Nat.le_of_ble_eq_true rfl) (fun z9 τ9 h9 => ?_)
      obtain ⟨rfl, ⟨rfl, c4⟩ | ⟨rfl, c4⟩⟩ := h9
      · refine x_if_ne (E_X10_fails_0 15 rfl) (by decide) (fun _ => ?_) (fun c9 => absurd c9 (by decide))
        exact j46 (by omega) (by omega)
      · refine x_if_ne (E_X10_fails_0 15 rfl) (by decide) (fun c9 => absurd c9 (by decide)) (fun _ => ?_)
        refine x_goto (E_X10_fails_0 16 rfl) ?_
        refine x_sipush (z := (-1002)) (E_X10_fails_0 22 rfl) (by decide) ?_
        refine z_iret (E_X10_fails_0 23 rfl) trivial ?_
        exact Or.inr (Or.inl ⟨by omega, by omega, rfl, rfl⟩)
  · refine x_iload_n (E_X10_fails_0 3 rfl) rfl ?_
    refine z_callSi (E_X10_fails_0 4 rfl) ml_X10_104 ms_X10_isHouse (c_X10_isHouse (by omega)) (by decide) rfl rfl (Nat.le_of_ble_eq_true rfl) (fun z9 τ9 h9 => ?_)
    obtain ⟨rfl, ⟨rfl, c5⟩ | ⟨rfl, c5⟩⟩ := h9
    · refine x_if_ne (E_X10_fails_0 5 rfl) (by decide) (fun _ => ?_) (fun c9 => absurd c9 (by decide))
      refine x_iload_n (E_X10_fails_0 8 rfl) rfl ?_
      refine x_iconst (E_X10_fails_0 9 rfl) ?_
      refine x_icmp_ne (E_X10_fails_0 10 rfl) (by omega) (by decide) (fun c6 => ?_) (fun c6 => ?_)
      · refine x_iload_n (E_X10_fails_0 17 rfl) rfl ?_
        refine x_iconst (E_X10_fails_0 18 rfl) ?_
        refine x_iconst (E_X10_fails_0 19 rfl) ?_
        refine z_callSi (E_X10_fails_0 20 rfl) ml_X10_100 ms_X10_within (c_X10_within (by omega) (by omega) (by omega)) (by decide) rfl rfl (Nat.le_of_ble_eq_true rfl) (fun z9 τ9 h9 => ?_)
        obtain ⟨rfl, ⟨rfl, c7⟩ | ⟨rfl, c7⟩⟩ := h9
        · refine x_if_ne (E_X10_fails_0 21 rfl) (by decide) (fun _ => ?_) (fun c9 => absurd c9 (by decide))
          exact j46 (by omega) (by omega)
        · refine x_if_ne (E_X10_fails_0 21 rfl) (by decide) (fun c9 => absurd c9 (by decide)) (fun _ => ?_)
          refine x_sipush (z := (-1002)) (E_X10_fails_0 22 rfl) (by decide) ?_
          refine z_iret (E_X10_fails_0 23 rfl) trivial ?_
          exact Or.inr (Or.inl ⟨by omega, by omega, rfl, rfl⟩)
      · refine x_iload_n (E_X10_fails_0 11 rfl) rfl ?_
        refine x_iconst (E_X10_fails_0 12 rfl) ?_
        refine x_iconst (E_X10_fails_0 13 rfl) ?_
        refine z_callSi (E_X10_fails_0 14 rfl) ml_X10_100 ms_X10_within (c_X10_within (by omega) (by omega) (by omega)) (by decide) rfl rfl (Nat.le_of_ble_eq_true rfl) (fun z9 τ9 h9 => ?_)
        obtain ⟨rfl, ⟨rfl, c8⟩ | ⟨rfl, c8⟩⟩ := h9
        · refine x_if_ne (E_X10_fails_0 15 rfl) (by decide) (fun _ => ?_) (fun c9 => absurd c9 (by decide))
          exact j46 (by omega) (by omega)
        · refine x_if_ne (E_X10_fails_0 15 rfl) (by decide) (fun c9 => absurd c9 (by decide)) (fun _ => ?_)
          refine x_goto (E_X10_fails_0 16 rfl) ?_
          refine x_sipush (z := (-1002)) (E_X10_fails_0 22 rfl) (by decide) ?_
          refine z_iret (E_X10_fails_0 23 rfl) trivial ?_
          exact Or.inr (Or.inl ⟨by omega, by omega, rfl, rfl⟩)
    · refine x_if_ne (E_X10_fails_0 5 rfl) (by decide) (fun c9 => absurd c9 (by decide)) (fun _ => ?_)
      refine x_sipush (z := (-1001)) (E_X10_fails_0 6 rfl) (by decide) ?_
      refine z_iret (E_X10_fails_0 7 rfl) trivial ?_
      exact Or.inl ⟨by omega, rfl, rfl⟩

set_option maxHeartbeats 1000000 in
theorem c_X11_fails {h w : Int} (q1 : rgi h) (q2 : rgi w) (hd : DuOk (σ 114 63).toNat (σ 162) (σ 163) (σ 164) (σ 167)) (hn : 0 ≤ σ 114 63) : CI l G M_X11_fails 2 [vr 114, vi h, vi w] σ (fun z τ => (¬ (h = -1 ∨ (0 ≤ h ∧ h ≤ 7)) ∧ z = -1001 ∧ τ = σ) ∨ ((h = -1 ∨ (0 ≤ h ∧ h ≤ 7)) ∧ ¬ ((h = -1 → 4 ≤ w ∧ w ≤ 5) ∧ (h ≠ -1 → 0 ≤ w ∧ w ≤ 3)) ∧ z = -1002 ∧ τ = σ) ∨ ((h = -1 ∨ (0 ≤ h ∧ h ≤ 7)) ∧ ((h = -1 → 4 ≤ w ∧ w ≤ 5) ∧ (h ≠ -1 → 0 ≤ w ∧ w ≤ 3)) ∧ z = flZ (σ 162) (σ 163) (σ 164) (σ 167) (σ 114 63).toNat h w ∧ GrP σ τ)) := by
  have n24 := hd.1
  refine Ct.of rfl (Nat.le_of_ble_eq_true rfl) ?_
  have j102 : ∀ (fl : Int) (o : Option AV) (τ : Nat → Int → Int), (h = -1 ∨ (0 ≤ h ∧ h ≤ 7)) → ((h = -1 → 4 ≤ w ∧ w ≤ 5) ∧ (h ≠ -1 → 0 ≤ w ∧ w ≤ 3)) → fl = sumS (fun h => if hsS (σ 167) (σ 163) (σ 114 63).toNat (goS (σ 162) (σ 163) (σ 164) (σ 167) (σ 114 63).toNat 50 (σ 164) 0).1 h < owS (σ 162) (σ 164) (σ 114 63).toNat h then 1 else 0) 8 → GrP σ τ → (∀ h, 0 ≤ h → h ≤ 7 → CI l G M_X11_has 0 [vr 114, vi h] τ (IP (hsS (σ 167) (σ 163) (σ 114 63).toNat (goS (σ 162) (σ 163) (σ 164) (σ 167) (σ 114 63).toNat 50 (σ 164) 0).1 h) τ)) → (∀ h, 0 ≤ h → h ≤ 7 → CI l G M_X11_owes 0 [vr 114, vi h] τ (IP (owS (σ 162) (σ 164) (σ 114 63).toNat h) τ)) → (∀ h, 0 ≤ h → h ≤ 7 → CI l G M_X11_gives 0 [vr 114, vi h] τ (IP (sumS (slS (σ 162) (goS (σ 162) (σ 163) (σ 164) (σ 167) (σ 114 63).toNat 50 (σ 164) 0).1 h) (σ 114 63).toNat) τ)) → (∀ h, 0 ≤ h → h ≤ 7 → 0 ≤ hsS (σ 167) (σ 163) (σ 114 63).toNat (goS (σ 162) (σ 163) (σ 164) (σ 167) (σ 114 63).toNat 50 (σ 164) 0).1 h ∧ hsS (σ 167) (σ 163) (σ 114 63).toNat (goS (σ 162) (σ 163) (σ 164) (σ 167) (σ 114 63).toNat 50 (σ 164) 0).1 h ≤ 300000) → XI l G M_X11_fails 2 102 [some (vr 114), some (vi h), some (vi w), some (vi fl), o] [] τ (fun z τ => (¬ (h = -1 ∨ (0 ≤ h ∧ h ≤ 7)) ∧ z = -1001 ∧ τ = σ) ∨ ((h = -1 ∨ (0 ≤ h ∧ h ≤ 7)) ∧ ¬ ((h = -1 → 4 ≤ w ∧ w ≤ 5) ∧ (h ≠ -1 → 0 ≤ w ∧ w ≤ 3)) ∧ z = -1002 ∧ τ = σ) ∨ ((h = -1 ∨ (0 ≤ h ∧ h ≤ 7)) ∧ ((h = -1 → 4 ≤ w ∧ w ≤ 5) ∧ (h ≠ -1 → 0 ≤ w ∧ w ≤ 3)) ∧ z = flZ (σ 162) (σ 163) (σ 164) (σ 167) (σ 114 63).toNat h w ∧ GrP σ τ)) := by
    intro fl o τ a1 a2 hfl h9 ch co cg gr
    refine x_iload_n (E_X11_fails_0 51 rfl) rfl ?_
    by_cases w0 : w = 0
    · subst w0
      refine x_tsw (t := 136) (E_X11_fails_0 52 rfl) (by decide) (by decide) (by decide) ?_
      have g8 := gr h (by omega) (by omega)
      have g7 := owS_rg (h := h) hd
      refine x_aload_n (E_X11_fails_0 53 rfl) rfl ?_
      refine x_iload_n (E_X11_fails_0 54 rfl) rfl ?_
      refine z_callVi (E_X11_fails_0 55 rfl) ml_X11_444 mv_X11_has rfl (by decide) (by decide) (ch h (by omega) (by omega)) (by decide) rfl rfl (Nat.le_of_ble_eq_true rfl) (fun z8 τ9 k9 => ?_)
      obtain ⟨rfl, rfl⟩ := k9
      refine x_aload_n (E_X11_fails_0 56 rfl) rfl ?_
      refine x_iload_n (E_X11_fails_0 57 rfl) rfl ?_
      refine z_callVi (E_X11_fails_0 58 rfl) ml_X11_441 mv_X11_owes rfl (by decide) (by decide) (co h (by omega) (by omega)) (by decide) rfl rfl (Nat.le_of_ble_eq_true rfl) (fun z8 τ9 k9 => ?_)
      obtain ⟨rfl, rfl⟩ := k9
      refine x_icmp_ge (E_X11_fails_0 59 rfl) (by omega) (by omega) (fun c1 => ?_) (fun c1 => ?_)
      · refine x_iconst (E_X11_fails_1 2 rfl) ?_
        refine z_callSi (E_X11_fails_1 3 rfl) ml_X11_307 ms_X11_one (c_X11_one (by omega)) (by decide) rfl rfl (Nat.le_of_ble_eq_true rfl) (fun z9 τ9 h9 => ?_)
        obtain ⟨rfl, rfl⟩ := h9
        refine z_iret (E_X11_fails_1 4 rfl) trivial ?_
        exact Or.inr (Or.inr ⟨a1, a2, by first | exact (if_pos (by omega)).symm | exact (if_neg (by omega)).symm, h9⟩)
      · refine x_iconst (E_X11_fails_1 0 rfl) ?_
        refine x_goto (E_X11_fails_1 1 rfl) ?_
        refine z_callSi (E_X11_fails_1 3 rfl) ml_X11_307 ms_X11_one (c_X11_one (by omega)) (by decide) rfl rfl (Nat.le_of_ble_eq_true rfl) (fun z9 τ9 h9 => ?_)
        obtain ⟨rfl, rfl⟩ := h9
        refine z_iret (E_X11_fails_1 4 rfl) trivial ?_
        exact Or.inr (Or.inr ⟨a1, a2, by first | exact (if_pos (by omega)).symm | exact (if_neg (by omega)).symm, h9⟩)
    by_cases w1 : w = 1
    · subst w1
      refine x_tsw (t := 158) (E_X11_fails_0 52 rfl) (by decide) (by decide) (by decide) ?_
      refine x_aload_n (E_X11_fails_1 5 rfl) rfl ?_
      refine x_iload_n (E_X11_fails_1 6 rfl) rfl ?_
      refine z_callVi (E_X11_fails_1 7 rfl) ml_X11_444 mv_X11_has rfl (by decide) (by decide) (ch h (by omega) (by omega)) (by decide) rfl rfl (Nat.le_of_ble_eq_true rfl) (fun z8 τ9 k9 => ?_)
      obtain ⟨rfl, rfl⟩ := k9
      refine z_iret (E_X11_fails_1 8 rfl) trivial ?_
      exact Or.inr (Or.inr ⟨a1, a2, rfl, h9⟩)
    by_cases w2 : w = 2
    · subst w2
      refine x_tsw (t := 164) (E_X11_fails_0 52 rfl) (by decide) (by decide) (by decide) ?_
      refine x_aload_n (E_X11_fails_1 9 rfl) rfl ?_
      refine x_iload_n (E_X11_fails_1 10 rfl) rfl ?_
      refine z_callVi (E_X11_fails_1 11 rfl) ml_X11_450 mv_X11_gives rfl (by decide) (by decide) (cg h (by omega) (by omega)) (by decide) rfl rfl (Nat.le_of_ble_eq_true rfl) (fun z8 τ9 k9 => ?_)
      obtain ⟨rfl, rfl⟩ := k9
      refine z_iret (E_X11_fails_1 12 rfl) trivial ?_
      exact Or.inr (Or.inr ⟨a1, a2, rfl, h9⟩)
    by_cases w3 : w = 3
    · subst w3
      refine x_tsw (t := 170) (E_X11_fails_0 52 rfl) (by decide) (by decide) (by decide) ?_
      refine x_aload_n (E_X11_fails_1 13 rfl) rfl ?_
      refine x_iload_n (E_X11_fails_1 14 rfl) rfl ?_
      refine z_callVi (E_X11_fails_1 15 rfl) ml_X11_441 mv_X11_owes rfl (by decide) (by decide) (co h (by omega) (by omega)) (by decide) rfl rfl (Nat.le_of_ble_eq_true rfl) (fun z8 τ9 k9 => ?_)
      obtain ⟨rfl, rfl⟩ := k9
      refine z_iret (E_X11_fails_1 16 rfl) trivial ?_
      exact Or.inr (Or.inr ⟨a1, a2, rfl, h9⟩)
    by_cases w4 : w = 4
    · subst w4
      refine x_tsw (t := 176) (E_X11_fails_0 52 rfl) (by decide) (by decide) (by decide) ?_
      refine x_aload_n (E_X11_fails_1 17 rfl) rfl ?_
      refine x_getIe (v := τ 114 70) (E_X11_fails_1 18 rfl) fl_X11_438 rfl (by decide) rfl ?_
      refine z_iret (E_X11_fails_1 19 rfl) trivial ?_
      exact Or.inr (Or.inr ⟨a1, a2, h9.2.1.1, h9⟩)
    refine x_tswD (t := 181) (E_X11_fails_0 52 rfl) (by omega) (by omega) (by decide) ?_
    obtain rfl : w = 5 := by omega
    refine x_iload_n (E_X11_fails_1 20 rfl) rfl ?_
    refine z_iret (E_X11_fails_1 21 rfl) trivial ?_
    exact Or.inr (Or.inr ⟨a1, a2, hfl, h9⟩)
  have loop : ∀ (k : Nat) (i s : Int) (τ : Nat → Int → Int), (h = -1 ∨ (0 ≤ h ∧ h ≤ 7)) → ((h = -1 → 4 ≤ w ∧ w ≤ 5) ∧ (h ≠ -1 → 0 ≤ w ∧ w ≤ 3)) → i = 8 - k → k ≤ 8 → s = sumS (fun h => if hsS (σ 167) (σ 163) (σ 114 63).toNat (goS (σ 162) (σ 163) (σ 164) (σ 167) (σ 114 63).toNat 50 (σ 164) 0).1 h < owS (σ 162) (σ 164) (σ 114 63).toNat h then 1 else 0) i.toNat → GrP σ τ → (∀ h, 0 ≤ h → h ≤ 7 → CI l G M_X11_has 0 [vr 114, vi h] τ (IP (hsS (σ 167) (σ 163) (σ 114 63).toNat (goS (σ 162) (σ 163) (σ 164) (σ 167) (σ 114 63).toNat 50 (σ 164) 0).1 h) τ)) → (∀ h, 0 ≤ h → h ≤ 7 → CI l G M_X11_owes 0 [vr 114, vi h] τ (IP (owS (σ 162) (σ 164) (σ 114 63).toNat h) τ)) → (∀ h, 0 ≤ h → h ≤ 7 → CI l G M_X11_gives 0 [vr 114, vi h] τ (IP (sumS (slS (σ 162) (goS (σ 162) (σ 163) (σ 164) (σ 167) (σ 114 63).toNat 50 (σ 164) 0).1 h) (σ 114 63).toNat) τ)) → (∀ h, 0 ≤ h → h ≤ 7 → 0 ≤ hsS (σ 167) (σ 163) (σ 114 63).toNat (goS (σ 162) (σ 163) (σ 164) (σ 167) (σ 114 63).toNat 50 (σ 164) 0).1 h ∧ hsS (σ 167) (σ 163) (σ 114 63).toNat (goS (σ 162) (σ 163) (σ 164) (σ 167) (σ 114 63).toNat 50 (σ 164) 0).1 h ≤ 300000) → XI l G M_X11_fails 2 63 [some (vr 114), some (vi h), some (vi w), some (vi s), some (vi i)] [] τ (fun z τ => (¬ (h = -1 ∨ (0 ≤ h ∧ h ≤ 7)) ∧ z = -1001 ∧ τ = σ) ∨ ((h = -1 ∨ (0 ≤ h ∧ h ≤ 7)) ∧ ¬ ((h = -1 → 4 ≤ w ∧ w ≤ 5) ∧ (h ≠ -1 → 0 ≤ w ∧ w ≤ 3)) ∧ z = -1002 ∧ τ = σ) ∨ ((h = -1 ∨ (0 ≤ h ∧ h ≤ 7)) ∧ ((h = -1 → 4 ≤ w ∧ w ≤ 5) ∧ (h ≠ -1 → 0 ≤ w ∧ w ≤ 3)) ∧ z = flZ (σ 162) (σ 163) (σ 164) (σ 167) (σ 114 63).toNat h w ∧ GrP σ τ)) := by
    intro k
    induction k using Nat.strongRecOn with
    | _ k ih =>
    intro i s τ a1 a2 hi hk hs h9 ch co cg gr
    refine x_iload (E_X11_fails_0 32 rfl) rfl ?_
    refine x_bipush (z := 8) (E_X11_fails_0 33 rfl) (by decide) ?_
    refine x_icmp_ge (E_X11_fails_0 34 rfl) (by omega) (by decide) (fun c1 => ?_) (fun c1 => ?_)
    · exact j102 _ _ _ a1 a2 (by rw [hs, show i = 8 by omega]; rfl) h9 ch co cg gr
    · have g8 := gr i (by omega) (by omega)
      have g7 := owS_rg (h := i) hd
      refine x_iload_n (E_X11_fails_0 35 rfl) rfl ?_
      refine x_aload_n (E_X11_fails_0 36 rfl) rfl ?_
      refine x_iload (E_X11_fails_0 37 rfl) rfl ?_
      refine z_callVi (E_X11_fails_0 38 rfl) ml_X11_444 mv_X11_has rfl (by decide) (by decide) (ch i (by omega) (by omega)) (by decide) rfl rfl (Nat.le_of_ble_eq_true rfl) (fun z8 τ9 k9 => ?_)
      obtain ⟨rfl, rfl⟩ := k9
      refine x_aload_n (E_X11_fails_0 39 rfl) rfl ?_
      refine x_iload (E_X11_fails_0 40 rfl) rfl ?_
      refine z_callVi (E_X11_fails_0 41 rfl) ml_X11_441 mv_X11_owes rfl (by decide) (by decide) (co i (by omega) (by omega)) (by decide) rfl rfl (Nat.le_of_ble_eq_true rfl) (fun z8 τ9 k9 => ?_)
      obtain ⟨rfl, rfl⟩ := k9
      refine x_icmp_ge (E_X11_fails_0 42 rfl) (by omega) (by omega) (fun c2 => ?_) (fun c2 => ?_)
      · refine x_iconst (E_X11_fails_0 45 rfl) ?_
        refine z_callSi (E_X11_fails_0 46 rfl) ml_X11_307 ms_X11_one (c_X11_one (by omega)) (by decide) rfl rfl (Nat.le_of_ble_eq_true rfl) (fun z9 τ9 h9 => ?_)
        obtain ⟨rfl, rfl⟩ := h9
        refine x_iadd (E_X11_fails_0 47 rfl) ?_
        refine x_istore_n (E_X11_fails_0 48 rfl) rfl ?_
        refine x_iinc (E_X11_fails_0 49 rfl) rfl rfl ?_
        refine x_goto (E_X11_fails_0 50 rfl) ?_
        refine ih (k - 1) (by omega) _ _ _ a1 a2 (by omega) (by omega) ?_ h9 ch co cg gr
        rw [sumS_i (by omega)]
        try dsimp only
        split
        all_goals first | omega | (exfalso; omega)
      · refine x_iconst (E_X11_fails_0 43 rfl) ?_
        refine x_goto (E_X11_fails_0 44 rfl) ?_
        refine z_callSi (E_X11_fails_0 46 rfl) ml_X11_307 ms_X11_one (c_X11_one (by omega)) (by decide) rfl rfl (Nat.le_of_ble_eq_true rfl) (fun z9 τ9 h9 => ?_)
        obtain ⟨rfl, rfl⟩ := h9
        refine x_iadd (E_X11_fails_0 47 rfl) ?_
        refine x_istore_n (E_X11_fails_0 48 rfl) rfl ?_
        refine x_iinc (E_X11_fails_0 49 rfl) rfl rfl ?_
        refine x_goto (E_X11_fails_0 50 rfl) ?_
        refine ih (k - 1) (by omega) _ _ _ a1 a2 (by omega) (by omega) ?_ h9 ch co cg gr
        rw [sumS_i (by omega)]
        try dsimp only
        split
        all_goals first | omega | (exfalso; omega)
  have j54 : (h = -1 ∨ (0 ≤ h ∧ h ≤ 7)) → ((h = -1 → 4 ≤ w ∧ w ≤ 5) ∧ (h ≠ -1 → 0 ≤ w ∧ w ≤ 3)) → XI l G M_X11_fails 2 54 [some (vr 114), some (vi h), some (vi w), none, none] [] σ (fun z τ => (¬ (h = -1 ∨ (0 ≤ h ∧ h ≤ 7)) ∧ z = -1001 ∧ τ = σ) ∨ ((h = -1 ∨ (0 ≤ h ∧ h ≤ 7)) ∧ ¬ ((h = -1 → 4 ≤ w ∧ w ≤ 5) ∧ (h ≠ -1 → 0 ≤ w ∧ w ≤ 3)) ∧ z = -1002 ∧ τ = σ) ∨ ((h = -1 ∨ (0 ≤ h ∧ h ≤ 7)) ∧ ((h = -1 → 4 ≤ w ∧ w ≤ 5) ∧ (h ≠ -1 → 0 ≤ w ∧ w ≤ 3)) ∧ z = flZ (σ 162) (σ 163) (σ 164) (σ 167) (σ 114 63).toNat h w ∧ GrP σ τ)) := by
    intro a1 a2
    refine x_aload_n (E_X11_fails_0 26 rfl) rfl ?_
    refine z_callVv (E_X11_fails_0 27 rfl) ml_X11_447 mv_X11_goRounds rfl (by decide) (by decide) (c_X11_goRounds hd hn) (by decide) rfl rfl (Nat.le_of_ble_eq_true rfl) (fun τ9 h9 => ?_)
    obtain ⟨s1, s2, s3, s4⟩ := id h9
    have e63 := s4 63 (by decide)
    have e162 : τ9 162 = σ 162 := s3 162 (by decide)
    have e163 : τ9 163 = σ 163 := s3 163 (by decide)
    have e164 : τ9 164 = σ 164 := s3 164 (by decide)
    have e167 : τ9 167 = σ 167 := s3 167 (by decide)
    have gr : ∀ j, 0 ≤ j → j < (((σ 114 63).toNat : Nat) : Int) → 0 ≤ (goS (σ 162) (σ 163) (σ 164) (σ 167) (σ 114 63).toNat 50 (σ 164) 0).1 j ∧ (goS (σ 162) (σ 163) (σ 164) (σ 167) (σ 114 63).toNat 50 (σ 164) 0).1 j ≤ 9999 := fun j x y => by
      have := s1 j x (by omega)
      omega
    have ch : ∀ h, 0 ≤ h → h ≤ 7 → CI l G M_X11_has 0 [vr 114, vi h] τ9 (IP (hsS (σ 167) (σ 163) (σ 114 63).toNat (goS (σ 162) (σ 163) (σ 164) (σ 167) (σ 114 63).toNat 50 (σ 164) 0).1 h) τ9) := fun h x y => CI_mono (c_X11_has (by omega) (by omega) (by rw [e63, e163]; exact fun j x y => (hd.2.1 j x (by omega)).2.1)) (fun z υ c => by
      obtain ⟨c1, c2⟩ := c
      refine ⟨c1.trans ?_, c2⟩
      rw [e63, e163, e167]
      exact hsS_cong (g := τ9 165) (fun j x y => (s1 j x (by omega)).1))
    have co : ∀ h, 0 ≤ h → h ≤ 7 → CI l G M_X11_owes 0 [vr 114, vi h] τ9 (IP (owS (σ 162) (σ 164) (σ 114 63).toNat h) τ9) := fun h x y => CI_mono (c_X11_owes (by omega) (by omega) (by rw [e63, e162]; exact fun j x y => (hd.2.1 j x (by omega)).1)) (fun z υ c => by
      obtain ⟨c1, c2⟩ := c
      refine ⟨c1.trans ?_, c2⟩
      rw [e63, e162, e164, Int.zero_add]
      rfl)
    have cg : ∀ h, 0 ≤ h → h ≤ 7 → CI l G M_X11_gives 0 [vr 114, vi h] τ9 (IP (sumS (slS (σ 162) (goS (σ 162) (σ 163) (σ 164) (σ 167) (σ 114 63).toNat 50 (σ 164) 0).1 h) (σ 114 63).toNat) τ9) := fun h x y => CI_mono (c_X11_gives (by omega) (by omega) (by rw [e63, e162]; exact fun j x y => (hd.2.1 j x (by omega)).1)) (fun z υ c => by
      obtain ⟨c1, c2⟩ := c
      refine ⟨c1.trans ?_, c2⟩
      rw [e63, e162, Int.zero_add]
      exact slS_cong (fun j x y => (s1 j x (by omega)).1))
    refine x_iconst (E_X11_fails_0 28 rfl) ?_
    refine x_istore_n (E_X11_fails_0 29 rfl) rfl ?_
    refine x_iconst (E_X11_fails_0 30 rfl) ?_
    refine x_istore (E_X11_fails_0 31 rfl) rfl ?_
    exact loop 8 0 0 _ a1 a2 (by omega) (Nat.le_refl _) rfl h9 ch co cg (fun h x y => hsS_rg hd (by omega) gr)
  refine x_iload_n (E_X11_fails_0 0 rfl) rfl ?_
  refine x_iconst (E_X11_fails_0 1 rfl) ?_
  refine x_icmp_eq (E_X11_fails_0 2 rfl) (by omega) (by decide) (fun c1 => ?_) (fun c1 => ?_)
  · refine x_iload_n (E_X11_fails_0 8 rfl) rfl ?_
    refine x_iconst (E_X11_fails_0 9 rfl) ?_
    refine x_icmp_ne (E_X11_fails_0 10 rfl) (by omega) (by decide) (fun c2 => ?_) (fun c2 => ?_)
    · refine x_iload_n (E_X11_fails_0 18 rfl) rfl ?_
      refine x_i2l (E_X11_fails_0 19 rfl) (by omega) ?_
      refine x_lconst (z := 0) (E_X11_fails_0 20 rfl) rfl ?_
      refine x_ldc2 (z := 3) (E_X11_fails_0 21 rfl) kc_X11_220 (by decide) ?_
      refine z_callSi (E_X11_fails_0 22 rfl) ml_X11_197 ms_X11_in (c_X11_in (by omega) (by omega) (by omega)) (by decide) rfl rfl (Nat.le_of_ble_eq_true rfl) (fun z9 τ9 h9 => ?_)
      obtain ⟨rfl, ⟨rfl, c3⟩ | ⟨rfl, c3⟩⟩ := h9
      · refine x_if_ne (E_X11_fails_0 23 rfl) (by decide) (fun _ => ?_) (fun c9 => absurd c9 (by decide))
        exact j54 (by omega) (by omega)
      · refine x_if_ne (E_X11_fails_0 23 rfl) (by decide) (fun c9 => absurd c9 (by decide)) (fun _ => ?_)
        refine x_sipush (z := (-1002)) (E_X11_fails_0 24 rfl) (by decide) ?_
        refine z_iret (E_X11_fails_0 25 rfl) trivial ?_
        exact Or.inr (Or.inl ⟨by omega, by omega, rfl, rfl⟩)
    · refine x_iload_n (E_X11_fails_0 11 rfl) rfl ?_
      refine x_i2l (E_X11_fails_0 12 rfl) (by omega) ?_
      refine x_ldc2 (z := 4) (E_X11_fails_0 13 rfl) kc_X11_430 (by decide) ?_
      refine x_ldc2 (z := 5) (E_X11_fails_0 14 rfl) kc_X11_201 (by decide) ?_
      refine z_callSi (E_X11_fails_0 15 rfl) ml_X11_197 ms_X11_in (c_X11_in (by omega) (by omega) (by omega)) (by decide) rfl rfl (Nat.le_of_ble_eq_true rfl) (fun z9 τ9 h9 => ?_)
      obtain ⟨rfl, ⟨rfl, c4⟩ | ⟨rfl, c4⟩⟩ := h9
      · refine x_if_ne (E_X11_fails_0 16 rfl) (by decide) (fun _ => ?_) (fun c9 => absurd c9 (by decide))
        exact j54 (by omega) (by omega)
      · refine x_if_ne (E_X11_fails_0 16 rfl) (by decide) (fun c9 => absurd c9 (by decide)) (fun _ => ?_)
        refine x_goto (E_X11_fails_0 17 rfl) ?_
        refine x_sipush (z := (-1002)) (E_X11_fails_0 24 rfl) (by decide) ?_
        refine z_iret (E_X11_fails_0 25 rfl) trivial ?_
        exact Or.inr (Or.inl ⟨by omega, by omega, rfl, rfl⟩)
  · refine x_iload_n (E_X11_fails_0 3 rfl) rfl ?_
    refine z_callSi (E_X11_fails_0 4 rfl) ml_X11_213 ms_X11_isHouse (c_X11_isHouse (by omega)) (by decide) rfl rfl (Nat.le_of_ble_eq_true rfl) (fun z9 τ9 h9 => ?_)
    obtain ⟨rfl, ⟨rfl, c5⟩ | ⟨rfl, c5⟩⟩ := h9
    · refine x_if_ne (E_X11_fails_0 5 rfl) (by decide) (fun _ => ?_) (fun c9 => absurd c9 (by decide))
      refine x_iload_n (E_X11_fails_0 8 rfl) rfl ?_
      refine x_iconst (E_X11_fails_0 9 rfl) ?_
      refine x_icmp_ne (E_X11_fails_0 10 rfl) (by omega) (by decide) (fun c6 => ?_) (fun c6 => ?_)
      · refine x_iload_n (E_X11_fails_0 18 rfl) rfl ?_
        refine x_i2l (E_X11_fails_0 19 rfl) (by omega) ?_
        refine x_lconst (z := 0) (E_X11_fails_0 20 rfl) rfl ?_
        refine x_ldc2 (z := 3) (E_X11_fails_0 21 rfl) kc_X11_220 (by decide) ?_
        refine z_callSi (E_X11_fails_0 22 rfl) ml_X11_197 ms_X11_in (c_X11_in (by omega) (by omega) (by omega)) (by decide) rfl rfl (Nat.le_of_ble_eq_true rfl) (fun z9 τ9 h9 => ?_)
        obtain ⟨rfl, ⟨rfl, c7⟩ | ⟨rfl, c7⟩⟩ := h9
        · refine x_if_ne (E_X11_fails_0 23 rfl) (by decide) (fun _ => ?_) (fun c9 => absurd c9 (by decide))
          exact j54 (by omega) (by omega)
        · refine x_if_ne (E_X11_fails_0 23 rfl) (by decide) (fun c9 => absurd c9 (by decide)) (fun _ => ?_)
          refine x_sipush (z := (-1002)) (E_X11_fails_0 24 rfl) (by decide) ?_
          refine z_iret (E_X11_fails_0 25 rfl) trivial ?_
          exact Or.inr (Or.inl ⟨by omega, by omega, rfl, rfl⟩)
      · refine x_iload_n (E_X11_fails_0 11 rfl) rfl ?_
        refine x_i2l (E_X11_fails_0 12 rfl) (by omega) ?_
        refine x_ldc2 (z := 4) (E_X11_fails_0 13 rfl) kc_X11_430 (by decide) ?_
        refine x_ldc2 (z := 5) (E_X11_fails_0 14 rfl) kc_X11_201 (by decide) ?_
        refine z_callSi (E_X11_fails_0 15 rfl) ml_X11_197 ms_X11_in (c_X11_in (by omega) (by omega) (by omega)) (by decide) rfl rfl (Nat.le_of_ble_eq_true rfl) (fun z9 τ9 h9 => ?_)
        obtain ⟨rfl, ⟨rfl, c8⟩ | ⟨rfl, c8⟩⟩ := h9
        · refine x_if_ne (E_X11_fails_0 16 rfl) (by decide) (fun _ => ?_) (fun c9 => absurd c9 (by decide))
          exact j54 (by omega) (by omega)
        · refine x_if_ne (E_X11_fails_0 16 rfl) (by decide) (fun c9 => absurd c9 (by decide)) (fun _ => ?_)
          refine x_goto (E_X11_fails_0 17 rfl) ?_
          refine x_sipush (z := (-1002)) (E_X11_fails_0 24 rfl) (by decide) ?_
          refine z_iret (E_X11_fails_0 25 rfl) trivial ?_
          exact Or.inr (Or.inl ⟨by omega, by omega, rfl, rfl⟩)
    · refine x_if_ne (E_X11_fails_0 5 rfl) (by decide) (fun c9 => absurd c9 (by decide)) (fun _ => ?_)
      refine x_sipush (z := (-1001)) (E_X11_fails_0 6 rfl) (by decide) ?_
      refine z_iret (E_X11_fails_0 7 rfl) trivial ?_
      exact Or.inl ⟨by omega, rfl, rfl⟩

set_option maxRecDepth 100000 in
theorem StP.sd {σ τ : Nat → Int → Int} (h : StP σ τ) : Sd σ τ := by
  obtain ⟨-, -, -, -, hF, hO⟩ := h
  exact ⟨⟨List.forall_mem_cons.mpr ⟨hF 2 (by decide), List.forall_mem_cons.mpr ⟨hF 3 (by decide), List.forall_mem_cons.mpr ⟨hF 4 (by decide), List.forall_mem_cons.mpr ⟨hF 5 (by decide), List.forall_mem_cons.mpr ⟨hF 6 (by decide), List.forall_mem_cons.mpr ⟨hF 115 (by decide), List.forall_mem_cons.mpr ⟨hF 116 (by decide), List.forall_mem_cons.mpr ⟨hF 117 (by decide), List.forall_mem_cons.mpr ⟨hF 119 (by decide), List.forall_mem_cons.mpr ⟨hF 120 (by decide), List.forall_mem_cons.mpr ⟨hF 105 (by decide), List.forall_mem_cons.mpr ⟨hF 121 (by decide), List.forall_mem_cons.mpr ⟨hF 8 (by decide), List.forall_mem_cons.mpr ⟨hF 9 (by decide), List.forall_mem_cons.mpr ⟨hF 10 (by decide), List.forall_mem_cons.mpr ⟨hF 11 (by decide), List.forall_mem_cons.mpr ⟨hF 12 (by decide), List.forall_mem_cons.mpr ⟨hF 13 (by decide), List.forall_mem_cons.mpr ⟨hF 14 (by decide), List.forall_mem_cons.mpr ⟨hF 122 (by decide), List.forall_mem_cons.mpr ⟨hF 123 (by decide), List.forall_mem_cons.mpr ⟨hF 124 (by decide), List.forall_mem_cons.mpr ⟨hF 125 (by decide), List.forall_mem_cons.mpr ⟨hF 126 (by decide), List.forall_mem_cons.mpr ⟨hF 127 (by decide), List.forall_mem_cons.mpr ⟨hF 128 (by decide), List.forall_mem_cons.mpr ⟨hF 15 (by decide), List.forall_mem_cons.mpr ⟨hF 18 (by decide), List.forall_mem_cons.mpr ⟨hF 19 (by decide), List.forall_mem_cons.mpr ⟨hF 133 (by decide), List.forall_mem_cons.mpr ⟨hF 134 (by decide), List.forall_mem_cons.mpr ⟨hF 21 (by decide), List.forall_mem_cons.mpr ⟨hF 22 (by decide), List.forall_mem_cons.mpr ⟨hF 23 (by decide), List.forall_mem_cons.mpr ⟨hF 24 (by decide), List.forall_mem_cons.mpr ⟨hF 25 (by decide), List.forall_mem_cons.mpr ⟨hF 26 (by decide), List.forall_mem_cons.mpr ⟨hF 27 (by decide), List.forall_mem_cons.mpr ⟨hF 28 (by decide), List.forall_mem_cons.mpr ⟨hF 30 (by decide), List.forall_mem_cons.mpr ⟨hF 31 (by decide), List.forall_mem_cons.mpr ⟨hF 32 (by decide), List.forall_mem_cons.mpr ⟨hF 33 (by decide), List.forall_mem_cons.mpr ⟨hF 34 (by decide), List.forall_mem_cons.mpr ⟨hF 35 (by decide), List.forall_mem_cons.mpr ⟨hF 36 (by decide), List.forall_mem_cons.mpr ⟨hF 37 (by decide), List.forall_mem_cons.mpr ⟨hF 135 (by decide), List.forall_mem_cons.mpr ⟨hF 136 (by decide), List.forall_mem_cons.mpr ⟨hF 137 (by decide), List.forall_mem_cons.mpr ⟨hF 38 (by decide), List.forall_mem_cons.mpr ⟨hF 42 (by decide), List.forall_mem_cons.mpr ⟨hF 138 (by decide), List.forall_mem_cons.mpr ⟨hF 75 (by decide), List.forall_mem_cons.mpr ⟨hF 76 (by decide), List.forall_mem_cons.mpr ⟨hF 77 (by decide), List.forall_mem_cons.mpr ⟨hF 78 (by decide), List.forall_mem_cons.mpr ⟨hF 155 (by decide), List.forall_mem_cons.mpr ⟨hF 156 (by decide), List.forall_mem_cons.mpr ⟨hF 157 (by decide), List.forall_mem_cons.mpr ⟨hF 158 (by decide), List.forall_mem_cons.mpr ⟨hF 80 (by decide), List.forall_mem_cons.mpr ⟨hF 81 (by decide), List.forall_mem_cons.mpr ⟨hF 82 (by decide), List.forall_mem_cons.mpr ⟨hF 83 (by decide), List.forall_mem_cons.mpr ⟨hF 84 (by decide), List.forall_mem_cons.mpr ⟨hF 85 (by decide), List.forall_mem_cons.mpr ⟨hF 86 (by decide), List.forall_mem_cons.mpr ⟨hF 87 (by decide), List.forall_mem_cons.mpr ⟨hF 159 (by decide), List.forall_mem_cons.mpr ⟨hF 89 (by decide), List.forall_mem_cons.mpr ⟨hF 90 (by decide), List.forall_mem_cons.mpr ⟨hF 91 (by decide), List.forall_mem_cons.mpr ⟨hF 92 (by decide), List.forall_mem_cons.mpr ⟨hF 160 (by decide), List.forall_mem_cons.mpr ⟨hF 97 (by decide), List.forall_mem_cons.mpr ⟨hF 98 (by decide), List.forall_mem_cons.mpr ⟨hF 99 (by decide), List.forall_mem_cons.mpr ⟨hF 162 (by decide), List.forall_mem_cons.mpr ⟨hF 163 (by decide), List.forall_mem_cons.mpr ⟨hF 164 (by decide), List.forall_mem_cons.mpr ⟨hF 101 (by decide), List.forall_mem_cons.mpr ⟨hF 167 (by decide), List.forall_mem_cons.mpr ⟨hF 106 (by decide), List.forall_mem_cons.mpr ⟨hF 168 (by decide), fun _ h => nomatch h⟩⟩⟩⟩⟩⟩⟩⟩⟩⟩⟩⟩⟩⟩⟩⟩⟩⟩⟩⟩⟩⟩⟩⟩⟩⟩⟩⟩⟩⟩⟩⟩⟩⟩⟩⟩⟩⟩⟩⟩⟩⟩⟩⟩⟩⟩⟩⟩⟩⟩⟩⟩⟩⟩⟩⟩⟩⟩⟩⟩⟩⟩⟩⟩⟩⟩⟩⟩⟩⟩⟩⟩⟩⟩⟩⟩⟩⟩⟩⟩⟩⟩⟩⟩⟩, List.forall_mem_cons.mpr ⟨congrFun (hF 0 (by decide)) 0, List.forall_mem_cons.mpr ⟨congrFun (hF 114 (by decide)) 0, List.forall_mem_cons.mpr ⟨congrFun (hF 1 (by decide)) 5, List.forall_mem_cons.mpr ⟨congrFun (hF 114 (by decide)) 1, List.forall_mem_cons.mpr ⟨congrFun (hF 7 (by decide)) 9, List.forall_mem_cons.mpr ⟨congrFun (hF 114 (by decide)) 9, List.forall_mem_cons.mpr ⟨congrFun (hF 17 (by decide)) 8, List.forall_mem_cons.mpr ⟨congrFun (hF 114 (by decide)) 22, List.forall_mem_cons.mpr ⟨congrFun (hF 41 (by decide)) 1, List.forall_mem_cons.mpr ⟨congrFun (hF 114 (by decide)) 29, List.forall_mem_cons.mpr ⟨congrFun (hF 41 (by decide)) 6, List.forall_mem_cons.mpr ⟨congrFun (hF 114 (by decide)) 32, List.forall_mem_cons.mpr ⟨congrFun (hF 74 (by decide)) 4, List.forall_mem_cons.mpr ⟨congrFun (hF 114 (by decide)) 54, List.forall_mem_cons.mpr ⟨congrFun (hF 88 (by decide)) 7, List.forall_mem_cons.mpr ⟨congrFun (hF 114 (by decide)) 60, List.forall_mem_cons.mpr ⟨hO 4 (by decide), List.forall_mem_cons.mpr ⟨congrFun (hF 114 (by decide)) 63, fun _ h => nomatch h⟩⟩⟩⟩⟩⟩⟩⟩⟩⟩⟩⟩⟩⟩⟩⟩⟩⟩⟩, congrFun (hF 17 (by decide)) 7, hF 40 (by decide)⟩
set_option maxRecDepth 100000 in
theorem GrP.sd {σ τ : Nat → Int → Int} (h : GrP σ τ) : Sd σ τ := by
  obtain ⟨-, -, hF, hO⟩ := h
  exact ⟨⟨List.forall_mem_cons.mpr ⟨hF 2 (by decide), List.forall_mem_cons.mpr ⟨hF 3 (by decide), List.forall_mem_cons.mpr ⟨hF 4 (by decide), List.forall_mem_cons.mpr ⟨hF 5 (by decide), List.forall_mem_cons.mpr ⟨hF 6 (by decide), List.forall_mem_cons.mpr ⟨hF 115 (by decide), List.forall_mem_cons.mpr ⟨hF 116 (by decide), List.forall_mem_cons.mpr ⟨hF 117 (by decide), List.forall_mem_cons.mpr ⟨hF 119 (by decide), List.forall_mem_cons.mpr ⟨hF 120 (by decide), List.forall_mem_cons.mpr ⟨hF 105 (by decide), List.forall_mem_cons.mpr ⟨hF 121 (by decide), List.forall_mem_cons.mpr ⟨hF 8 (by decide), List.forall_mem_cons.mpr ⟨hF 9 (by decide), List.forall_mem_cons.mpr ⟨hF 10 (by decide), List.forall_mem_cons.mpr ⟨hF 11 (by decide), List.forall_mem_cons.mpr ⟨hF 12 (by decide), List.forall_mem_cons.mpr ⟨hF 13 (by decide), List.forall_mem_cons.mpr ⟨hF 14 (by decide), List.forall_mem_cons.mpr ⟨hF 122 (by decide), List.forall_mem_cons.mpr ⟨hF 123 (by decide), List.forall_mem_cons.mpr ⟨hF 124 (by decide), List.forall_mem_cons.mpr ⟨hF 125 (by decide), List.forall_mem_cons.mpr ⟨hF 126 (by decide), List.forall_mem_cons.mpr ⟨hF 127 (by decide), List.forall_mem_cons.mpr ⟨hF 128 (by decide), List.forall_mem_cons.mpr ⟨hF 15 (by decide), List.forall_mem_cons.mpr ⟨hF 18 (by decide), List.forall_mem_cons.mpr ⟨hF 19 (by decide), List.forall_mem_cons.mpr ⟨hF 133 (by decide), List.forall_mem_cons.mpr ⟨hF 134 (by decide), List.forall_mem_cons.mpr ⟨hF 21 (by decide), List.forall_mem_cons.mpr ⟨hF 22 (by decide), List.forall_mem_cons.mpr ⟨hF 23 (by decide), List.forall_mem_cons.mpr ⟨hF 24 (by decide), List.forall_mem_cons.mpr ⟨hF 25 (by decide), List.forall_mem_cons.mpr ⟨hF 26 (by decide), List.forall_mem_cons.mpr ⟨hF 27 (by decide), List.forall_mem_cons.mpr ⟨hF 28 (by decide), List.forall_mem_cons.mpr ⟨hF 30 (by decide), List.forall_mem_cons.mpr ⟨hF 31 (by decide), List.forall_mem_cons.mpr ⟨hF 32 (by decide), List.forall_mem_cons.mpr ⟨hF 33 (by decide), List.forall_mem_cons.mpr ⟨hF 34 (by decide), List.forall_mem_cons.mpr ⟨hF 35 (by decide), List.forall_mem_cons.mpr ⟨hF 36 (by decide), List.forall_mem_cons.mpr ⟨hF 37 (by decide), List.forall_mem_cons.mpr ⟨hF 135 (by decide), List.forall_mem_cons.mpr ⟨hF 136 (by decide), List.forall_mem_cons.mpr ⟨hF 137 (by decide), List.forall_mem_cons.mpr ⟨hF 38 (by decide), List.forall_mem_cons.mpr ⟨hF 42 (by decide), List.forall_mem_cons.mpr ⟨hF 138 (by decide), List.forall_mem_cons.mpr ⟨hF 75 (by decide), List.forall_mem_cons.mpr ⟨hF 76 (by decide), List.forall_mem_cons.mpr ⟨hF 77 (by decide), List.forall_mem_cons.mpr ⟨hF 78 (by decide), List.forall_mem_cons.mpr ⟨hF 155 (by decide), List.forall_mem_cons.mpr ⟨hF 156 (by decide), List.forall_mem_cons.mpr ⟨hF 157 (by decide), List.forall_mem_cons.mpr ⟨hF 158 (by decide), List.forall_mem_cons.mpr ⟨hF 80 (by decide), List.forall_mem_cons.mpr ⟨hF 81 (by decide), List.forall_mem_cons.mpr ⟨hF 82 (by decide), List.forall_mem_cons.mpr ⟨hF 83 (by decide), List.forall_mem_cons.mpr ⟨hF 84 (by decide), List.forall_mem_cons.mpr ⟨hF 85 (by decide), List.forall_mem_cons.mpr ⟨hF 86 (by decide), List.forall_mem_cons.mpr ⟨hF 87 (by decide), List.forall_mem_cons.mpr ⟨hF 159 (by decide), List.forall_mem_cons.mpr ⟨hF 89 (by decide), List.forall_mem_cons.mpr ⟨hF 90 (by decide), List.forall_mem_cons.mpr ⟨hF 91 (by decide), List.forall_mem_cons.mpr ⟨hF 92 (by decide), List.forall_mem_cons.mpr ⟨hF 160 (by decide), List.forall_mem_cons.mpr ⟨hF 97 (by decide), List.forall_mem_cons.mpr ⟨hF 98 (by decide), List.forall_mem_cons.mpr ⟨hF 99 (by decide), List.forall_mem_cons.mpr ⟨hF 162 (by decide), List.forall_mem_cons.mpr ⟨hF 163 (by decide), List.forall_mem_cons.mpr ⟨hF 164 (by decide), List.forall_mem_cons.mpr ⟨hF 101 (by decide), List.forall_mem_cons.mpr ⟨hF 167 (by decide), List.forall_mem_cons.mpr ⟨hF 106 (by decide), List.forall_mem_cons.mpr ⟨hF 168 (by decide), fun _ h => nomatch h⟩⟩⟩⟩⟩⟩⟩⟩⟩⟩⟩⟩⟩⟩⟩⟩⟩⟩⟩⟩⟩⟩⟩⟩⟩⟩⟩⟩⟩⟩⟩⟩⟩⟩⟩⟩⟩⟩⟩⟩⟩⟩⟩⟩⟩⟩⟩⟩⟩⟩⟩⟩⟩⟩⟩⟩⟩⟩⟩⟩⟩⟩⟩⟩⟩⟩⟩⟩⟩⟩⟩⟩⟩⟩⟩⟩⟩⟩⟩⟩⟩⟩⟩⟩⟩, List.forall_mem_cons.mpr ⟨congrFun (hF 0 (by decide)) 0, List.forall_mem_cons.mpr ⟨hO 0 (by decide), List.forall_mem_cons.mpr ⟨congrFun (hF 1 (by decide)) 5, List.forall_mem_cons.mpr ⟨hO 1 (by decide), List.forall_mem_cons.mpr ⟨congrFun (hF 7 (by decide)) 9, List.forall_mem_cons.mpr ⟨hO 9 (by decide), List.forall_mem_cons.mpr ⟨congrFun (hF 17 (by decide)) 8, List.forall_mem_cons.mpr ⟨hO 22 (by decide), List.forall_mem_cons.mpr ⟨congrFun (hF 41 (by decide)) 1, List.forall_mem_cons.mpr ⟨hO 29 (by decide), List.forall_mem_cons.mpr ⟨congrFun (hF 41 (by decide)) 6, List.forall_mem_cons.mpr ⟨hO 32 (by decide), List.forall_mem_cons.mpr ⟨congrFun (hF 74 (by decide)) 4, List.forall_mem_cons.mpr ⟨hO 54 (by decide), List.forall_mem_cons.mpr ⟨congrFun (hF 88 (by decide)) 7, List.forall_mem_cons.mpr ⟨hO 60 (by decide), List.forall_mem_cons.mpr ⟨congrFun (hF 96 (by decide)) 4, List.forall_mem_cons.mpr ⟨hO 63 (by decide), fun _ h => nomatch h⟩⟩⟩⟩⟩⟩⟩⟩⟩⟩⟩⟩⟩⟩⟩⟩⟩⟩⟩, congrFun (hF 17 (by decide)) 7, hF 40 (by decide)⟩
theorem flZ_rg {a b v co : Int → Int} {n : Nat} {h w : Int} (hd : DuOk n a b v co) (g1 : ∀ j, 0 ≤ j → j < (n : Int) → 0 ≤ (goS a b v co n 50 v 0).1 j ∧ (goS a b v co n 50 v 0).1 j ≤ 9999) (g2 : 0 ≤ (goS a b v co n 50 v 0).2 ∧ (goS a b v co n 50 v 0).2 ≤ 50) (hh : w ≤ 3 → 0 ≤ h ∧ h ≤ 7) : rgi (flZ a b v co n h w) := by
  have n24 := hd.1
  have y := owS_rg (h := h) hd
  have x : w ≤ 3 → _ := fun q => hsS_rg hd (hh q) g1
  have u := slS_rg (a := a) (h := h) g1
  have s := sumS_rg (f := fun h => if hsS co b n (goS a b v co n 50 v 0).1 h < owS a v n h then 1 else 0) (B := 1) (n := 8) (fun j _ _ => by split <;> omega)
  unfold flZ
  by_cases e0 : w = 0
  · rw [if_pos e0]; split <;> omega
  rw [if_neg e0]
  by_cases e1 : w = 1
  · rw [if_pos e1]; have := x (by omega); omega
  rw [if_neg e1]
  by_cases e2 : w = 2
  · rw [if_pos e2]; omega
  rw [if_neg e2]
  by_cases e3 : w = 3
  · rw [if_pos e3]; omega
  rw [if_neg e3]
  by_cases e4 : w = 4
  · rw [if_pos e4]; omega
  rw [if_neg e4]
  omega
theorem pair_fails {h w : Int} (hR : RR σ) (q1 : rgi h) (q2 : rgi w) : Pair l G M_X10_fails 4 M_X11_fails 2 [vi h, vi w] σ := by
  have hR0 := hR
  obtain ⟨-, -, -, -, -, -, -, -, -, r10, -⟩ := hR
  obtain ⟨e63, hn, ⟨m1, m2, m3, m4⟩, ok, okc⟩ := r10
  have hd : DuOk (σ 96 4).toNat (σ 97) (σ 98) (σ 99) (σ 101) := ⟨by omega, fun i a b => ok i a (by omega), okc⟩
  refine ⟨_, c_X10_fails q1 q2 hd hn.1, fun z τ c1 => ?_⟩
  have mod : ∀ τ, Sd σ τ → CI l G M_X11_fails 2 [vr 114, vi h, vi w] τ (fun z υ => (¬ (h = -1 ∨ (0 ≤ h ∧ h ≤ 7)) ∧ z = -1001 ∧ υ = τ) ∨ ((h = -1 ∨ (0 ≤ h ∧ h ≤ 7)) ∧ ¬ ((h = -1 → 4 ≤ w ∧ w ≤ 5) ∧ (h ≠ -1 → 0 ≤ w ∧ w ≤ 3)) ∧ z = -1002 ∧ υ = τ) ∨ ((h = -1 ∨ (0 ≤ h ∧ h ≤ 7)) ∧ ((h = -1 → 4 ≤ w ∧ w ≤ 5) ∧ (h ≠ -1 → 0 ≤ w ∧ w ≤ 3)) ∧ z = flZ (σ 97) (σ 98) (σ 99) (σ 101) (σ 96 4).toNat h w ∧ GrP τ υ)) := by
    intro τ sd
    have f : τ 114 63 = σ 96 4 := (sd.1.2 (114, 63) (by decide)).trans e63
    have g1 : τ 162 = σ 97 := (sd.1.1 162 (by decide)).trans m1
    have g2 : τ 163 = σ 98 := (sd.1.1 163 (by decide)).trans m2
    have g3 : τ 164 = σ 99 := (sd.1.1 164 (by decide)).trans m3
    have g4 : τ 167 = σ 101 := (sd.1.1 167 (by decide)).trans m4
    have := c_X11_fails (l := l) (G := G) (σ := τ) q1 q2 (by rw [f, g1, g2, g3, g4]; exact hd) (by omega)
    rw [f, g1, g2, g3, g4] at this
    exact this
  rcases c1 with ⟨a, rfl, rfl⟩ | ⟨a, b, rfl, rfl⟩ | ⟨a, b, rfl, c1⟩
  · refine ⟨by omega, CI_mono (mod τ ⟨⟨fun _ _ => rfl, fun _ _ => rfl⟩, rfl, rfl⟩) (fun z υ c2 => ?_)⟩
    rcases c2 with ⟨_, rfl, rfl⟩ | ⟨c, -⟩ | ⟨c, -⟩
    · exact ⟨rfl, hR0⟩
    · exact absurd c a
    · exact absurd c a
  · refine ⟨by omega, CI_mono (mod τ ⟨⟨fun _ _ => rfl, fun _ _ => rfl⟩, rfl, rfl⟩) (fun z υ c2 => ?_)⟩
    rcases c2 with ⟨c, -⟩ | ⟨_, _, rfl, rfl⟩ | ⟨_, c, -⟩
    · exact absurd a c
    · exact ⟨rfl, hR0⟩
    · exact absurd c b
  · have s4 := c1.2.2.2.1
    have s1 := c1.1
    refine ⟨flZ_rg hd (fun j x y => by have := s1 j x (by omega); omega) (by omega) (by omega), CI_mono (mod τ c1.sd) (fun z υ c2 => ?_)⟩
    rcases c2 with ⟨c, -⟩ | ⟨_, c, -⟩ | ⟨_, _, rfl, c2⟩
    · exact absurd a c
    · exact absurd b c
    · exact ⟨rfl, (c1.sd.trans c2.sd).rr hR0⟩

