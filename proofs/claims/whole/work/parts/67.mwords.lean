/-! the model's words and keys -/
variable {l : Launch} {G : GC} {σ : Nat → Int → Int}

theorem mt_cg {tx : Int → Int} {s e L : Int} {i n : Nat} {g0 g1 g2 g3 g4 g5 : Int} (he : e = s + L) (hl : lenq.getD i 0 = n) (hc : ∀ j, j < n → chq i (j : Nat) = cgq g0 g1 g2 g3 g4 g5 j) : (((n : Nat) : Int) = L ∧ ∀ j : Nat, j < n → cgq g0 g1 g2 g3 g4 g5 j = tx (s + j)) ↔ mtB tx s e i = true := by
  rw [mtB_iff]
  unfold mtS
  rw [hl]
  constructor
  · rintro ⟨a, b⟩
    refine ⟨by omega, fun k k0 k1 => ?_⟩
    have := b k.toNat (by omega)
    have h2 := hc k.toNat (by omega)
    rw [show ((k.toNat : Nat) : Int) = k by omega] at this h2
    rw [h2, this]
  · rintro ⟨a, b⟩
    refine ⟨by omega, fun j hj => ?_⟩
    rw [← hc j hj, b (j : Nat) (by omega) (by omega)]
theorem c_isW {i n : Nat} {g0 g1 g2 g3 g4 g5 : Int} (hn : n ≤ 6) (hg : ∀ j, j < 6 → rgi (cgq g0 g1 g2 g3 g4 g5 j)) (hl : lenq.getD i 0 = n) (hc : ∀ j, j < n → chq i (j : Nat) = cgq g0 g1 g2 g3 g4 g5 j) (ht : ∀ k, 0 ≤ k → k < 160 → 0 ≤ σ 138 k ∧ σ 138 k ≤ 255) (h0 : 0 ≤ σ 114 33 ∧ 0 ≤ σ 114 34 ∧ σ 114 33 + σ 114 34 ≤ 160) : CI l G M_X11_isWord 0 [vr 114, vi n, vi g0, vi g1, vi g2, vi g3, vi g4, vi g5] σ (BP (mtB (σ 138) (σ 114 33) (σ 114 33 + σ 114 34) i = true) σ) := by
  refine CI_mono (c_X11_isWord hn hg ht h0) (fun z τ q => ?_)
  obtain ⟨q1, q2⟩ := q
  have m := mt_cg (tx := σ 138) (s := σ 114 33) (L := σ 114 34) rfl hl hc
  exact ⟨q1, q2.elim (fun h => Or.inl ⟨h.1, m.mp h.2⟩) (fun h => Or.inr ⟨h.1, fun h3 => h.2 (m.mpr h3)⟩)⟩
theorem lk5 {tx : Int → Int} {s e : Int} : lkF tx s e 5 0 = if mtB tx s e 0 = true then 0 else if mtB tx s e 1 = true then 1 else if mtB tx s e 2 = true then 2 else if mtB tx s e 3 = true then 3 else if mtB tx s e 4 = true then 4 else -1 := rfl
theorem lk4 {tx : Int → Int} {s e : Int} : lkF tx s e 4 5 = if mtB tx s e 0 = true then 5 else if mtB tx s e 5 = true then 6 else if mtB tx s e 6 = true then 7 else if mtB tx s e 7 = true then 8 else -1 := rfl
theorem lk9 {tx : Int → Int} {s e : Int} : lkF tx s e 4 9 = if mtB tx s e 8 = true then 9 else if mtB tx s e 9 = true then 10 else if mtB tx s e 10 = true then 11 else if mtB tx s e 11 = true then 12 else -1 := rfl
theorem lk13 {tx : Int → Int} {s e : Int} : lkF tx s e 1 13 = if mtB tx s e 12 = true then 13 else -1 := rfl
theorem c_X11_nameOf (ht : ∀ k, 0 ≤ k → k < 160 → 0 ≤ σ 138 k ∧ σ 138 k ≤ 255) (h0 : 0 ≤ σ 114 33 ∧ 0 ≤ σ 114 34 ∧ σ 114 33 + σ 114 34 ≤ 160) : CI l G M_X11_nameOf 1 [vr 114] σ (IP (lkF (σ 138) (σ 114 33) (σ 114 33 + σ 114 34) 5 0) σ) := by
  refine Ct.of rfl (Nat.le_of_ble_eq_true rfl) ?_
  refine x_aload_n (E_X11_nameOf_0 0 rfl) rfl ?_
  refine x_iconst (E_X11_nameOf_0 1 rfl) ?_
  refine x_bipush (z := 114) (E_X11_nameOf_0 2 rfl) (by decide) ?_
  refine x_bipush (z := 101) (E_X11_nameOf_0 3 rfl) (by decide) ?_
  refine x_bipush (z := 110) (E_X11_nameOf_0 4 rfl) (by decide) ?_
  refine x_bipush (z := 116) (E_X11_nameOf_0 5 rfl) (by decide) ?_
  refine x_iconst (E_X11_nameOf_0 6 rfl) ?_
  refine x_iconst (E_X11_nameOf_0 7 rfl) ?_
  refine z_callVi (E_X11_nameOf_0 8 rfl) ml_X11_297 mv_X11_isWord rfl (by decide) (by decide) (c_isW (i := 0) (by decide) (by decide) (by decide) (by decide +kernel) ht h0) (by decide) rfl rfl (Nat.le_of_ble_eq_true rfl) (fun z9 τ9 h9 => ?_)
  obtain ⟨rfl, ⟨rfl, c1⟩ | ⟨rfl, c1⟩⟩ := h9
  · refine x_if_eq (E_X11_nameOf_0 9 rfl) (by decide) (fun c9 => absurd c9 (by decide)) (fun _ => ?_)
    refine x_iconst (E_X11_nameOf_0 10 rfl) ?_
    refine z_iret (E_X11_nameOf_0 11 rfl) trivial ?_
    refine ⟨?_, rfl⟩
    rw [lk5, if_pos c1]
  · refine x_if_eq (E_X11_nameOf_0 9 rfl) (by decide) (fun _ => ?_) (fun c9 => absurd (by decide) c9)
    refine x_aload_n (E_X11_nameOf_0 12 rfl) rfl ?_
    refine x_iconst (E_X11_nameOf_0 13 rfl) ?_
    refine x_bipush (z := 116) (E_X11_nameOf_0 14 rfl) (by decide) ?_
    refine x_bipush (z := 105) (E_X11_nameOf_0 15 rfl) (by decide) ?_
    refine x_bipush (z := 116) (E_X11_nameOf_0 16 rfl) (by decide) ?_
    refine x_bipush (z := 108) (E_X11_nameOf_0 17 rfl) (by decide) ?_
    refine x_bipush (z := 101) (E_X11_nameOf_0 18 rfl) (by decide) ?_
    refine x_iconst (E_X11_nameOf_0 19 rfl) ?_
    refine z_callVi (E_X11_nameOf_0 20 rfl) ml_X11_297 mv_X11_isWord rfl (by decide) (by decide) (c_isW (i := 1) (by decide) (by decide) (by decide) (by decide +kernel) ht h0) (by decide) rfl rfl (Nat.le_of_ble_eq_true rfl) (fun z9 τ9 h9 => ?_)
    obtain ⟨rfl, ⟨rfl, c2⟩ | ⟨rfl, c2⟩⟩ := h9
    · refine x_if_eq (E_X11_nameOf_0 21 rfl) (by decide) (fun c9 => absurd c9 (by decide)) (fun _ => ?_)
      refine x_iconst (E_X11_nameOf_0 22 rfl) ?_
      refine z_iret (E_X11_nameOf_0 23 rfl) trivial ?_
      refine ⟨?_, rfl⟩
      rw [lk5, if_neg c1, if_pos c2]
    · refine x_if_eq (E_X11_nameOf_0 21 rfl) (by decide) (fun _ => ?_) (fun c9 => absurd (by decide) c9)
      refine x_aload_n (E_X11_nameOf_0 24 rfl) rfl ?_
      refine x_iconst (E_X11_nameOf_0 25 rfl) ?_
      refine x_bipush (z := 115) (E_X11_nameOf_0 26 rfl) (by decide) ?_
      refine x_bipush (z := 116) (E_X11_nameOf_0 27 rfl) (by decide) ?_
      refine x_bipush (z := 111) (E_X11_nameOf_0 28 rfl) (by decide) ?_
      refine x_bipush (z := 112) (E_X11_nameOf_0 29 rfl) (by decide) ?_
      refine x_iconst (E_X11_nameOf_0 30 rfl) ?_
      refine x_iconst (E_X11_nameOf_0 31 rfl) ?_
      refine z_callVi (E_X11_nameOf_0 32 rfl) ml_X11_297 mv_X11_isWord rfl (by decide) (by decide) (c_isW (i := 2) (by decide) (by decide) (by decide) (by decide +kernel) ht h0) (by decide) rfl rfl (Nat.le_of_ble_eq_true rfl) (fun z9 τ9 h9 => ?_)
      obtain ⟨rfl, ⟨rfl, c3⟩ | ⟨rfl, c3⟩⟩ := h9
      · refine x_if_eq (E_X11_nameOf_0 33 rfl) (by decide) (fun c9 => absurd c9 (by decide)) (fun _ => ?_)
        refine x_iconst (E_X11_nameOf_0 34 rfl) ?_
        refine z_iret (E_X11_nameOf_0 35 rfl) trivial ?_
        refine ⟨?_, rfl⟩
        rw [lk5, if_neg c1, if_neg c2, if_pos c3]
      · refine x_if_eq (E_X11_nameOf_0 33 rfl) (by decide) (fun _ => ?_) (fun c9 => absurd (by decide) c9)
        refine x_aload_n (E_X11_nameOf_0 36 rfl) rfl ?_
        refine x_iconst (E_X11_nameOf_0 37 rfl) ?_
        refine x_bipush (z := 98) (E_X11_nameOf_0 38 rfl) (by decide) ?_
        refine x_bipush (z := 101) (E_X11_nameOf_0 39 rfl) (by decide) ?_
        refine x_bipush (z := 97) (E_X11_nameOf_0 40 rfl) (by decide) ?_
        refine x_bipush (z := 114) (E_X11_nameOf_0 41 rfl) (by decide) ?_
        refine x_iconst (E_X11_nameOf_0 42 rfl) ?_
        refine x_iconst (E_X11_nameOf_0 43 rfl) ?_
        refine z_callVi (E_X11_nameOf_0 44 rfl) ml_X11_297 mv_X11_isWord rfl (by decide) (by decide) (c_isW (i := 3) (by decide) (by decide) (by decide) (by decide +kernel) ht h0) (by decide) rfl rfl (Nat.le_of_ble_eq_true rfl) (fun z9 τ9 h9 => ?_)
        obtain ⟨rfl, ⟨rfl, c4⟩ | ⟨rfl, c4⟩⟩ := h9
        · refine x_if_eq (E_X11_nameOf_0 45 rfl) (by decide) (fun c9 => absurd c9 (by decide)) (fun _ => ?_)
          refine x_iconst (E_X11_nameOf_0 46 rfl) ?_
          refine z_iret (E_X11_nameOf_0 47 rfl) trivial ?_
          refine ⟨?_, rfl⟩
          rw [lk5, if_neg c1, if_neg c2, if_neg c3, if_pos c4]
        · refine x_if_eq (E_X11_nameOf_0 45 rfl) (by decide) (fun _ => ?_) (fun c9 => absurd (by decide) c9)
          refine x_aload_n (E_X11_nameOf_0 48 rfl) rfl ?_
          refine x_bipush (z := 6) (E_X11_nameOf_0 49 rfl) (by decide) ?_
          refine x_bipush (z := 98) (E_X11_nameOf_0 50 rfl) (by decide) ?_
          refine x_bipush (z := 101) (E_X11_nameOf_0 51 rfl) (by decide) ?_
          refine x_bipush (z := 121) (E_X11_nameOf_0 52 rfl) (by decide) ?_
          refine x_bipush (z := 111) (E_X11_nameOf_0 53 rfl) (by decide) ?_
          refine x_bipush (z := 110) (E_X11_nameOf_0 54 rfl) (by decide) ?_
          refine x_bipush (z := 100) (E_X11_nameOf_0 55 rfl) (by decide) ?_
          refine z_callVi (E_X11_nameOf_0 56 rfl) ml_X11_297 mv_X11_isWord rfl (by decide) (by decide) (c_isW (i := 4) (by decide) (by decide) (by decide) (by decide +kernel) ht h0) (by decide) rfl rfl (Nat.le_of_ble_eq_true rfl) (fun z9 τ9 h9 => ?_)
          obtain ⟨rfl, ⟨rfl, c5⟩ | ⟨rfl, c5⟩⟩ := h9
          · refine x_if_eq (E_X11_nameOf_0 57 rfl) (by decide) (fun c9 => absurd c9 (by decide)) (fun _ => ?_)
            refine x_iconst (E_X11_nameOf_0 58 rfl) ?_
            refine x_goto (E_X11_nameOf_0 59 rfl) ?_
            refine z_iret (E_X11_nameOf_1 1 rfl) trivial ?_
            refine ⟨?_, rfl⟩
            rw [lk5, if_neg c1, if_neg c2, if_neg c3, if_neg c4, if_pos c5]
          · refine x_if_eq (E_X11_nameOf_0 57 rfl) (by decide) (fun _ => ?_) (fun c9 => absurd (by decide) c9)
            refine x_iconst (E_X11_nameOf_1 0 rfl) ?_
            refine z_iret (E_X11_nameOf_1 1 rfl) trivial ?_
            refine ⟨?_, rfl⟩
            rw [lk5, if_neg c1, if_neg c2, if_neg c3, if_neg c4, if_neg c5]
theorem c_X11_keyOf (ht : ∀ k, 0 ≤ k → k < 160 → 0 ≤ σ 138 k ∧ σ 138 k ≤ 255) (h0 : 0 ≤ σ 114 33 ∧ 0 ≤ σ 114 34 ∧ σ 114 33 + σ 114 34 ≤ 160) : CI l G M_X11_keyOf 1 [vr 114] σ (IP (if lkF (σ 138) (σ 114 33) (σ 114 33 + σ 114 34) 4 5 = -1 then -1 else lkF (σ 138) (σ 114 33) (σ 114 33 + σ 114 34) 4 5 - 5) σ) := by
  refine Ct.of rfl (Nat.le_of_ble_eq_true rfl) ?_
  refine x_aload_n (E_X11_keyOf_0 0 rfl) rfl ?_
  refine x_iconst (E_X11_keyOf_0 1 rfl) ?_
  refine x_bipush (z := 114) (E_X11_keyOf_0 2 rfl) (by decide) ?_
  refine x_bipush (z := 101) (E_X11_keyOf_0 3 rfl) (by decide) ?_
  refine x_bipush (z := 110) (E_X11_keyOf_0 4 rfl) (by decide) ?_
  refine x_bipush (z := 116) (E_X11_keyOf_0 5 rfl) (by decide) ?_
  refine x_iconst (E_X11_keyOf_0 6 rfl) ?_
  refine x_iconst (E_X11_keyOf_0 7 rfl) ?_
  refine z_callVi (E_X11_keyOf_0 8 rfl) ml_X11_297 mv_X11_isWord rfl (by decide) (by decide) (c_isW (i := 0) (by decide) (by decide) (by decide) (by decide +kernel) ht h0) (by decide) rfl rfl (Nat.le_of_ble_eq_true rfl) (fun z9 τ9 h9 => ?_)
  obtain ⟨rfl, ⟨rfl, c1⟩ | ⟨rfl, c1⟩⟩ := h9
  · refine x_if_eq (E_X11_keyOf_0 9 rfl) (by decide) (fun c9 => absurd c9 (by decide)) (fun _ => ?_)
    refine x_iconst (E_X11_keyOf_0 10 rfl) ?_
    refine z_iret (E_X11_keyOf_0 11 rfl) trivial ?_
    refine ⟨?_, rfl⟩
    rw [lk4, if_pos c1]
    rfl
  · refine x_if_eq (E_X11_keyOf_0 9 rfl) (by decide) (fun _ => ?_) (fun c9 => absurd (by decide) c9)
    refine x_aload_n (E_X11_keyOf_0 12 rfl) rfl ?_
    refine x_iconst (E_X11_keyOf_0 13 rfl) ?_
    refine x_bipush (z := 98) (E_X11_keyOf_0 14 rfl) (by decide) ?_
    refine x_bipush (z := 97) (E_X11_keyOf_0 15 rfl) (by decide) ?_
    refine x_bipush (z := 110) (E_X11_keyOf_0 16 rfl) (by decide) ?_
    refine x_bipush (z := 107) (E_X11_keyOf_0 17 rfl) (by decide) ?_
    refine x_iconst (E_X11_keyOf_0 18 rfl) ?_
    refine x_iconst (E_X11_keyOf_0 19 rfl) ?_
    refine z_callVi (E_X11_keyOf_0 20 rfl) ml_X11_297 mv_X11_isWord rfl (by decide) (by decide) (c_isW (i := 5) (by decide) (by decide) (by decide) (by decide +kernel) ht h0) (by decide) rfl rfl (Nat.le_of_ble_eq_true rfl) (fun z9 τ9 h9 => ?_)
    obtain ⟨rfl, ⟨rfl, c2⟩ | ⟨rfl, c2⟩⟩ := h9
    · refine x_if_eq (E_X11_keyOf_0 21 rfl) (by decide) (fun c9 => absurd c9 (by decide)) (fun _ => ?_)
      refine x_iconst (E_X11_keyOf_0 22 rfl) ?_
      refine z_iret (E_X11_keyOf_0 23 rfl) trivial ?_
      refine ⟨?_, rfl⟩
      rw [lk4, if_neg c1, if_pos c2]
      rfl
    · refine x_if_eq (E_X11_keyOf_0 21 rfl) (by decide) (fun _ => ?_) (fun c9 => absurd (by decide) c9)
      refine x_aload_n (E_X11_keyOf_0 24 rfl) rfl ?_
      refine x_bipush (z := 6) (E_X11_keyOf_0 25 rfl) (by decide) ?_
      refine x_bipush (z := 115) (E_X11_keyOf_0 26 rfl) (by decide) ?_
      refine x_bipush (z := 101) (E_X11_keyOf_0 27 rfl) (by decide) ?_
      refine x_bipush (z := 108) (E_X11_keyOf_0 28 rfl) (by decide) ?_
      refine x_bipush (z := 108) (E_X11_keyOf_0 29 rfl) (by decide) ?_
      refine x_bipush (z := 101) (E_X11_keyOf_0 30 rfl) (by decide) ?_
      refine x_bipush (z := 114) (E_X11_keyOf_0 31 rfl) (by decide) ?_
      refine z_callVi (E_X11_keyOf_0 32 rfl) ml_X11_297 mv_X11_isWord rfl (by decide) (by decide) (c_isW (i := 6) (by decide) (by decide) (by decide) (by decide +kernel) ht h0) (by decide) rfl rfl (Nat.le_of_ble_eq_true rfl) (fun z9 τ9 h9 => ?_)
      obtain ⟨rfl, ⟨rfl, c3⟩ | ⟨rfl, c3⟩⟩ := h9
      · refine x_if_eq (E_X11_keyOf_0 33 rfl) (by decide) (fun c9 => absurd c9 (by decide)) (fun _ => ?_)
        refine x_iconst (E_X11_keyOf_0 34 rfl) ?_
        refine z_iret (E_X11_keyOf_0 35 rfl) trivial ?_
        refine ⟨?_, rfl⟩
        rw [lk4, if_neg c1, if_neg c2, if_pos c3]
        rfl
      · refine x_if_eq (E_X11_keyOf_0 33 rfl) (by decide) (fun _ => ?_) (fun c9 => absurd (by decide) c9)
        refine x_aload_n (E_X11_keyOf_0 36 rfl) rfl ?_
        refine x_iconst (E_X11_keyOf_0 37 rfl) ?_
        refine x_bipush (z := 111) (E_X11_keyOf_0 38 rfl) (by decide) ?_
        refine x_bipush (z := 119) (E_X11_keyOf_0 39 rfl) (by decide) ?_
        refine x_bipush (z := 110) (E_X11_keyOf_0 40 rfl) (by decide) ?_
        refine x_bipush (z := 101) (E_X11_keyOf_0 41 rfl) (by decide) ?_
        refine x_bipush (z := 114) (E_X11_keyOf_0 42 rfl) (by decide) ?_
        refine x_iconst (E_X11_keyOf_0 43 rfl) ?_
        refine z_callVi (E_X11_keyOf_0 44 rfl) ml_X11_297 mv_X11_isWord rfl (by decide) (by decide) (c_isW (i := 7) (by decide) (by decide) (by decide) (by decide +kernel) ht h0) (by decide) rfl rfl (Nat.le_of_ble_eq_true rfl) (fun z9 τ9 h9 => ?_)
        obtain ⟨rfl, ⟨rfl, c4⟩ | ⟨rfl, c4⟩⟩ := h9
        · refine x_if_eq (E_X11_keyOf_0 45 rfl) (by decide) (fun c9 => absurd c9 (by decide)) (fun _ => ?_)
          refine x_iconst (E_X11_keyOf_0 46 rfl) ?_
          refine x_goto (E_X11_keyOf_0 47 rfl) ?_
          refine z_iret (E_X11_keyOf_0 49 rfl) trivial ?_
          refine ⟨?_, rfl⟩
          rw [lk4, if_neg c1, if_neg c2, if_neg c3, if_pos c4]
          rfl
        · refine x_if_eq (E_X11_keyOf_0 45 rfl) (by decide) (fun _ => ?_) (fun c9 => absurd (by decide) c9)
          refine x_iconst (E_X11_keyOf_0 48 rfl) ?_
          refine z_iret (E_X11_keyOf_0 49 rfl) trivial ?_
          refine ⟨?_, rfl⟩
          rw [lk4, if_neg c1, if_neg c2, if_neg c3, if_neg c4]
          rfl
theorem c_X11_mostOfName {n : Int} (hn : 0 ≤ n ∧ n ≤ 4) : CI l G M_X11_mostOfName 0 [vi n] σ (IP (mostQ n) σ) := by
  refine Ct.of rfl (Nat.le_of_ble_eq_true rfl) ?_
  refine x_iload_n (E_X11_mostOfName_0 0 rfl) rfl ?_
  refine x_if_ne (E_X11_mostOfName_0 1 rfl) (by omega) (fun c1 => ?_) (fun c1 => ?_)
  · refine x_iload_n (E_X11_mostOfName_0 4 rfl) rfl ?_
    refine x_iconst (E_X11_mostOfName_0 5 rfl) ?_
    refine x_icmp_ne (E_X11_mostOfName_0 6 rfl) (by omega) (by decide) (fun c2 => ?_) (fun c2 => ?_)
    · refine x_iconst (E_X11_mostOfName_0 9 rfl) ?_
      refine z_iret (E_X11_mostOfName_0 10 rfl) trivial ?_
      refine ⟨?_, rfl⟩
      rcases (by omega : n = 0 ∨ n = 1 ∨ n = 2 ∨ n = 3 ∨ n = 4) with rfl | rfl | rfl | rfl | rfl <;> first | rfl | (exfalso; omega)
    · refine x_sipush (z := 999) (E_X11_mostOfName_0 7 rfl) (by decide) ?_
      refine x_goto (E_X11_mostOfName_0 8 rfl) ?_
      refine z_iret (E_X11_mostOfName_0 10 rfl) trivial ?_
      refine ⟨?_, rfl⟩
      rcases (by omega : n = 0 ∨ n = 1 ∨ n = 2 ∨ n = 3 ∨ n = 4) with rfl | rfl | rfl | rfl | rfl <;> first | rfl | (exfalso; omega)
  · refine x_bipush (z := 99) (E_X11_mostOfName_0 2 rfl) (by decide) ?_
    refine x_goto (E_X11_mostOfName_0 3 rfl) ?_
    refine z_iret (E_X11_mostOfName_0 10 rfl) trivial ?_
    refine ⟨?_, rfl⟩
    rcases (by omega : n = 0 ∨ n = 1 ∨ n = 2 ∨ n = 3 ∨ n = 4) with rfl | rfl | rfl | rfl | rfl <;> first | rfl | (exfalso; omega)

theorem ky_or2 {v a : Int} {n : Nat} (hn : n ≤ 3) (hv : 0 ≤ v ∧ v < 4 ^ n) (ha : 0 ≤ a ∧ a ≤ 3) : bOr v (bShl a (2 * (n : Int))) = v + a * 4 ^ n ∧ v + a * 4 ^ n < 4 ^ (n + 1) := by
  have e8 : (4 : Int) ^ n = ((2 ^ (2 * n) : Nat) : Int) := by
    match n, hn with
    | 0, _ => rfl
    | 1, _ => rfl
    | 2, _ => rfl
    | 3, _ => rfl
  have p8 : (2 : Nat) ^ (2 * n) ≤ 64 := (by decide : ∀ j : Nat, j ≤ 3 → 2 ^ (2 * j) ≤ 64) n hn
  obtain ⟨a', rfl⟩ := Int.eq_ofNat_of_zero_le ha.1
  obtain ⟨v', rfl⟩ := Int.eq_ofNat_of_zero_le hv.1
  have lt : v' < 2 ^ (2 * n) := by omega
  have m1 : a' * 2 ^ (2 * n) ≤ 4 * 64 := Nat.mul_le_mul (by omega) p8
  have or1 : v' ||| a' * 2 ^ (2 * n) = v' + a' * 2 ^ (2 * n) := by
    rw [Nat.mul_comm a', Nat.or_comm, ← Nat.two_pow_add_eq_or_of_lt lt, Nat.add_comm]
  have sh := bShl_n (a := a') (k := 2 * n) (by omega) (by omega)
  rw [show ((2 * n : Nat) : Int) = 2 * (n : Int) by omega] at sh
  constructor
  · show bOr ((v' : Nat) : Int) (bShl ((a' : Nat) : Int) _) = _
    rw [sh, bOr_n (by omega), or1, e8]
    push_cast
    rfl
  · rw [Int.pow_succ, e8]
    have : ((a' : Nat) : Int) * ((2 ^ (2 * n) : Nat) : Int) ≤ 3 * ((2 ^ (2 * n) : Nat) : Int) := Int.mul_le_mul_of_nonneg_right (by omega) (by omega)
    show ((v' : Nat) : Int) + ((a' : Nat) : Int) * _ < _
    omega
/-- what the model's keys leave -/
def RkP (K : Int × Int × Int × Nat × Int × Int) (ix : Int) (σ τ : Nat → Int → Int) : Prop := ((K.1 = 0 ∧ τ 114 31 = 0 ∧ τ 114 32 = σ 114 32 ∧ τ 114 30 = K.2.2.1 ∧ τ 136 ix = K.2.2.2.2.1 ∧ τ 137 ix = ((K.2.2.2.1 : Nat) : Int)) ∨ (K.1 ≠ 0 ∧ τ 114 31 = K.1 ∧ τ 114 32 = K.2.1)) ∧ (rgi (τ 114 31) ∧ 0 ≤ τ 114 30 ∧ τ 114 30 ≤ σ 114 29) ∧ (∀ i, i ≠ ix → τ 136 i = σ 136 i ∧ τ 137 i = σ 137 i) ∧ Fr [114, 136, 137] σ τ ∧ Fo 114 [30, 31, 32, 33, 34] σ τ
set_option maxHeartbeats 2000000 in
theorem c_X11_readRank {ix : Int} (hi : 0 ≤ ix ∧ ix < 80) (hf : σ 114 31 = 0) (ht : TxOk (σ 114 29) (σ 138)) (h0 : 0 ≤ σ 114 30 ∧ σ 114 30 ≤ σ 114 29) : CV l G M_X11_readRank 2 [vr 114, vi ix] σ (RkP (kyQ (σ 138) (σ 114 29) 5 (σ 114 30) 0 0 0 0) ix σ) := by
  have h160 := ht.1
  refine Ct.of rfl (Nat.le_of_ble_eq_true rfl) ?_
  generalize hK : kyQ (σ 138) (σ 114 29) 5 (σ 114 30) 0 0 0 0 = K
  have done : ∀ (o : Option AV) (seen n row mo : Int) (τ : Nat → Int → Int), ((K.1 = 0 ∧ τ 114 31 = 0 ∧ τ 114 32 = σ 114 32 ∧ τ 114 30 = K.2.2.1 ∧ row = K.2.2.2.2.1 ∧ n = ((K.2.2.2.1 : Nat) : Int)) ∨ (K.1 ≠ 0 ∧ τ 114 31 = K.1 ∧ τ 114 32 = K.2.1)) → (rgi (τ 114 31) ∧ 0 ≤ τ 114 30 ∧ τ 114 30 ≤ σ 114 29) → rgi mo → (mo = 0 ∨ τ 114 31 ≠ 0) → Fr [114] σ τ → Fo 114 [30, 31, 32, 33, 34] σ τ → XV l G M_X11_readRank 2 10 [some (vr 114), some (vi ix), some (vi seen), some (vi n), some (vi row), some (vi mo), o] [] τ (RkP K ix σ) := by
    intro o seen n row mo τ hk hr hm hc hF hO
    refine x_iload (E_X11_readRank_0 8 rfl) rfl ?_
    refine x_if_eq (E_X11_readRank_0 9 rfl) (by omega) (fun c1 => ?_) (fun c1 => ?_)
    · refine x_aload_n (E_X11_readRank_1 15 rfl) rfl ?_
      refine x_getR (E_X11_readRank_1 16 rfl) fl_X11_74 rfl (by decide) rfl ?_
      refine x_iload_n (E_X11_readRank_1 17 rfl) rfl ?_
      refine x_iload (E_X11_readRank_1 18 rfl) rfl ?_
      refine x_iast (E_X11_readRank_1 19 rfl) rfl (by decide) (by omega) ?_
      refine x_aload_n (E_X11_readRank_1 20 rfl) rfl ?_
      refine x_getR (E_X11_readRank_1 21 rfl) fl_X11_77 rfl (by decide) rfl ?_
      refine x_iload_n (E_X11_readRank_1 22 rfl) rfl ?_
      refine x_iload_n (E_X11_readRank_1 23 rfl) rfl ?_
      refine x_iast (E_X11_readRank_1 24 rfl) rfl (by decide) (by omega) ?_
      refine z_vret (E_X11_readRank_1 25 rfl) trivial ?_
      refine ⟨?_, hr, fun i hi9 => ⟨?_, ?_⟩, ((hF.sub (by decide)).up (by decide)).up (by decide), (hO.un (by decide)).un (by decide)⟩
      · rcases hk with ⟨a, b, c, d, e, f⟩ | h
        · exact Or.inl ⟨a, b, c, d, (if_pos rfl).trans e, (if_pos rfl).trans f⟩
        · exact Or.inr h
      · exact (if_neg hi9).trans (congrFun (hF 136 (by decide)) i)
      · exact (if_neg hi9).trans (congrFun (hF 137 (by decide)) i)
    · refine x_aload_n (E_X11_readRank_0 10 rfl) rfl ?_
      refine x_getIe (v := τ 114 31) (E_X11_readRank_0 11 rfl) fl_X11_272 rfl (by decide) rfl ?_
      refine x_if_ne (E_X11_readRank_0 12 rfl) (by omega) (fun c2 => ?_) (fun c2 => ?_)
      · refine x_aload_n (E_X11_readRank_1 15 rfl) rfl ?_
        refine x_getR (E_X11_readRank_1 16 rfl) fl_X11_74 rfl (by decide) rfl ?_
        refine x_iload_n (E_X11_readRank_1 17 rfl) rfl ?_
        refine x_iload (E_X11_readRank_1 18 rfl) rfl ?_
        refine x_iast (E_X11_readRank_1 19 rfl) rfl (by decide) (by omega) ?_
        refine x_aload_n (E_X11_readRank_1 20 rfl) rfl ?_
        refine x_getR (E_X11_readRank_1 21 rfl) fl_X11_77 rfl (by decide) rfl ?_
        refine x_iload_n (E_X11_readRank_1 22 rfl) rfl ?_
        refine x_iload_n (E_X11_readRank_1 23 rfl) rfl ?_
        refine x_iast (E_X11_readRank_1 24 rfl) rfl (by decide) (by omega) ?_
        refine z_vret (E_X11_readRank_1 25 rfl) trivial ?_
        refine ⟨?_, hr, fun i hi9 => ⟨?_, ?_⟩, ((hF.sub (by decide)).up (by decide)).up (by decide), (hO.un (by decide)).un (by decide)⟩
        · rcases hk with ⟨a, b, c, d, e, f⟩ | h
          · exact Or.inl ⟨a, b, c, d, (if_pos rfl).trans e, (if_pos rfl).trans f⟩
          · exact Or.inr h
        · exact (if_neg hi9).trans (congrFun (hF 136 (by decide)) i)
        · exact (if_neg hi9).trans (congrFun (hF 137 (by decide)) i)
      · exfalso; omega
  have loop : ∀ (t n : Nat) (o : Option AV) (vl seen row : Int) (τ : Nat → Int → Int), n + t = 5 → kyQ (σ 138) (σ 114 29) t (τ 114 30) seen n row vl = K → (0 ≤ seen ∧ seen < 16) → pop4 seen = n → (0 ≤ row ∧ row < 4 ^ n) → τ 114 31 = 0 → τ 114 32 = σ 114 32 → (0 ≤ τ 114 30 ∧ τ 114 30 ≤ σ 114 29) → Fr [114] σ τ → Fo 114 [30, 31, 32, 33, 34] σ τ → XV l G M_X11_readRank 2 10 [some (vr 114), some (vi ix), some (vi seen), some (vi n), some (vi row), some (vi 1), o] [] τ (RkP K ix σ) := by
    intro t
    induction t with
    | zero => intro n o vl seen row τ hn hq hs hp; exact absurd hp (by have := pop4_rg (s := seen); omega)
    | succ t ih =>
    intro n o vl seen row τ hn hq hs hp hv t5 t6 t7 hF hO
    have e1 := hO 29 (by decide)
    have e42 : τ 138 = σ 138 := hF 138 (by decide)
    have tt : TxOk (τ 114 29) (τ 138) := by rw [e1, e42]; exact ht
    have n4 := pop4_rg (s := seen)
    have br := bl_rg (tx := σ 138) t7.2
    have wr := we_rg (tx := σ 138) t7.2
    have kr : (wkS (σ 138) (σ 114 29) 5 4 (τ 114 30)) = -1 ∨ (5 ≤ (wkS (σ 138) (σ 114 29) 5 4 (τ 114 30)) ∧ (wkS (σ 138) (σ 114 29) 5 4 (τ 114 30)) < 5 + ((4 : Nat) : Int)) := lkF_rg
    refine x_iload (E_X11_readRank_0 8 rfl) rfl ?_
    refine x_if_eq (E_X11_readRank_0 9 rfl) (by omega) (fun c1 => ?_) (fun c1 => ?_)
    · exfalso; omega
    · refine x_aload_n (E_X11_readRank_0 10 rfl) rfl ?_
      refine x_getIe (v := τ 114 31) (E_X11_readRank_0 11 rfl) fl_X11_272 rfl (by decide) rfl ?_
      refine x_if_ne (E_X11_readRank_0 12 rfl) (by omega) (fun c2 => ?_) (fun c2 => ?_)
      · exfalso; omega
      · refine x_aload_n (E_X11_readRank_0 13 rfl) rfl ?_
        refine z_callVv (E_X11_readRank_0 14 rfl) ml_X11_301 mv_X11_takeWord rfl (by decide) (by decide) (c_X11_takeWord tt (by omega)) (by decide) rfl rfl (Nat.le_of_ble_eq_true rfl) (fun τ9 h9 => ?_)
        rw [e1, e42] at h9
        obtain ⟨s9, g9, a9, F9, O9⟩ := h9
        have l9 := O9 29 (by decide)
        have x9 : τ9 138 = τ 138 := F9 138 (by decide)
        have t9 : TxOk (τ9 114 29) (τ9 138) := by rw [l9, x9]; exact tt
        have G9 : Fr [114] σ τ9 := Fr.trans hF F9 (fun k h => h) (fun k h => h)
        have P9 : Fo 114 [30, 31, 32, 33, 34] σ τ9 := Fo.trans hO O9 (fun k h => h) (by decide)
        have f9 := O9 31 (by decide)
        have w9 := O9 32 (by decide)
        refine x_aload_n (E_X11_readRank_0 15 rfl) rfl ?_
        refine z_callVi (E_X11_readRank_0 16 rfl) ml_X11_304 mv_X11_keyOf rfl (by decide) (by decide) (c_X11_keyOf t9.2 (by omega)) (by decide) rfl rfl (Nat.le_of_ble_eq_true rfl) (fun v8 τ8 h8 => ?_)
        obtain ⟨z8, rfl⟩ := h8
        rw [x9, e42, s9, g9, show (blS (σ 138) (σ 114 29) (τ 114 30)) + ((weS (σ 138) (σ 114 29) (τ 114 30)) - (blS (σ 138) (σ 114 29) (τ 114 30))) = (weS (σ 138) (σ 114 29) (τ 114 30)) by omega] at z8
        have z8 : v8 = if (wkS (σ 138) (σ 114 29) 5 4 (τ 114 30)) = -1 then -1 else (wkS (σ 138) (σ 114 29) 5 4 (τ 114 30)) - 5 := z8
        have v8r : rgi v8 := by rw [z8]; split <;> omega
        refine x_istore (E_X11_readRank_0 17 rfl) rfl ?_
        refine x_aload_n (E_X11_readRank_0 18 rfl) rfl ?_
        refine x_iload (E_X11_readRank_0 19 rfl) rfl ?_
        refine x_if_lt (E_X11_readRank_0 20 rfl) (by omega) (fun c3 => ?_) (fun c3 => ?_)
        · refine x_iconst (E_X11_readRank_0 23 rfl) ?_
          refine x_iconst (E_X11_readRank_0 24 rfl) ?_
          refine x_aload_n (E_X11_readRank_0 25 rfl) rfl ?_
          refine x_getIe (v := τ9 114 33) (E_X11_readRank_0 26 rfl) fl_X11_279 rfl (by decide) rfl ?_
          have hk : (wkS (σ 138) (σ 114 29) 5 4 (τ 114 30)) = -1 := Classical.byContradiction (fun h => by rw [if_neg h] at z8; omega)
          have hq : (if (wkS (σ 138) (σ 114 29) 5 4 (τ 114 30)) = -1 then _ else if seen / 2 ^ ((wkS (σ 138) (σ 114 29) 5 4 (τ 114 30)) - 5).toNat % 2 = 1 then _ else if (blS (σ 138) (σ 114 29) (weS (σ 138) (σ 114 29) (τ 114 30))) < σ 114 29 ∧ σ 138 (blS (σ 138) (σ 114 29) (weS (σ 138) (σ 114 29) (τ 114 30))) = 44 then _ else _) = K := hq
          rw [if_pos hk] at hq
          refine z_callVi (E_X11_readRank_0 27 rfl) ml_X11_293 mv_X11_want rfl (by decide) (by decide) (c_X11_want (by omega) (by decide) (by decide) (by omega)) (by decide) rfl rfl (Nat.le_of_ble_eq_true rfl) (fun z7 τ7 h7 => ?_)
          rcases h7 with ⟨a, -, -⟩ | ⟨-, a, -⟩ | ⟨-, -, rfl, rfl⟩
          · exact absurd (show τ9 114 31 = 0 by omega) a
          · exact absurd rfl a
          · refine x_if_eq (E_X11_readRank_0 28 rfl) (by decide) (fun _ => ?_) (fun c9 => absurd (by decide) c9)
            refine x_goto (E_X11_readRank_1 14 rfl) ?_
            refine done _ _ _ _ _ _ (Or.inr ?_) ⟨(by decide : rgi 1), show 0 ≤ τ9 114 30 by omega, show τ9 114 30 ≤ _ by omega⟩ (by decide) (Or.inr (show (1 : Int) ≠ 0 by decide)) ((G9.up (by decide)).up (by decide)) ((P9.up (by decide)).up (by decide))
            rw [← hq]
            exact ⟨(show (1 : Int) ≠ 0 by decide), rfl, s9⟩
        · refine x_iconst (E_X11_readRank_0 21 rfl) ?_
          refine x_goto (E_X11_readRank_0 22 rfl) ?_
          refine x_iconst (E_X11_readRank_0 24 rfl) ?_
          refine x_aload_n (E_X11_readRank_0 25 rfl) rfl ?_
          refine x_getIe (v := τ9 114 33) (E_X11_readRank_0 26 rfl) fl_X11_279 rfl (by decide) rfl ?_
          have hk : ¬ (wkS (σ 138) (σ 114 29) 5 4 (τ 114 30)) = -1 := fun h => by rw [if_pos h] at z8; omega
          rw [if_neg hk] at z8
          have kb := ky_bit (s := seen) (k := v8) hs (by omega)
          have kb2 : seen / 2 ^ v8.toNat % 2 = 0 ∨ seen / 2 ^ v8.toNat % 2 = 1 := by omega
          rw [show v8.toNat = ((wkS (σ 138) (σ 114 29) 5 4 (τ 114 30)) - 5).toNat by omega] at kb kb2
          refine z_callVi (E_X11_readRank_0 27 rfl) ml_X11_293 mv_X11_want rfl (by decide) (by decide) (c_X11_want (by omega) (by decide) (by decide) (by omega)) (by decide) rfl rfl (Nat.le_of_ble_eq_true rfl) (fun z7 τ7 h7 => ?_)
          rcases h7 with ⟨a, -, -⟩ | ⟨-, -, rfl, e7⟩ | ⟨-, a, -, -⟩
          · exact absurd (show τ9 114 31 = 0 by omega) a
          · obtain rfl := e7.symm
            refine x_if_eq (E_X11_readRank_0 28 rfl) (by decide) (fun c9 => absurd c9 (by decide)) (fun _ => ?_)
            refine x_aload_n (E_X11_readRank_0 29 rfl) rfl ?_
            refine x_iload_n (E_X11_readRank_0 30 rfl) rfl ?_
            refine x_iload (E_X11_readRank_0 31 rfl) rfl ?_
            refine x_ishr (E_X11_readRank_0 32 rfl) ?_
            refine x_iconst (E_X11_readRank_0 33 rfl) ?_
            refine x_iand (E_X11_readRank_0 34 rfl) ?_
            rw [kb.1]
            refine x_if_ne (E_X11_readRank_0 35 rfl) (by omega) (fun c1 => ?_) (fun c1 => ?_)
            · refine x_iconst (E_X11_readRank_0 38 rfl) ?_
              refine x_iconst (E_X11_readRank_0 39 rfl) ?_
              refine x_aload_n (E_X11_readRank_0 40 rfl) rfl ?_
              refine x_getIe (v := τ9 114 33) (E_X11_readRank_0 41 rfl) fl_X11_279 rfl (by decide) rfl ?_
              refine z_callVi (E_X11_readRank_0 42 rfl) ml_X11_293 mv_X11_want rfl (by decide) (by decide) (c_X11_want (by omega) (by decide) (by decide) (by omega)) (by decide) rfl rfl (Nat.le_of_ble_eq_true rfl) (fun z6 τ6 h6 => ?_)
              have hb : seen / 2 ^ ((wkS (σ 138) (σ 114 29) 5 4 (τ 114 30)) - 5).toNat % 2 = 1 := by omega
              have hq : (if (wkS (σ 138) (σ 114 29) 5 4 (τ 114 30)) = -1 then _ else if seen / 2 ^ ((wkS (σ 138) (σ 114 29) 5 4 (τ 114 30)) - 5).toNat % 2 = 1 then _ else if (blS (σ 138) (σ 114 29) (weS (σ 138) (σ 114 29) (τ 114 30))) < σ 114 29 ∧ σ 138 (blS (σ 138) (σ 114 29) (weS (σ 138) (σ 114 29) (τ 114 30))) = 44 then _ else _) = K := hq
              rw [if_neg hk, if_pos hb] at hq
              rcases h6 with ⟨a, -, -⟩ | ⟨-, a, -⟩ | ⟨-, -, rfl, rfl⟩
              · exact absurd (show τ9 114 31 = 0 by omega) a
              · exact absurd rfl a
              · refine x_if_eq (E_X11_readRank_0 43 rfl) (by decide) (fun _ => ?_) (fun c9 => absurd (by decide) c9)
                refine x_goto (E_X11_readRank_1 14 rfl) ?_
                refine done _ _ _ _ _ _ (Or.inr ?_) ⟨(by decide : rgi 4), show 0 ≤ τ9 114 30 by omega, show τ9 114 30 ≤ _ by omega⟩ (by decide) (Or.inr (show (4 : Int) ≠ 0 by decide)) ((G9.up (by decide)).up (by decide)) ((P9.up (by decide)).up (by decide))
                rw [← hq]
                exact ⟨(show (4 : Int) ≠ 0 by decide), rfl, s9⟩
            · refine x_iconst (E_X11_readRank_0 36 rfl) ?_
              refine x_goto (E_X11_readRank_0 37 rfl) ?_
              refine x_iconst (E_X11_readRank_0 39 rfl) ?_
              refine x_aload_n (E_X11_readRank_0 40 rfl) rfl ?_
              refine x_getIe (v := τ9 114 33) (E_X11_readRank_0 41 rfl) fl_X11_279 rfl (by decide) rfl ?_
              refine z_callVi (E_X11_readRank_0 42 rfl) ml_X11_293 mv_X11_want rfl (by decide) (by decide) (c_X11_want (by omega) (by decide) (by decide) (by omega)) (by decide) rfl rfl (Nat.le_of_ble_eq_true rfl) (fun z6 τ6 h6 => ?_)
              have hb : ¬ seen / 2 ^ ((wkS (σ 138) (σ 114 29) 5 4 (τ 114 30)) - 5).toNat % 2 = 1 := by omega
              have hq : (if (wkS (σ 138) (σ 114 29) 5 4 (τ 114 30)) = -1 then _ else if seen / 2 ^ ((wkS (σ 138) (σ 114 29) 5 4 (τ 114 30)) - 5).toNat % 2 = 1 then _ else if (blS (σ 138) (σ 114 29) (weS (σ 138) (σ 114 29) (τ 114 30))) < σ 114 29 ∧ σ 138 (blS (σ 138) (σ 114 29) (weS (σ 138) (σ 114 29) (τ 114 30))) = 44 then _ else _) = K := hq
              rw [if_neg hk, if_neg hb] at hq
              rcases h6 with ⟨a, -, -⟩ | ⟨-, -, rfl, e6⟩ | ⟨-, a, -, -⟩
              · exact absurd (show τ9 114 31 = 0 by omega) a
              · obtain rfl := e6.symm
                have kb3 := kb.2 hb
                have n3 : n ≤ 3 := Classical.byContradiction (fun h => hb (pop4_full hs (by omega) (by omega)))
                have ko := ky_or2 (v := row) (a := v8) n3 hv (by omega)
                have p8 : (0 : Int) ≤ v8 * 4 ^ n := Int.mul_nonneg (by omega) (Int.pow_nonneg (by decide))
                have p0 : (0 : Int) < 2 ^ ((wkS (σ 138) (σ 114 29) 5 4 (τ 114 30)) - 5).toNat := Int.pow_pos (by decide)
                have br2 := bl_rg (tx := σ 138) (p := (weS (σ 138) (σ 114 29) (τ 114 30))) wr.2
                have tb := ht.2 (blS (σ 138) (σ 114 29) (weS (σ 138) (σ 114 29) (τ 114 30)))
                refine x_if_eq (E_X11_readRank_0 43 rfl) (by decide) (fun c9 => absurd c9 (by decide)) (fun _ => ?_)
                refine x_iload_n (E_X11_readRank_0 44 rfl) rfl ?_
                refine x_iconst (E_X11_readRank_0 45 rfl) ?_
                refine x_iload (E_X11_readRank_0 46 rfl) rfl ?_
                refine x_ishl (E_X11_readRank_0 47 rfl) ?_
                refine x_ior (E_X11_readRank_0 48 rfl) ?_
                refine x_istore_n (E_X11_readRank_0 49 rfl) rfl ?_
                refine x_iload (E_X11_readRank_0 50 rfl) rfl ?_
                refine x_iload (E_X11_readRank_0 51 rfl) rfl ?_
                refine x_iconst (E_X11_readRank_0 52 rfl) ?_
                refine x_iload_n (E_X11_readRank_0 53 rfl) rfl ?_
                refine x_imul (E_X11_readRank_0 54 rfl) ?_
                refine x_ishl (E_X11_readRank_0 55 rfl) ?_
                refine x_ior (E_X11_readRank_0 56 rfl) ?_
                refine x_istore (E_X11_readRank_0 57 rfl) rfl ?_
                refine x_iinc (E_X11_readRank_0 58 rfl) rfl rfl ?_
                refine x_aload_n (E_X11_readRank_0 59 rfl) rfl ?_
                refine z_callVi (E_X11_readRank_1 0 rfl) ml_X11_275 mv_X11_here rfl (by decide) (by decide) (c_X11_here t9 (by omega)) (by decide) rfl rfl (Nat.le_of_ble_eq_true rfl) (fun v5 τ5 h5 => ?_)
                rw [l9, x9, e1, e42, a9] at h5
                obtain ⟨z5, a5, F5, O5⟩ := h5
                have v5r : rgi v5 := by rcases z5 with z5 | z5 <;> omega
                have G5 : Fr [114] σ τ5 := Fr.trans G9 F5 (fun k h => h) (fun k h => h)
                have P5 : Fo 114 [30, 31, 32, 33, 34] σ τ5 := Fo.trans P9 O5 (fun k h => h) (by decide)
                have f5 := O5 31 (by decide)
                have w5 := O5 32 (by decide)
                refine x_bipush (z := 44) (E_X11_readRank_1 1 rfl) (by decide) ?_
                refine x_icmp_ne (E_X11_readRank_1 2 rfl) (by omega) (by decide) (fun c1 => ?_) (fun c1 => ?_)
                · refine x_iconst (E_X11_readRank_1 5 rfl) ?_
                  refine x_istore (E_X11_readRank_1 6 rfl) rfl ?_
                  refine x_aload_n (E_X11_readRank_1 7 rfl) rfl ?_
                  refine x_dupr (E_X11_readRank_1 8 rfl) ?_
                  refine x_getIe (v := τ5 114 30) (E_X11_readRank_1 9 rfl) fl_X11_269 rfl (by decide) rfl ?_
                  refine x_iload (E_X11_readRank_1 10 rfl) rfl ?_
                  refine z_callSi (E_X11_readRank_1 11 rfl) ml_X11_307 ms_X11_one (c_X11_one (by omega)) (by decide) rfl rfl (Nat.le_of_ble_eq_true rfl) (fun z4 τ4 h4 => ?_)
                  obtain ⟨rfl, rfl⟩ := h4
                  refine x_iadd (E_X11_readRank_1 12 rfl) ?_
                  refine x_putI (E_X11_readRank_1 13 rfl) fl_X11_269 rfl (by decide) ?_
                  refine x_goto (E_X11_readRank_1 14 rfl) ?_
                  have c7 : ¬ ((blS (σ 138) (σ 114 29) (weS (σ 138) (σ 114 29) (τ 114 30))) < σ 114 29 ∧ σ 138 (blS (σ 138) (σ 114 29) (weS (σ 138) (σ 114 29) (τ 114 30))) = 44) := by rcases z5 with z5 | z5 <;> omega
                  rw [if_neg c7] at hq
                  rw [kb3.1, ko.1]
                  refine done _ _ _ _ _ _ (Or.inl ?_) ⟨show rgi (τ5 114 31) by omega, show 0 ≤ τ5 114 30 + 0 by omega, show τ5 114 30 + 0 ≤ _ by omega⟩ (by decide) (Or.inl rfl) (G5.up (by decide)) (P5.up (by decide))
                  rw [← hq]
                  exact ⟨rfl, show τ5 114 31 = 0 by omega, show τ5 114 32 = _ by omega, show τ5 114 30 + 0 = (blS (σ 138) (σ 114 29) (weS (σ 138) (σ 114 29) (τ 114 30))) by omega, show row + v8 * 4 ^ n = _ by rw [show v8 = (wkS (σ 138) (σ 114 29) 5 4 (τ 114 30)) - 5 by omega], show ((n : Nat) : Int) + 1 = ((n + 1 : Nat) : Int) by omega⟩
                · refine x_iconst (E_X11_readRank_1 3 rfl) ?_
                  refine x_goto (E_X11_readRank_1 4 rfl) ?_
                  refine x_istore (E_X11_readRank_1 6 rfl) rfl ?_
                  refine x_aload_n (E_X11_readRank_1 7 rfl) rfl ?_
                  refine x_dupr (E_X11_readRank_1 8 rfl) ?_
                  refine x_getIe (v := τ5 114 30) (E_X11_readRank_1 9 rfl) fl_X11_269 rfl (by decide) rfl ?_
                  refine x_iload (E_X11_readRank_1 10 rfl) rfl ?_
                  refine z_callSi (E_X11_readRank_1 11 rfl) ml_X11_307 ms_X11_one (c_X11_one (by omega)) (by decide) rfl rfl (Nat.le_of_ble_eq_true rfl) (fun z4 τ4 h4 => ?_)
                  obtain ⟨rfl, rfl⟩ := h4
                  refine x_iadd (E_X11_readRank_1 12 rfl) ?_
                  refine x_putI (E_X11_readRank_1 13 rfl) fl_X11_269 rfl (by decide) ?_
                  refine x_goto (E_X11_readRank_1 14 rfl) ?_
                  have c7 : (blS (σ 138) (σ 114 29) (weS (σ 138) (σ 114 29) (τ 114 30))) < σ 114 29 ∧ σ 138 (blS (σ 138) (σ 114 29) (weS (σ 138) (σ 114 29) (τ 114 30))) = 44 := by rcases z5 with z5 | z5 <;> omega
                  rw [if_pos c7] at hq
                  rw [kb3.1, ko.1]
                  have e30 : τ5 114 30 + 1 = (blS (σ 138) (σ 114 29) (weS (σ 138) (σ 114 29) (τ 114 30))) + 1 := by omega
                  refine ih (n + 1) _ (vl + ((wkS (σ 138) (σ 114 29) 5 4 (τ 114 30)) - 4) * 8 ^ n) _ _ _ (by omega) ?_ (by omega) (by rw [kb3.2.2, hp]; rfl) (by omega) (show τ5 114 31 = 0 by omega) (show τ5 114 32 = _ by omega) (show 0 ≤ τ5 114 30 + 1 ∧ τ5 114 30 + 1 ≤ _ by omega) (G5.up (by decide)) (P5.up (by decide))
                  show kyQ _ _ t (τ5 114 30 + 1) _ _ _ _ = K
                  rw [e30, show v8 = (wkS (σ 138) (σ 114 29) 5 4 (τ 114 30)) - 5 by omega]
                  exact hq
              · exact absurd a (by decide)
          · exact absurd a (by decide)
  refine x_iconst (E_X11_readRank_0 0 rfl) ?_
  refine x_istore_n (E_X11_readRank_0 1 rfl) rfl ?_
  refine x_iconst (E_X11_readRank_0 2 rfl) ?_
  refine x_istore_n (E_X11_readRank_0 3 rfl) rfl ?_
  refine x_iconst (E_X11_readRank_0 4 rfl) ?_
  refine x_istore (E_X11_readRank_0 5 rfl) rfl ?_
  refine x_iconst (E_X11_readRank_0 6 rfl) ?_
  refine x_istore (E_X11_readRank_0 7 rfl) rfl ?_
  exact loop 5 0 none 0 0 0 σ rfl hK (by omega) rfl (by decide) hf rfl h0 Fr.rf Fo.rf

