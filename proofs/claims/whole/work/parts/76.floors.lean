/-! plan: all floors -/
variable {l : Launch} {G : GC} {σ : Nat → Int → Int}

/-- casks that stay on floor f, and their sorts: of the lots below n that are not chosen -/
def syS (fl th : Int → Int) (set f : Int) : Nat → Int
  | 0 => 0
  | n + 1 => if ¬ set / 2 ^ n % 2 = 1 ∧ fl (n : Nat) = f then syS fl th set f n + th (n : Nat) else syS fl th set f n
def soS (fl so : Int → Int) (set f : Int) : Nat → Int
  | 0 => 0
  | n + 1 => if ¬ set / 2 ^ n % 2 = 1 ∧ fl (n : Nat) = f then bOr (soS fl so set f n) (bShl 1 (so (n : Nat))) else soS fl so set f n
theorem syS_rg {fl th : Int → Int} {set f : Int} : ∀ {n : Nat}, (∀ j : Nat, j < n → 0 ≤ th j ∧ th j ≤ 200) → 0 ≤ syS fl th set f n ∧ syS fl th set f n ≤ 200 * n
  | 0, _ => by show (0 : Int) ≤ 0 ∧ (0 : Int) ≤ 200 * ((0 : Nat) : Int); omega
  | n + 1, h => by
    have a := syS_rg (fl := fl) (th := th) (set := set) (f := f) (n := n) (fun j hj => h j (by omega))
    have b := h n (by omega)
    unfold syS
    split <;> omega
theorem bOr_16d : (List.range 16).all (fun a => (List.range 4).all (fun k => decide (0 ≤ bOr ((a : Nat) : Int) (bShl 1 ((k : Nat) : Int)) ∧ bOr ((a : Nat) : Int) (bShl 1 ((k : Nat) : Int)) < 16))) = true := by decide +kernel
theorem bOr_16 {a k : Int} (ha : 0 ≤ a ∧ a < 16) (hk : 0 ≤ k ∧ k ≤ 3) : 0 ≤ bOr a (bShl 1 k) ∧ bOr a (bShl 1 k) < 16 := by
  have h := of_decide_eq_true (List.all_eq_true.mp (List.all_eq_true.mp bOr_16d a.toNat (List.mem_range.mpr (by omega))) k.toNat (List.mem_range.mpr (by omega)))
  rw [show ((a.toNat : Nat) : Int) = a by omega, show ((k.toNat : Nat) : Int) = k by omega] at h
  exact h
theorem srF_rg {g : Nat → Int} {s : Int} : ∀ {k : Nat}, (∀ j, j < k → 0 ≤ g j ∧ g j ≤ 3) → 0 ≤ srF g k s ∧ srF g k s < 16
  | 0, _ => by show (0 : Int) ≤ 0 ∧ (0 : Int) < 16; omega
  | k + 1, h => by
    have a := srF_rg (g := g) (s := s) (k := k) (fun j hj => h j (by omega))
    unfold srF
    split
    · exact bOr_16 a (h k (by omega))
    · exact a
theorem soS_rg {fl so : Int → Int} {set f : Int} : ∀ {n : Nat}, (∀ j : Nat, j < n → 0 ≤ so j ∧ so j ≤ 3) → 0 ≤ soS fl so set f n ∧ soS fl so set f n < 16
  | 0, _ => by show (0 : Int) ≤ 0 ∧ (0 : Int) < 16; omega
  | n + 1, h => by
    have a := soS_rg (fl := fl) (so := so) (set := set) (f := f) (n := n) (fun j hj => h j (by omega))
    unfold soS
    split
    · exact bOr_16 a (h n (by omega))
    · exact a
theorem shS_rg {pf : Int → Int} {free ss ck so pr : Int} (h : 0 ≤ pr ∧ pr ≤ 1152921504606846976) : 0 ≤ shS pf free ss ck so pr ∧ shS pf free ss ck so pr ≤ 1152921504606846976 := by
  unfold shS
  split <;> omega
/-- the least stays within bounds -/
theorem opF_rg {B Pz : Int → Int} {s : Nat} (hs : s < 256) (hB : ∀ u : Nat, u ≤ s → 0 ≤ B u ∧ B u ≤ 1152921504606846976) (hP : ∀ u : Nat, u ≤ s → 0 ≤ Pz u) : 0 ≤ opF B Pz s ∧ opF B Pz s ≤ 1152921504606846976 := by
  have sm := (sbq_at hs).2.1
  have go : ∀ (L : List Nat) (acc : Int), (∀ p ∈ L, p ∈ sbL s) → (0 ≤ acc ∧ acc ≤ 1152921504606846976) → 0 ≤ L.foldl (fun acc p => if Pz (p : Nat) < 1152921504606846976 then min acc (B ((s - p : Nat) : Int) + Pz (p : Nat)) else acc) acc ∧ L.foldl (fun acc p => if Pz (p : Nat) < 1152921504606846976 then min acc (B ((s - p : Nat) : Int) + Pz (p : Nat)) else acc) acc ≤ 1152921504606846976 := by
    intro L
    induction L with
    | nil => intro acc _ h; exact h
    | cons p L ih =>
      intro acc hL h
      have q := sm p (hL p List.mem_cons_self)
      have b := hB (s - p) (by omega)
      have d := hP p q.2.1
      rw [List.foldl_cons]
      refine ih _ (fun x hx => hL x (List.mem_cons_of_mem _ hx)) ?_
      split <;> omega
  exact go _ _ (fun p h => h) (hB s (Nat.le_refl _))

theorem c_X4_isFound {c : Nat} (hc : c ≤ 8) (h2 : σ 107 2 = (c : Nat)) (hB : 0 ≤ σ 113 (2 ^ c - 1) ∧ σ 113 (2 ^ c - 1) ≤ 1152921504606846976) : CI l G M_X4_isFound 0 [vr 107] σ (BP (σ 113 (2 ^ c - 1) < 1152921504606846976) σ) := by
  have pc := p2_rg hc
  have ps := p2_sh hc
  have lc : lCmp (σ 113 (2 ^ c - 1)) 1152921504606846976 < 0 ↔ σ 113 (2 ^ c - 1) < 1152921504606846976 := lCmp_lt
  refine Ct.of rfl (Nat.le_of_ble_eq_true rfl) ?_
  refine x_aload_n (E_X4_isFound_0 0 rfl) rfl ?_
  refine x_getR (E_X4_isFound_0 1 rfl) fl_X4_28 rfl (by decide) rfl ?_
  refine x_iconst (E_X4_isFound_0 2 rfl) ?_
  refine x_aload_n (E_X4_isFound_0 3 rfl) rfl ?_
  refine x_getIe (v := σ 107 2) (E_X4_isFound_0 4 rfl) fl_X4_45 rfl (by decide) rfl ?_
  rw [h2]
  refine x_ishl (E_X4_isFound_0 5 rfl) ?_
  rw [ps]
  refine x_iconst (E_X4_isFound_0 6 rfl) ?_
  refine x_isub (E_X4_isFound_0 7 rfl) ?_
  refine x_lalde (f := σ 113) (E_X4_isFound_0 8 rfl) rfl (by decide) (by omega) rfl ?_
  refine x_ldc2 (z := 1152921504606846976) (E_X4_isFound_0 9 rfl) kc_X4_46 (by decide) ?_
  refine x_lcmp (E_X4_isFound_0 10 rfl) (by omega) (by decide) ?_
  refine x_if_ge (E_X4_isFound_0 11 rfl) lCmp_rg (fun c1 => ?_) (fun c1 => ?_)
  · refine x_iconst (E_X4_isFound_0 14 rfl) ?_
    refine z_iret (E_X4_isFound_0 15 rfl) (Or.inl rfl) ?_
    exact ⟨rfl, Or.inr ⟨rfl, by omega⟩⟩
  · refine x_iconst (E_X4_isFound_0 12 rfl) ?_
    refine x_goto (E_X4_isFound_0 13 rfl) ?_
    refine z_iret (E_X4_isFound_0 15 rfl) (Or.inr rfl) ?_
    exact ⟨rfl, Or.inl ⟨rfl, by omega⟩⟩

theorem c_X4_moved {c : Nat} (hc : c ≤ 8) (h2 : σ 107 2 = (c : Nat)) (hB : 0 ≤ σ 113 (2 ^ c - 1) ∧ σ 113 (2 ^ c - 1) < 3600000000000) : CI l G M_X4_moved 0 [vr 107] σ (IP (σ 113 (2 ^ c - 1) / 1679616) σ) := by
  have pc := p2_rg hc
  have ps := p2_sh hc
  refine Ct.of rfl (Nat.le_of_ble_eq_true rfl) ?_
  refine x_aload_n (E_X4_moved_0 0 rfl) rfl ?_
  refine x_getR (E_X4_moved_0 1 rfl) fl_X4_28 rfl (by decide) rfl ?_
  refine x_iconst (E_X4_moved_0 2 rfl) ?_
  refine x_aload_n (E_X4_moved_0 3 rfl) rfl ?_
  refine x_getIe (v := σ 107 2) (E_X4_moved_0 4 rfl) fl_X4_45 rfl (by decide) rfl ?_
  rw [h2]
  refine x_ishl (E_X4_moved_0 5 rfl) ?_
  rw [ps]
  refine x_iconst (E_X4_moved_0 6 rfl) ?_
  refine x_isub (E_X4_moved_0 7 rfl) ?_
  refine x_lalde (f := σ 113) (E_X4_moved_0 8 rfl) rfl (by decide) (by omega) rfl ?_
  refine x_ldc2 (z := 1679616) (E_X4_moved_0 9 rfl) kc_X4_74 (by decide) ?_
  refine x_ldiv (E_X4_moved_0 10 rfl) (by omega) (by omega) ?_
  refine x_l2i (E_X4_moved_0 11 rfl) ?_
  refine z_iret (E_X4_moved_0 12 rfl) trivial ?_
  exact ⟨l2i_s (by omega), rfl⟩

theorem c_X4_floorOf {x : Int} (hx : 0 ≤ x ∧ x < 12) (hp : σ 108 x = -1 ∨ (0 ≤ σ 108 x ∧ σ 108 x < 8)) {c : Nat} (hc : c ≤ 8) (h2 : σ 107 2 = (c : Nat)) (hB : 0 ≤ σ 113 (2 ^ c - 1) ∧ σ 113 (2 ^ c - 1) < 3600000000000) : CI l G M_X4_floorOf 0 [vr 107, vi x] σ (IP (if σ 108 x = -1 then -1 else σ 113 (2 ^ c - 1) / ofF (σ 108 x) % 6) σ) := by
  have pc := p2_rg hc
  have ps := p2_sh hc
  refine Ct.of rfl (Nat.le_of_ble_eq_true rfl) ?_
  refine x_aload_n (E_X4_floorOf_0 0 rfl) rfl ?_
  refine x_getR (E_X4_floorOf_0 1 rfl) fl_X4_9 rfl (by decide) rfl ?_
  refine x_iload_n (E_X4_floorOf_0 2 rfl) rfl ?_
  refine x_ialde (f := σ 108) (E_X4_floorOf_0 3 rfl) rfl (by decide) (by omega) rfl ?_
  refine x_iconst (E_X4_floorOf_0 4 rfl) ?_
  refine x_icmp_ne (E_X4_floorOf_0 5 rfl) (by omega) (by decide) (fun c1 => ?_) (fun c1 => ?_)
  · refine x_aload_n (E_X4_floorOf_0 8 rfl) rfl ?_
    refine x_getR (E_X4_floorOf_0 9 rfl) fl_X4_28 rfl (by decide) rfl ?_
    refine x_iconst (E_X4_floorOf_0 10 rfl) ?_
    refine x_aload_n (E_X4_floorOf_0 11 rfl) rfl ?_
    refine x_getIe (v := σ 107 2) (E_X4_floorOf_0 12 rfl) fl_X4_45 rfl (by decide) rfl ?_
    rw [h2]
    refine x_ishl (E_X4_floorOf_0 13 rfl) ?_
    rw [ps]
    refine x_iconst (E_X4_floorOf_0 14 rfl) ?_
    refine x_isub (E_X4_floorOf_0 15 rfl) ?_
    refine x_lalde (f := σ 113) (E_X4_floorOf_0 16 rfl) rfl (by decide) (by omega) rfl ?_
    refine x_gets (i := 5) (E_X4_floorOf_0 17 rfl) rfl sl_X4_71 ?_
    refine x_aload_n (E_X4_floorOf_0 18 rfl) rfl ?_
    refine x_getR (E_X4_floorOf_0 19 rfl) fl_X4_9 rfl (by decide) rfl ?_
    refine x_iload_n (E_X4_floorOf_0 20 rfl) rfl ?_
    refine x_ialde (f := σ 108) (E_X4_floorOf_0 21 rfl) rfl (by decide) (by omega) rfl ?_
    have ofr := ofF_rg (k := (σ 108 x).toNat) (by omega)
    rw [show (((σ 108 x).toNat : Nat) : Int) = σ 108 x by omega] at ofr
    refine x_ialdS (E_X4_floorOf_0 22 rfl) rfl (show 0 ≤ σ 108 x ∧ σ 108 x < 8 by omega) (by decide) ?_
    refine x_i2l (E_X4_floorOf_0 23 rfl) (show rgi (ofF (σ 108 x)) by omega) ?_
    have dq : 0 ≤ σ 113 (2 ^ c - 1) / ofF (σ 108 x) := Int.ediv_nonneg hB.1 (by omega)
    have dr : σ 113 (2 ^ c - 1) / ofF (σ 108 x) ≤ σ 113 (2 ^ c - 1) := Int.ediv_le_self _ hB.1
    refine x_ldiv (E_X4_floorOf_0 24 rfl) (by omega) (show 0 < ofF (σ 108 x) ∧ ofF (σ 108 x) < 9223372036854775808 by omega) ?_
    refine x_ldc2 (z := 6) (E_X4_floorOf_0 25 rfl) kc_X4_91 (by decide) ?_
    refine x_lrem (E_X4_floorOf_0 26 rfl) (show 0 ≤ σ 113 (2 ^ c - 1) / ofF (σ 108 x) ∧ σ 113 (2 ^ c - 1) / ofF (σ 108 x) < 9223372036854775808 by omega) (by decide) ?_
    refine x_l2i (E_X4_floorOf_0 27 rfl) ?_
    refine z_iret (E_X4_floorOf_0 28 rfl) trivial ?_
    refine ⟨?_, rfl⟩
    rw [if_neg (by omega)]
    exact l2i_s (show 0 ≤ σ 113 (2 ^ c - 1) / ofF (σ 108 x) % 6 ∧ σ 113 (2 ^ c - 1) / ofF (σ 108 x) % 6 < 2147483648 by omega)
  · refine x_iconst (E_X4_floorOf_0 6 rfl) ?_
    refine z_iret (E_X4_floorOf_0 7 rfl) trivial ?_
    exact ⟨(if_pos (by omega)).symm, rfl⟩

