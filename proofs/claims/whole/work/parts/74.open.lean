/-! plan: a floor is shut -/
variable {l : Launch} {G : GC} {σ : Nat → Int → Int}

def bcE (x : Int) : Int :=
  let a := x - bAnd (bUsh x 1) 1431655765
  let b := bAnd a 858993459 + bAnd (bUsh a 2) 858993459
  let c := bAnd (b + bUsh b 4) 252645135
  let d := c + bUsh c 8
  let e := d + bUsh d 16
  bAnd e 63
theorem bc_all : (List.range 4096).all (fun x => decide (bcE ((x : Nat) : Int) = (cqS ((x : Nat) : Int) 12 : Nat))) = true := by decide +kernel
theorem bc_at {x : Int} (h : 0 ≤ x ∧ x < 4096) : bcE x = (cqS x 12 : Nat) := by
  have a := of_decide_eq_true (List.all_eq_true.mp bc_all x.toNat (List.mem_range.mpr (by omega)))
  rw [show ((x.toNat : Nat) : Int) = x by omega] at a
  exact a
theorem c_J6_bitCount {x : Int} (h : 0 ≤ x ∧ x < 4096) : CI l G M_J6_bitCount_0f7a4 0 [vi x] σ (IP (cqS x 12 : Nat) σ) := by
  refine Ct.of rfl (Nat.le_of_ble_eq_true rfl) ?_
  refine x_iload_n (E_J6_bitCount_0f7a4_0 0 rfl) rfl ?_
  refine x_iload_n (E_J6_bitCount_0f7a4_0 1 rfl) rfl ?_
  refine x_iconst (E_J6_bitCount_0f7a4_0 2 rfl) ?_
  refine x_iushr (E_J6_bitCount_0f7a4_0 3 rfl) ?_
  refine x_ldcw (z := 1431655765) (E_J6_bitCount_0f7a4_0 4 rfl) kc_J6_265 (by decide) ?_
  refine x_iand (E_J6_bitCount_0f7a4_0 5 rfl) ?_
  refine x_isub (E_J6_bitCount_0f7a4_0 6 rfl) ?_
  refine x_istore_n (E_J6_bitCount_0f7a4_0 7 rfl) rfl ?_
  refine x_iload_n (E_J6_bitCount_0f7a4_0 8 rfl) rfl ?_
  refine x_ldcw (z := 858993459) (E_J6_bitCount_0f7a4_0 9 rfl) kc_J6_266 (by decide) ?_
  refine x_iand (E_J6_bitCount_0f7a4_0 10 rfl) ?_
  refine x_iload_n (E_J6_bitCount_0f7a4_0 11 rfl) rfl ?_
  refine x_iconst (E_J6_bitCount_0f7a4_0 12 rfl) ?_
  refine x_iushr (E_J6_bitCount_0f7a4_0 13 rfl) ?_
  refine x_ldcw (z := 858993459) (E_J6_bitCount_0f7a4_0 14 rfl) kc_J6_266 (by decide) ?_
  refine x_iand (E_J6_bitCount_0f7a4_0 15 rfl) ?_
  refine x_iadd (E_J6_bitCount_0f7a4_0 16 rfl) ?_
  refine x_istore_n (E_J6_bitCount_0f7a4_0 17 rfl) rfl ?_
  refine x_iload_n (E_J6_bitCount_0f7a4_0 18 rfl) rfl ?_
  refine x_iload_n (E_J6_bitCount_0f7a4_0 19 rfl) rfl ?_
  refine x_iconst (E_J6_bitCount_0f7a4_0 20 rfl) ?_
  refine x_iushr (E_J6_bitCount_0f7a4_0 21 rfl) ?_
  refine x_iadd (E_J6_bitCount_0f7a4_0 22 rfl) ?_
  refine x_ldcw (z := 252645135) (E_J6_bitCount_0f7a4_0 23 rfl) kc_J6_267 (by decide) ?_
  refine x_iand (E_J6_bitCount_0f7a4_0 24 rfl) ?_
  refine x_istore_n (E_J6_bitCount_0f7a4_0 25 rfl) rfl ?_
  refine x_iload_n (E_J6_bitCount_0f7a4_0 26 rfl) rfl ?_
  refine x_iload_n (E_J6_bitCount_0f7a4_0 27 rfl) rfl ?_
  refine x_bipush (z := 8) (E_J6_bitCount_0f7a4_0 28 rfl) (by decide) ?_
  refine x_iushr (E_J6_bitCount_0f7a4_0 29 rfl) ?_
  refine x_iadd (E_J6_bitCount_0f7a4_0 30 rfl) ?_
  refine x_istore_n (E_J6_bitCount_0f7a4_0 31 rfl) rfl ?_
  refine x_iload_n (E_J6_bitCount_0f7a4_0 32 rfl) rfl ?_
  refine x_iload_n (E_J6_bitCount_0f7a4_0 33 rfl) rfl ?_
  refine x_bipush (z := 16) (E_J6_bitCount_0f7a4_0 34 rfl) (by decide) ?_
  refine x_iushr (E_J6_bitCount_0f7a4_0 35 rfl) ?_
  refine x_iadd (E_J6_bitCount_0f7a4_0 36 rfl) ?_
  refine x_istore_n (E_J6_bitCount_0f7a4_0 37 rfl) rfl ?_
  refine x_iload_n (E_J6_bitCount_0f7a4_0 38 rfl) rfl ?_
  refine x_bipush (z := 63) (E_J6_bitCount_0f7a4_0 39 rfl) (by decide) ?_
  refine x_iand (E_J6_bitCount_0f7a4_0 40 rfl) ?_
  refine z_iret (E_J6_bitCount_0f7a4_0 41 rfl) trivial ?_
  exact ⟨bc_at h, rfl⟩
def pdB (pf : Int → Int) (ours all : Int) : Bool := (List.range 4).any (fun t => decide (ours / 2 ^ t % 2 = 1) && decide (bAnd (pf (t : Nat)) all ≠ 0))
theorem pdB_iff {pf : Int → Int} {ours all : Int} : pdB pf ours all = true ↔ pdS pf ours all := by
  unfold pdB pdS
  rw [List.any_eq_true]
  constructor
  · rintro ⟨t, ht, h⟩
    rw [Bool.and_eq_true] at h
    exact ⟨t, List.mem_range.mp ht, of_decide_eq_true h.1, of_decide_eq_true h.2⟩
  · rintro ⟨t, ht, h1, h2⟩
    refine ⟨t, List.mem_range.mpr ht, ?_⟩
    rw [Bool.and_eq_true]
    exact ⟨decide_eq_true h1, decide_eq_true h2⟩
/-- the price of s where the floor has room for it -/
def shS (pf : Int → Int) (free ss ck so pr : Int) : Int := if free < ck ∨ pdB pf so (bOr so ss) = true then 1152921504606846976 else pr
set_option maxHeartbeats 1000000 in
theorem c_X4_shut {free ss : Int} {c : Nat} (hc : c ≤ 8) (h2 : σ 107 2 = (c : Nat)) (hfr : rgi free) (hck : ∀ s, 0 ≤ s → s < 2 ^ c → rgi (σ 110 s)) (hso : ∀ s, 0 ≤ s → s < 2 ^ c → 0 ≤ σ 111 s ∧ σ 111 s < 16) : CV l G M_X4_shut 1 [vr 107, vi free, vi ss, vr 106] σ (fun τ => (τ 112 0 = σ 112 0 ∧ ∀ s, 1 ≤ s → s < 2 ^ c → τ 112 s = shS (σ 106) free ss (σ 110 s) (σ 111 s) (σ 112 s)) ∧ Fr [112] σ τ) := by
  have pc := p2_rg hc
  have ps := p2_sh hc
  refine Ct.of rfl (Nat.le_of_ble_eq_true rfl) ?_
  have loop : ∀ (m : Nat) (s : Int) (τ : Nat → Int → Int), s = 2 ^ c - m → 1 ≤ s → τ 112 0 = σ 112 0 → (∀ u, 1 ≤ u → u < s → τ 112 u = shS (σ 106) free ss (σ 110 u) (σ 111 u) (σ 112 u)) → (∀ u, s ≤ u → τ 112 u = σ 112 u) → Fr [112] σ τ → XV l G M_X4_shut 1 3 [some (vr 107), some (vi free), some (vi ss), some (vr 106), some (vi s)] [] τ (fun τ => (τ 112 0 = σ 112 0 ∧ ∀ s, 1 ≤ s → s < 2 ^ c → τ 112 s = shS (σ 106) free ss (σ 110 s) (σ 111 s) (σ 112 s)) ∧ Fr [112] σ τ) := by
    intro m
    induction m with
    | zero =>
      intro s τ hs s1 h0 hI hR hF
      have e2 : τ 107 2 = (c : Nat) := by rw [hF 107 (by decide)]; exact h2
      refine x_iload (E_X4_shut_0 2 rfl) rfl ?_
      refine x_iconst (E_X4_shut_0 3 rfl) ?_
      refine x_aload_n (E_X4_shut_0 4 rfl) rfl ?_
      refine x_getIe (v := τ 107 2) (E_X4_shut_0 5 rfl) fl_X4_45 rfl (by decide) rfl ?_
      rw [e2]
      refine x_ishl (E_X4_shut_0 6 rfl) ?_
      rw [ps]
      refine x_icmp_ge (E_X4_shut_0 7 rfl) (by omega) (by omega) (fun c1 => ?_) (fun c1 => ?_)
      · refine z_vret (E_X4_shut_0 35 rfl) trivial ?_
        exact ⟨⟨h0, fun u a b => hI u a (by omega)⟩, hF⟩
      · exfalso; omega
    | succ m ih =>
      intro s τ hs s1 h0 hI hR hF
      have e2 : τ 107 2 = (c : Nat) := by rw [hF 107 (by decide)]; exact h2
      have e10 : τ 110 s = σ 110 s := congrFun (hF 110 (by decide)) _
      have e11 : τ 111 s = σ 111 s := congrFun (hF 111 (by decide)) _
      have e06 : τ 106 = σ 106 := hF 106 (by decide)
      have b10 := hck s (by omega) (by omega)
      have b11 := hso s (by omega) (by omega)
      have nx : ∀ υ : Nat → Int → Int, υ 112 s = shS (σ 106) free ss (σ 110 s) (σ 111 s) (σ 112 s) → (∀ u, u ≠ s → υ 112 u = τ 112 u) → Fr [112] σ υ → XV l G M_X4_shut 1 59 [some (vr 107), some (vi free), some (vi ss), some (vr 106), some (vi s)] [] υ (fun τ => (τ 112 0 = σ 112 0 ∧ ∀ s, 1 ≤ s → s < 2 ^ c → τ 112 s = shS (σ 106) free ss (σ 110 s) (σ 111 s) (σ 112 s)) ∧ Fr [112] σ τ) := by
        intro υ hu ho hG
        refine x_iinc (E_X4_shut_0 33 rfl) rfl rfl ?_
        refine x_goto (E_X4_shut_0 34 rfl) ?_
        refine ih (s + 1) υ (by omega) (by omega) ((ho 0 (by omega)).trans h0) (fun u a b => ?_) (fun u a => (ho u (by omega)).trans (hR u (by omega))) hG
        by_cases e : u = s
        · subst e; exact hu
        · exact (ho u e).trans (hI u a (by omega))
      refine x_iload (E_X4_shut_0 2 rfl) rfl ?_
      refine x_iconst (E_X4_shut_0 3 rfl) ?_
      refine x_aload_n (E_X4_shut_0 4 rfl) rfl ?_
      refine x_getIe (v := τ 107 2) (E_X4_shut_0 5 rfl) fl_X4_45 rfl (by decide) rfl ?_
      rw [e2]
      refine x_ishl (E_X4_shut_0 6 rfl) ?_
      rw [ps]
      refine x_icmp_ge (E_X4_shut_0 7 rfl) (by omega) (by omega) (fun c1 => ?_) (fun c1 => ?_)
      · exfalso; omega
      · refine x_aload_n (E_X4_shut_0 8 rfl) rfl ?_
        refine x_getR (E_X4_shut_0 9 rfl) fl_X4_18 rfl (by decide) rfl ?_
        refine x_iload (E_X4_shut_0 10 rfl) rfl ?_
        refine x_ialde (f := τ 110) (E_X4_shut_0 11 rfl) rfl (by decide) (by omega) rfl ?_
        refine x_iload_n (E_X4_shut_0 12 rfl) rfl ?_
        refine x_icmp_gt (E_X4_shut_0 13 rfl) (by omega) (by omega) (fun c2 => ?_) (fun c2 => ?_)
        · refine x_aload_n (E_X4_shut_0 28 rfl) rfl ?_
          refine x_getR (E_X4_shut_0 29 rfl) fl_X4_24 rfl (by decide) rfl ?_
          refine x_iload (E_X4_shut_0 30 rfl) rfl ?_
          refine x_ldc2 (z := 1152921504606846976) (E_X4_shut_0 31 rfl) kc_X4_46 (by decide) ?_
          refine x_last (E_X4_shut_0 32 rfl) rfl (by decide) (by omega) ?_
          refine nx _ ((if_pos rfl).trans ?_) (fun u hu => if_neg hu) (hF.up (by decide))
          unfold shS
          exact (if_pos (Or.inl (by omega))).symm
        · refine x_aload_n (E_X4_shut_0 14 rfl) rfl ?_
          refine x_aload_n (E_X4_shut_0 15 rfl) rfl ?_
          refine x_getR (E_X4_shut_0 16 rfl) fl_X4_21 rfl (by decide) rfl ?_
          refine x_iload (E_X4_shut_0 17 rfl) rfl ?_
          refine x_ialde (f := τ 111) (E_X4_shut_0 18 rfl) rfl (by decide) (by omega) rfl ?_
          refine x_aload_n (E_X4_shut_0 19 rfl) rfl ?_
          refine x_getR (E_X4_shut_0 20 rfl) fl_X4_21 rfl (by decide) rfl ?_
          refine x_iload (E_X4_shut_0 21 rfl) rfl ?_
          refine x_ialde (f := τ 111) (E_X4_shut_0 22 rfl) rfl (by decide) (by omega) rfl ?_
          refine x_iload_n (E_X4_shut_0 23 rfl) rfl ?_
          refine x_ior (E_X4_shut_0 24 rfl) ?_
          refine x_aload_n (E_X4_shut_0 25 rfl) rfl ?_
          refine z_callVi (E_X4_shut_0 26 rfl) ml_X4_76 mv_X4_isParted rfl (by decide) (by decide) (c_X4_isParted (by omega)) (by decide) rfl rfl (Nat.le_of_ble_eq_true rfl) (fun z9 τ9 h9 => ?_)
          obtain ⟨rfl, ⟨rfl, c3⟩ | ⟨rfl, c3⟩⟩ := h9
          · refine x_if_eq (E_X4_shut_0 27 rfl) (by decide) (fun c9 => absurd c9 (by decide)) (fun _ => ?_)
            refine x_aload_n (E_X4_shut_0 28 rfl) rfl ?_
            refine x_getR (E_X4_shut_0 29 rfl) fl_X4_24 rfl (by decide) rfl ?_
            refine x_iload (E_X4_shut_0 30 rfl) rfl ?_
            refine x_ldc2 (z := 1152921504606846976) (E_X4_shut_0 31 rfl) kc_X4_46 (by decide) ?_
            refine x_last (E_X4_shut_0 32 rfl) rfl (by decide) (by omega) ?_
            refine nx _ ((if_pos rfl).trans ?_) (fun u hu => if_neg hu) (hF.up (by decide))
            unfold shS
            rw [e06, e11] at c3
            exact (if_pos (Or.inr (pdB_iff.mpr c3))).symm
          · refine x_if_eq (E_X4_shut_0 27 rfl) (by decide) (fun _ => ?_) (fun c9 => absurd (by decide) c9)
            refine nx τ ?_ (fun u hu => rfl) hF
            unfold shS
            rw [e06, e11] at c3
            rw [if_neg (fun h => h.elim (fun q => by omega) (fun q => c3 (pdB_iff.mp q)))]
            exact hR s (by omega)
  refine x_iconst (E_X4_shut_0 0 rfl) ?_
  refine x_istore (E_X4_shut_0 1 rfl) rfl ?_
  exact loop ((2 : Int) ^ c - 1).toNat 1 σ (by omega) (by omega) rfl (fun u a b => absurd b (by omega)) (fun u _ => rfl) Fr.rf

