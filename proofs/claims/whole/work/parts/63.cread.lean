/-! the class reads a text -/
variable {l : Launch} {G : GC} {σ : Nat → Int → Int}

def pop4 (s : Int) : Int := s % 2 + s / 2 % 2 + s / 4 % 2 + s / 8 % 2
theorem ky_dec : ∀ s, s < 16 → ∀ k, k < 4 → bAnd (bShr ((s : Nat) : Int) ((k : Nat) : Int)) 1 = ((s : Nat) : Int) / 2 ^ k % 2 ∧ (((s : Nat) : Int) / 2 ^ k % 2 ≠ 1 → bOr ((s : Nat) : Int) (bShl 1 ((k : Nat) : Int)) = ((s : Nat) : Int) + 2 ^ k ∧ ((s : Nat) : Int) + 2 ^ k < 16 ∧ pop4 (((s : Nat) : Int) + 2 ^ k) = pop4 ((s : Nat) : Int) + 1) := by decide
theorem ky_bit {s k : Int} (hs : 0 ≤ s ∧ s < 16) (hk : 0 ≤ k ∧ k < 4) : bAnd (bShr s k) 1 = s / 2 ^ k.toNat % 2 ∧ (s / 2 ^ k.toNat % 2 ≠ 1 → bOr s (bShl 1 k) = s + 2 ^ k.toNat ∧ s + 2 ^ k.toNat < 16 ∧ pop4 (s + 2 ^ k.toNat) = pop4 s + 1) := by
  have := ky_dec s.toNat (by omega) k.toNat (by omega)
  rw [show ((s.toNat : Nat) : Int) = s by omega, show ((k.toNat : Nat) : Int) = k by omega] at this
  exact this
theorem pop4_full {s : Int} (hs : 0 ≤ s ∧ s < 16) (h : pop4 s = 4) {k : Int} (hk : 0 ≤ k ∧ k < 4) : s / 2 ^ k.toNat % 2 = 1 := by
  have : s = 15 := by
    have := (by decide : ∀ j, j < 16 → pop4 ((j : Nat) : Int) = 4 → ((j : Nat) : Int) = 15) s.toNat (by omega)
    rw [show ((s.toNat : Nat) : Int) = s by omega] at this
    exact this h
  subst this
  have := (by decide : ∀ j, j < 4 → (15 : Int) / 2 ^ j % 2 = 1) k.toNat (by omega)
  exact this
theorem pop4_rg {s : Int} : pop4 s ≤ 4 := by unfold pop4; omega
theorem ky_or {v a : Int} {n : Nat} (hn : n ≤ 3) (hv : 0 ≤ v ∧ v < 8 ^ n) (ha : 0 ≤ a ∧ a ≤ 4) : bOr v (bShl a (3 * (n : Int))) = v + a * 8 ^ n ∧ v + a * 8 ^ n < 8 ^ (n + 1) := by
  have e8 : (8 : Int) ^ n = ((2 ^ (3 * n) : Nat) : Int) := by
    match n, hn with
    | 0, _ => rfl
    | 1, _ => rfl
    | 2, _ => rfl
    | 3, _ => rfl
  have p8 : (2 : Nat) ^ (3 * n) ≤ 512 := (by decide : ∀ j : Nat, j ≤ 3 → 2 ^ (3 * j) ≤ 512) n hn
  obtain ⟨a', rfl⟩ := Int.eq_ofNat_of_zero_le ha.1
  obtain ⟨v', rfl⟩ := Int.eq_ofNat_of_zero_le hv.1
  have lt : v' < 2 ^ (3 * n) := by omega
  have m1 : a' * 2 ^ (3 * n) ≤ 4 * 512 := Nat.mul_le_mul (by omega) p8
  have or1 : v' ||| a' * 2 ^ (3 * n) = v' + a' * 2 ^ (3 * n) := by
    rw [Nat.mul_comm a', Nat.or_comm, ← Nat.two_pow_add_eq_or_of_lt lt, Nat.add_comm]
  have sh := bShl_n (a := a') (k := 3 * n) (by omega) (by omega)
  rw [show ((3 * n : Nat) : Int) = 3 * (n : Int) by omega] at sh
  constructor
  · show bOr ((v' : Nat) : Int) (bShl ((a' : Nat) : Int) _) = _
    rw [sh, bOr_n (by omega), or1, e8]
    push_cast
    rfl
  · rw [Int.pow_succ, e8]
    have : ((a' : Nat) : Int) * ((2 ^ (3 * n) : Nat) : Int) ≤ 4 * ((2 ^ (3 * n) : Nat) : Int) := Int.mul_le_mul_of_nonneg_right (by omega) (by omega)
    show ((v' : Nat) : Int) + ((a' : Nat) : Int) * _ < _
    omega
/-- what the keys' reading leaves -/
def KyP (K : Int × Int × Int × Nat × Int × Int) (σ : Nat → Int → Int) (z : Int) (τ : Nat → Int → Int) : Prop := ((K.1 = 0 ∧ τ 41 5 = 0 ∧ τ 41 6 = σ 41 6 ∧ τ 41 7 = K.2.2.1 ∧ z = K.2.2.2.2.2) ∨ (K.1 ≠ 0 ∧ τ 41 5 = K.1 ∧ τ 41 6 = K.2.1)) ∧ (rgi (τ 41 5) ∧ 0 ≤ τ 41 7 ∧ τ 41 7 ≤ σ 41 1) ∧ Fr [41] σ τ ∧ Fo 41 [5, 6, 7, 8] σ τ
set_option maxHeartbeats 1000000 in
theorem c_X5_takeKeys (hf : σ 41 5 = 0) (h4 : 0 ≤ σ 41 4 ∧ σ 41 4 < 10) (ht : TxOk (σ 41 1) (σ 42)) (h0 : 0 ≤ σ 41 7 ∧ σ 41 7 ≤ σ 41 1) : CI l G M_X5_takeKeys 7 [vr 41] σ (KyP (kyQ (σ 42) (σ 41 1) 5 (σ 41 7) 0 0 0 0) σ) := by
  refine Ct.of rfl (Nat.le_of_ble_eq_true rfl) ?_
  generalize hK : kyQ (σ 42) (σ 41 1) 5 (σ 41 7) 0 0 0 0 = K
  have done : ∀ (o : Option AV) (vl seen mo n : Int) (τ : Nat → Int → Int), KyP K σ vl τ → rgi mo → rgi n → (4 < n ∨ mo = 0 ∨ τ 41 5 ≠ 0) → XI l G M_X5_takeKeys 7 9 [some (vr 41), some (vi vl), some (vi seen), some (vi mo), some (vi n), o] [] τ (KyP K σ) := by
    intro o vl seen mo n τ hk hm hn hc
    have h5 := hk.2.1.1
    refine x_iload (E_X5_takeKeys_0 8 rfl) rfl ?_
    refine x_iconst (E_X5_takeKeys_0 9 rfl) ?_
    refine x_icmp_gt (E_X5_takeKeys_0 10 rfl) (by omega) (by decide) (fun c1 => ?_) (fun c1 => ?_)
    · refine x_iload_n (E_X5_takeKeys_1 1 rfl) rfl ?_
      refine z_iret (E_X5_takeKeys_1 2 rfl) trivial ?_
      exact hk
    · refine x_iload_n (E_X5_takeKeys_0 11 rfl) rfl ?_
      refine x_if_eq (E_X5_takeKeys_0 12 rfl) (by omega) (fun c2 => ?_) (fun c2 => ?_)
      · refine x_iload_n (E_X5_takeKeys_1 1 rfl) rfl ?_
        refine z_iret (E_X5_takeKeys_1 2 rfl) trivial ?_
        exact hk
      · refine x_aload_n (E_X5_takeKeys_0 13 rfl) rfl ?_
        refine x_getIe (v := τ 41 5) (E_X5_takeKeys_0 14 rfl) fl_X5_34 rfl (by decide) rfl ?_
        refine x_if_ne (E_X5_takeKeys_0 15 rfl) (by omega) (fun c3 => ?_) (fun c3 => ?_)
        · refine x_iload_n (E_X5_takeKeys_1 1 rfl) rfl ?_
          refine z_iret (E_X5_takeKeys_1 2 rfl) trivial ?_
          exact hk
        · exfalso; omega
  have loop : ∀ (t n : Nat) (o : Option AV) (vl seen row : Int) (τ : Nat → Int → Int), n + t = 5 → kyQ (σ 42) (σ 41 1) t (τ 41 7) seen n row vl = K → (0 ≤ seen ∧ seen < 16) → pop4 seen = n → (0 ≤ vl ∧ vl < 8 ^ n) → τ 41 5 = 0 → τ 41 6 = σ 41 6 → (0 ≤ τ 41 7 ∧ τ 41 7 ≤ σ 41 1) → Fr [41] σ τ → Fo 41 [5, 6, 7, 8] σ τ → XI l G M_X5_takeKeys 7 9 [some (vr 41), some (vi vl), some (vi seen), some (vi 1), some (vi n), o] [] τ (KyP K σ) := by
    intro t
    induction t with
    | zero => intro n o vl seen row τ hn hq hs hp; exact absurd hp (by have := pop4_rg (s := seen); omega)
    | succ t ih =>
    intro n o vl seen row τ hn hq hs hp hv t5 t6 t7 hF hO
    have e1 := hO 1 (by decide)
    have e42 : τ 42 = σ 42 := hF 42 (by decide)
    have tt : TxOk (τ 41 1) (τ 42) := by rw [e1, e42]; exact ht
    have n4 := pop4_rg (s := seen)
    have br := bl_rg (tx := σ 42) t7.2
    have wr := we_rg (tx := σ 42) t7.2
    have kr : (wkS (σ 42) (σ 41 1) 5 4 (τ 41 7)) = -1 ∨ (5 ≤ (wkS (σ 42) (σ 41 1) 5 4 (τ 41 7)) ∧ (wkS (σ 42) (σ 41 1) 5 4 (τ 41 7)) < 5 + ((4 : Nat) : Int)) := lkF_rg
    refine x_iload (E_X5_takeKeys_0 8 rfl) rfl ?_
    refine x_iconst (E_X5_takeKeys_0 9 rfl) ?_
    refine x_icmp_gt (E_X5_takeKeys_0 10 rfl) (by omega) (by decide) (fun c1 => ?_) (fun c1 => ?_)
    · exfalso; omega
    · refine x_iload_n (E_X5_takeKeys_0 11 rfl) rfl ?_
      refine x_if_eq (E_X5_takeKeys_0 12 rfl) (by omega) (fun c2 => ?_) (fun c2 => ?_)
      · exfalso; omega
      · refine x_aload_n (E_X5_takeKeys_0 13 rfl) rfl ?_
        refine x_getIe (v := τ 41 5) (E_X5_takeKeys_0 14 rfl) fl_X5_34 rfl (by decide) rfl ?_
        refine x_if_ne (E_X5_takeKeys_0 15 rfl) (by omega) (fun c3 => ?_) (fun c3 => ?_)
        · exfalso; omega
        · refine x_aload_n (E_X5_takeKeys_0 16 rfl) rfl ?_
          refine x_iconst (E_X5_takeKeys_0 17 rfl) ?_
          refine x_bipush (z := 8) (E_X5_takeKeys_0 18 rfl) (by decide) ?_
          refine z_callVi (E_X5_takeKeys_0 19 rfl) ml_X5_44 mv_X5_takeWord rfl (by decide) (by decide) (c_X5_takeWord (a := 5) (b := 8) (n := 4) (by omega) tt (by omega)) (by decide) rfl rfl (Nat.le_of_ble_eq_true rfl) (fun v9 τ9 h9 => ?_)
          unfold TwP at h9
          rw [e1, e42] at h9
          obtain ⟨z9, s9, a9, f9, w9, F9, O9⟩ := h9
          have l9 := O9 1 (by decide)
          have x9 : τ9 42 = τ 42 := F9 42 (by decide)
          have t9 : TxOk (τ9 41 1) (τ9 42) := by rw [l9, x9]; exact tt
          have G9 : Fr [41] σ τ9 := Fr.trans hF F9 (fun k h => h) (fun k h => h)
          have P9 : Fo 41 [5, 6, 7, 8] σ τ9 := Fo.trans hO O9 (fun k h => h) (fun k h => h)
          have f9r : rgi (τ9 41 5) := by rw [f9]; split <;> omega
          refine x_istore (E_X5_takeKeys_0 20 rfl) rfl ?_
          refine x_iload (E_X5_takeKeys_0 21 rfl) rfl ?_
          refine x_iconst (E_X5_takeKeys_0 22 rfl) ?_
          refine x_icmp_eq (E_X5_takeKeys_0 23 rfl) (by omega) (by decide) (fun c4 => ?_) (fun c4 => ?_)
          · refine x_aload_n (E_X5_takeKeys_0 36 rfl) rfl ?_
            refine x_getIe (v := τ9 41 5) (E_X5_takeKeys_0 37 rfl) fl_X5_34 rfl (by decide) rfl ?_
            refine x_if_ne (E_X5_takeKeys_0 38 rfl) (by omega) (fun c5 => ?_) (fun c5 => ?_)
            · have hk : (wkS (σ 42) (σ 41 1) 5 4 (τ 41 7)) = -1 := Classical.byContradiction (fun h => by rw [if_neg h] at z9; omega)
              rw [if_pos hk] at a9 f9 w9
              have hq : (if (wkS (σ 42) (σ 41 1) 5 4 (τ 41 7)) = -1 then _ else if seen / 2 ^ ((wkS (σ 42) (σ 41 1) 5 4 (τ 41 7)) - 5).toNat % 2 = 1 then _ else if (blS (σ 42) (σ 41 1) (weS (σ 42) (σ 41 1) (τ 41 7))) < σ 41 1 ∧ σ 42 (blS (σ 42) (σ 41 1) (weS (σ 42) (σ 41 1) (τ 41 7))) = 44 then _ else _) = K := hq
              rw [if_pos hk] at hq
              refine x_iinc (E_X5_takeKeys_0 59 rfl) rfl rfl ?_
              refine x_goto (E_X5_takeKeys_1 0 rfl) ?_
              refine done _ _ _ _ _ _ ?_ (by decide) (by omega) (Or.inr (Or.inr (by omega)))
              rw [← hq]
              exact ⟨Or.inr ⟨(show (1 : Int) ≠ 0 by decide), f9, w9⟩, ⟨f9r, by omega, by omega⟩, G9, P9⟩
            · exfalso
              have hk : (wkS (σ 42) (σ 41 1) 5 4 (τ 41 7)) = -1 := Classical.byContradiction (fun h => by rw [if_neg h] at z9; omega)
              rw [if_pos hk] at f9
              omega
          · have hk : ¬ (wkS (σ 42) (σ 41 1) 5 4 (τ 41 7)) = -1 := fun h => by rw [if_pos h] at z9; omega
            rw [if_neg hk] at z9 a9 f9 w9
            have kb := ky_bit (s := seen) (k := v9) hs (by omega)
            have kb2 : seen / 2 ^ v9.toNat % 2 = 0 ∨ seen / 2 ^ v9.toNat % 2 = 1 := by omega
            rw [show v9.toNat = ((wkS (σ 42) (σ 41 1) 5 4 (τ 41 7)) - 5).toNat by omega] at kb kb2
            refine x_iload_n (E_X5_takeKeys_0 24 rfl) rfl ?_
            refine x_iload (E_X5_takeKeys_0 25 rfl) rfl ?_
            refine x_ishr (E_X5_takeKeys_0 26 rfl) ?_
            refine x_iconst (E_X5_takeKeys_0 27 rfl) ?_
            refine x_iand (E_X5_takeKeys_0 28 rfl) ?_
            refine x_iconst (E_X5_takeKeys_0 29 rfl) ?_
            refine x_icmp_ne (E_X5_takeKeys_0 30 rfl) (by omega) (by decide) (fun c6 => ?_) (fun c6 => ?_)
            · refine x_aload_n (E_X5_takeKeys_0 36 rfl) rfl ?_
              refine x_getIe (v := τ9 41 5) (E_X5_takeKeys_0 37 rfl) fl_X5_34 rfl (by decide) rfl ?_
              refine x_if_ne (E_X5_takeKeys_0 38 rfl) (by omega) (fun c7 => ?_) (fun c7 => ?_)
              · exfalso; omega
              · have hb : ¬ seen / 2 ^ ((wkS (σ 42) (σ 41 1) 5 4 (τ 41 7)) - 5).toNat % 2 = 1 := by omega
                have hq : (if (wkS (σ 42) (σ 41 1) 5 4 (τ 41 7)) = -1 then _ else if seen / 2 ^ ((wkS (σ 42) (σ 41 1) 5 4 (τ 41 7)) - 5).toNat % 2 = 1 then _ else if (blS (σ 42) (σ 41 1) (weS (σ 42) (σ 41 1) (τ 41 7))) < σ 41 1 ∧ σ 42 (blS (σ 42) (σ 41 1) (weS (σ 42) (σ 41 1) (τ 41 7))) = 44 then _ else _) = K := hq
                rw [if_neg hk, if_neg hb] at hq
                have kb3 := kb.2 hb
                have p0 : (0 : Int) < 2 ^ ((wkS (σ 42) (σ 41 1) 5 4 (τ 41 7)) - 5).toNat := Int.pow_pos (by decide)
                have n3 : n ≤ 3 := Classical.byContradiction (fun h => hb (pop4_full hs (by omega) (by omega)))
                have ko := ky_or (v := vl) (a := v9 + 1) n3 hv (by omega)
                have p8 : (0 : Int) ≤ (v9 + 1) * 8 ^ n := Int.mul_nonneg (by omega) (Int.pow_nonneg (by decide))
                have br2 := bl_rg (tx := σ 42) (p := (weS (σ 42) (σ 41 1) (τ 41 7))) wr.2
                refine x_iload_n (E_X5_takeKeys_0 39 rfl) rfl ?_
                refine x_iconst (E_X5_takeKeys_0 40 rfl) ?_
                refine x_iload (E_X5_takeKeys_0 41 rfl) rfl ?_
                refine x_ishl (E_X5_takeKeys_0 42 rfl) ?_
                refine x_ior (E_X5_takeKeys_0 43 rfl) ?_
                refine x_istore_n (E_X5_takeKeys_0 44 rfl) rfl ?_
                refine x_iload_n (E_X5_takeKeys_0 45 rfl) rfl ?_
                refine x_iload (E_X5_takeKeys_0 46 rfl) rfl ?_
                refine x_iconst (E_X5_takeKeys_0 47 rfl) ?_
                refine x_iadd (E_X5_takeKeys_0 48 rfl) ?_
                refine x_iconst (E_X5_takeKeys_0 49 rfl) ?_
                refine x_iload (E_X5_takeKeys_0 50 rfl) rfl ?_
                refine x_imul (E_X5_takeKeys_0 51 rfl) ?_
                refine x_ishl (E_X5_takeKeys_0 52 rfl) ?_
                refine x_ior (E_X5_takeKeys_0 53 rfl) ?_
                refine x_istore_n (E_X5_takeKeys_0 54 rfl) rfl ?_
                refine x_aload_n (E_X5_takeKeys_0 55 rfl) rfl ?_
                refine x_bipush (z := 44) (E_X5_takeKeys_0 56 rfl) (by decide) ?_
                refine z_callVi (E_X5_takeKeys_0 57 rfl) ml_X5_78 mv_X5_takeIf rfl (by decide) (by decide) (c_X5_takeIf (by omega) t9 (by omega)) (by decide) rfl rfl (Nat.le_of_ble_eq_true rfl) (fun z7 τ7 h7 => ?_)
                rw [l9, x9, e1, e42, a9] at h7
                obtain ⟨h7, F7, O7⟩ := h7
                have G7 : Fr [41] σ τ7 := Fr.trans G9 F7 (fun k h => h) (fun k h => h)
                have P7 : Fo 41 [5, 6, 7, 8] σ τ7 := Fo.trans P9 O7 (fun k h => h) (by decide)
                have f7 := O7 5 (by decide)
                have w7 := O7 6 (by decide)
                refine x_istore_n (E_X5_takeKeys_0 58 rfl) rfl ?_
                refine x_iinc (E_X5_takeKeys_0 59 rfl) rfl rfl ?_
                refine x_goto (E_X5_takeKeys_1 0 rfl) ?_
                rw [kb3.1, ko.1, show v9 + 1 = (wkS (σ 42) (σ 41 1) 5 4 (τ 41 7)) - 4 by omega]
                rw [show v9 + 1 = (wkS (σ 42) (σ 41 1) 5 4 (τ 41 7)) - 4 by omega] at ko p8
                rcases h7 with ⟨rfl, c7, t7'⟩ | ⟨rfl, c7, t7'⟩
                · rw [if_pos c7] at hq
                  rw [← t7'] at hq
                  exact ih (n + 1) _ _ _ _ τ7 (by omega) hq (by omega) (by rw [kb3.2.2, hp]; rfl) (by omega) (by omega) (by omega) (by omega) G7 P7
                · rw [if_neg c7] at hq
                  refine done _ _ _ _ _ _ ?_ (by decide) (by omega) (Or.inr (Or.inl rfl))
                  rw [← hq]
                  exact ⟨Or.inl ⟨rfl, by omega, by omega, t7', rfl⟩, ⟨by omega, by omega, by omega⟩, G7, P7⟩
            · refine x_aload_n (E_X5_takeKeys_0 31 rfl) rfl ?_
              refine x_iconst (E_X5_takeKeys_0 32 rfl) ?_
              refine x_aload_n (E_X5_takeKeys_0 33 rfl) rfl ?_
              refine x_getIe (v := τ9 41 8) (E_X5_takeKeys_0 34 rfl) fl_X5_48 rfl (by decide) rfl ?_
              refine z_callVv (E_X5_takeKeys_0 35 rfl) ml_X5_51 mv_X5_fail rfl (by decide) (by decide) c_X5_fail (by decide) rfl rfl (Nat.le_of_ble_eq_true rfl) (fun τ8 h8 => ?_)
              have f8 : τ8 41 5 = 4 := by rw [h8]; rfl
              refine x_aload_n (E_X5_takeKeys_0 36 rfl) rfl ?_
              refine x_getIe (v := τ8 41 5) (E_X5_takeKeys_0 37 rfl) fl_X5_34 rfl (by decide) rfl ?_
              refine x_if_ne (E_X5_takeKeys_0 38 rfl) (by omega) (fun c8 => ?_) (fun c8 => ?_)
              · have hq : (if (wkS (σ 42) (σ 41 1) 5 4 (τ 41 7)) = -1 then _ else if seen / 2 ^ ((wkS (σ 42) (σ 41 1) 5 4 (τ 41 7)) - 5).toNat % 2 = 1 then _ else if (blS (σ 42) (σ 41 1) (weS (σ 42) (σ 41 1) (τ 41 7))) < σ 41 1 ∧ σ 42 (blS (σ 42) (σ 41 1) (weS (σ 42) (σ 41 1) (τ 41 7))) = 44 then _ else _) = K := hq
                rw [if_neg hk, if_pos (by omega)] at hq
                refine x_iinc (E_X5_takeKeys_0 59 rfl) rfl rfl ?_
                refine x_goto (E_X5_takeKeys_1 0 rfl) ?_
                refine done _ _ _ _ _ _ ?_ (by decide) (by omega) (Or.inr (Or.inr (by omega)))
                rw [← hq, h8]
                exact ⟨Or.inr ⟨(show (4 : Int) ≠ 0 by decide), rfl, s9⟩, ⟨(by decide : rgi 4), show 0 ≤ τ9 41 7 by omega, show τ9 41 7 ≤ _ by omega⟩, (G9.up (by decide)).up (by decide), (P9.up (by decide)).up (by decide)⟩
              · exfalso; omega
  refine x_iconst (E_X5_takeKeys_0 0 rfl) ?_
  refine x_istore_n (E_X5_takeKeys_0 1 rfl) rfl ?_
  refine x_iconst (E_X5_takeKeys_0 2 rfl) ?_
  refine x_istore_n (E_X5_takeKeys_0 3 rfl) rfl ?_
  refine x_iconst (E_X5_takeKeys_0 4 rfl) ?_
  refine x_istore_n (E_X5_takeKeys_0 5 rfl) rfl ?_
  refine x_iconst (E_X5_takeKeys_0 6 rfl) ?_
  refine x_istore (E_X5_takeKeys_0 7 rfl) rfl ?_
  exact loop 5 0 none 0 0 0 σ rfl hK (by omega) rfl (by decide) hf rfl h0 Fr.rf Fo.rf

