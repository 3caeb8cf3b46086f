/-! sale, net -/
variable {l : Launch} {G : GC} {σ : Nat → Int → Int}

theorem c_X6_netOf {h so : Int} (hh : rgi h) (hso : rgi so) (hn : 0 ≤ σ 88 7 ∧ σ 88 7 ≤ 24) (ok : ∀ i, 0 ≤ i → i < σ 88 7 → (0 ≤ σ 89 i ∧ σ 89 i ≤ 7) ∧ (0 ≤ σ 90 i ∧ σ 90 i ≤ 7) ∧ (0 ≤ σ 91 i ∧ σ 91 i ≤ 3) ∧ (1 ≤ σ 92 i ∧ σ 92 i ≤ 99)) : CI l G M_X6_netOf 0 [vr 88, vi h, vi so] σ (IP (netS (σ 89) (σ 90) (σ 91) (σ 92) h so (σ 88 7).toNat) σ) := by
  refine Ct.of rfl (Nat.le_of_ble_eq_true rfl) ?_
  have loop : ∀ (k n : Nat) (s : Int), k + n = (σ 88 7).toNat → s = netS (σ 89) (σ 90) (σ 91) (σ 92) h so n → XI l G M_X6_netOf 0 5 [some (vr 88), some (vi h), some (vi so), some (vi s), some (vi n)] [] σ (IP (netS (σ 89) (σ 90) (σ 91) (σ 92) h so (σ 88 7).toNat) σ) := by
    intro k
    induction k using Nat.strongRecOn with
    | _ k ih =>
    intro n s hk hs
    refine x_iload (E_X6_netOf_0 4 rfl) rfl ?_
    refine x_aload_n (E_X6_netOf_0 5 rfl) rfl ?_
    refine x_getIe (v := σ 88 7) (E_X6_netOf_0 6 rfl) fl_X6_33 rfl (by decide) rfl ?_
    refine x_icmp_ge (E_X6_netOf_0 7 rfl) (by omega) (by omega) (fun c1 => ?_) (fun c1 => ?_)
    · refine x_iload_n (E_X6_netOf_0 46 rfl) rfl ?_
      refine z_iret (E_X6_netOf_0 47 rfl) trivial ?_
      exact ⟨by rw [hs, show n = (σ 88 7).toNat by omega], rfl⟩
    · have o9 := ok n (by omega) (by omega)
      refine x_aload_n (E_X6_netOf_0 8 rfl) rfl ?_
      refine x_getR (E_X6_netOf_0 9 rfl) fl_X6_18 rfl (by decide) rfl ?_
      refine x_iload (E_X6_netOf_0 10 rfl) rfl ?_
      refine x_ialde (f := σ 91) (E_X6_netOf_0 11 rfl) rfl (by decide) (by omega) rfl ?_
      refine x_iload_n (E_X6_netOf_0 12 rfl) rfl ?_
      refine x_icmp_ne (E_X6_netOf_0 13 rfl) (by omega) (by omega) (fun c2 => ?_) (fun c2 => ?_)
      · refine x_iinc (E_X6_netOf_0 44 rfl) rfl rfl ?_
        refine x_goto (E_X6_netOf_0 45 rfl) ?_
        refine ih (k - 1) (by omega) (n + 1) _ (by omega) ?_
        rw [hs, netS]
        simp only [*, if_true, if_false, ne_eq, not_true, not_false_eq_true] <;> omega
      · refine x_iload_n (E_X6_netOf_0 14 rfl) rfl ?_
        refine x_aload_n (E_X6_netOf_0 15 rfl) rfl ?_
        refine x_getR (E_X6_netOf_0 16 rfl) fl_X6_15 rfl (by decide) rfl ?_
        refine x_iload (E_X6_netOf_0 17 rfl) rfl ?_
        refine x_ialde (f := σ 90) (E_X6_netOf_0 18 rfl) rfl (by decide) (by omega) rfl ?_
        refine x_iload_n (E_X6_netOf_0 19 rfl) rfl ?_
        refine x_icmp_ne (E_X6_netOf_0 20 rfl) (by omega) (by omega) (fun c3 => ?_) (fun c3 => ?_)
        · refine x_iconst (E_X6_netOf_0 26 rfl) ?_
          refine x_iadd (E_X6_netOf_0 27 rfl) ?_
          refine x_istore_n (E_X6_netOf_0 28 rfl) rfl ?_
          refine x_iload_n (E_X6_netOf_0 29 rfl) rfl ?_
          refine x_aload_n (E_X6_netOf_0 30 rfl) rfl ?_
          refine x_getR (E_X6_netOf_0 31 rfl) fl_X6_11 rfl (by decide) rfl ?_
          refine x_iload (E_X6_netOf_0 32 rfl) rfl ?_
          refine x_ialde (f := σ 89) (E_X6_netOf_0 33 rfl) rfl (by decide) (by omega) rfl ?_
          refine x_iload_n (E_X6_netOf_0 34 rfl) rfl ?_
          refine x_icmp_ne (E_X6_netOf_0 35 rfl) (by omega) (by omega) (fun c4 => ?_) (fun c4 => ?_)
          · refine x_iconst (E_X6_netOf_0 41 rfl) ?_
            refine x_isub (E_X6_netOf_0 42 rfl) ?_
            refine x_istore_n (E_X6_netOf_0 43 rfl) rfl ?_
            refine x_iinc (E_X6_netOf_0 44 rfl) rfl rfl ?_
            refine x_goto (E_X6_netOf_0 45 rfl) ?_
            refine ih (k - 1) (by omega) (n + 1) _ (by omega) ?_
            rw [hs, netS]
            simp only [*, if_true, if_false, ne_eq, not_true, not_false_eq_true] <;> omega
          · refine x_aload_n (E_X6_netOf_0 36 rfl) rfl ?_
            refine x_getR (E_X6_netOf_0 37 rfl) fl_X6_21 rfl (by decide) rfl ?_
            refine x_iload (E_X6_netOf_0 38 rfl) rfl ?_
            refine x_ialde (f := σ 92) (E_X6_netOf_0 39 rfl) rfl (by decide) (by omega) rfl ?_
            refine x_goto (E_X6_netOf_0 40 rfl) ?_
            refine x_isub (E_X6_netOf_0 42 rfl) ?_
            refine x_istore_n (E_X6_netOf_0 43 rfl) rfl ?_
            refine x_iinc (E_X6_netOf_0 44 rfl) rfl rfl ?_
            refine x_goto (E_X6_netOf_0 45 rfl) ?_
            refine ih (k - 1) (by omega) (n + 1) _ (by omega) ?_
            rw [hs, netS]
            simp only [*, if_true, if_false, ne_eq, not_true, not_false_eq_true] <;> omega
        · refine x_aload_n (E_X6_netOf_0 21 rfl) rfl ?_
          refine x_getR (E_X6_netOf_0 22 rfl) fl_X6_21 rfl (by decide) rfl ?_
          refine x_iload (E_X6_netOf_0 23 rfl) rfl ?_
          refine x_ialde (f := σ 92) (E_X6_netOf_0 24 rfl) rfl (by decide) (by omega) rfl ?_
          refine x_goto (E_X6_netOf_0 25 rfl) ?_
          refine x_iadd (E_X6_netOf_0 27 rfl) ?_
          refine x_istore_n (E_X6_netOf_0 28 rfl) rfl ?_
          refine x_iload_n (E_X6_netOf_0 29 rfl) rfl ?_
          refine x_aload_n (E_X6_netOf_0 30 rfl) rfl ?_
          refine x_getR (E_X6_netOf_0 31 rfl) fl_X6_11 rfl (by decide) rfl ?_
          refine x_iload (E_X6_netOf_0 32 rfl) rfl ?_
          refine x_ialde (f := σ 89) (E_X6_netOf_0 33 rfl) rfl (by decide) (by omega) rfl ?_
          refine x_iload_n (E_X6_netOf_0 34 rfl) rfl ?_
          refine x_icmp_ne (E_X6_netOf_0 35 rfl) (by omega) (by omega) (fun c5 => ?_) (fun c5 => ?_)
          · refine x_iconst (E_X6_netOf_0 41 rfl) ?_
            refine x_isub (E_X6_netOf_0 42 rfl) ?_
            refine x_istore_n (E_X6_netOf_0 43 rfl) rfl ?_
            refine x_iinc (E_X6_netOf_0 44 rfl) rfl rfl ?_
            refine x_goto (E_X6_netOf_0 45 rfl) ?_
            refine ih (k - 1) (by omega) (n + 1) _ (by omega) ?_
            rw [hs, netS]
            simp only [*, if_true, if_false, ne_eq, not_true, not_false_eq_true] <;> omega
          · refine x_aload_n (E_X6_netOf_0 36 rfl) rfl ?_
            refine x_getR (E_X6_netOf_0 37 rfl) fl_X6_21 rfl (by decide) rfl ?_
            refine x_iload (E_X6_netOf_0 38 rfl) rfl ?_
            refine x_ialde (f := σ 92) (E_X6_netOf_0 39 rfl) rfl (by decide) (by omega) rfl ?_
            refine x_goto (E_X6_netOf_0 40 rfl) ?_
            refine x_isub (E_X6_netOf_0 42 rfl) ?_
            refine x_istore_n (E_X6_netOf_0 43 rfl) rfl ?_
            refine x_iinc (E_X6_netOf_0 44 rfl) rfl rfl ?_
            refine x_goto (E_X6_netOf_0 45 rfl) ?_
            refine ih (k - 1) (by omega) (n + 1) _ (by omega) ?_
            rw [hs, netS]
            simp only [*, if_true, if_false, ne_eq, not_true, not_false_eq_true] <;> omega
  refine x_iconst (E_X6_netOf_0 0 rfl) ?_
  refine x_istore_n (E_X6_netOf_0 1 rfl) rfl ?_
  refine x_iconst (E_X6_netOf_0 2 rfl) ?_
  refine x_istore (E_X6_netOf_0 3 rfl) rfl ?_
  exact loop (σ 88 7).toNat 0 0 (by omega) rfl

theorem c_X10_net {h so : Int} (hh : rgi h) (hso : rgi so) (h1 : 0 ≤ σ 88 7 ∧ σ 88 7 ≤ 24) (ok : ∀ i, 0 ≤ i → i < σ 88 7 → (0 ≤ σ 89 i ∧ σ 89 i ≤ 7) ∧ (0 ≤ σ 90 i ∧ σ 90 i ≤ 7) ∧ (0 ≤ σ 91 i ∧ σ 91 i ≤ 3) ∧ (1 ≤ σ 92 i ∧ σ 92 i ≤ 99)) : CI l G M_X10_net 2 [vr 0, vi h, vi so] σ (fun z τ => z = (if ¬ (0 ≤ h ∧ h ≤ 7) then -1001 else if ¬ (0 ≤ so ∧ so ≤ 3) then -1002 else netS (σ 89) (σ 90) (σ 91) (σ 92) h so (σ 88 7).toNat) ∧ σ = τ) := by
  refine Ct.of rfl (Nat.le_of_ble_eq_true rfl) ?_
  refine x_iload_n (E_X10_net_0 0 rfl) rfl ?_
  refine z_callSi (E_X10_net_0 1 rfl) ml_X10_104 ms_X10_isHouse (c_X10_isHouse (by omega)) (by decide) rfl rfl (Nat.le_of_ble_eq_true rfl) (fun z9 τ9 h9 => ?_)
  obtain ⟨rfl, ⟨rfl, c1⟩ | ⟨rfl, c1⟩⟩ := h9
  · refine x_if_ne (E_X10_net_0 2 rfl) (by decide) (fun _ => ?_) (fun c9 => absurd c9 (by decide))
    refine x_iload_n (E_X10_net_0 5 rfl) rfl ?_
    refine z_callSi (E_X10_net_0 6 rfl) ml_X10_111 ms_X10_isSort (c_X10_isSort (by omega)) (by decide) rfl rfl (Nat.le_of_ble_eq_true rfl) (fun z9 τ9 h9 => ?_)
    obtain ⟨rfl, ⟨rfl, c2⟩ | ⟨rfl, c2⟩⟩ := h9
    · refine x_if_eq (E_X10_net_0 7 rfl) (by decide) (fun c9 => absurd c9 (by decide)) (fun _ => ?_)
      refine x_aload_n (E_X10_net_0 8 rfl) rfl ?_
      refine x_getR (E_X10_net_0 9 rfl) fl_X10_75 rfl (by decide) rfl ?_
      refine x_iload_n (E_X10_net_0 10 rfl) rfl ?_
      refine x_iload_n (E_X10_net_0 11 rfl) rfl ?_
      refine z_callVi (E_X10_net_0 12 rfl) ml_X10_328 mv_X6_netOf rfl (by decide) (by decide) (c_X6_netOf (by omega) (by omega) h1 ok) (by decide) rfl rfl (Nat.le_of_ble_eq_true rfl) (fun z9 τ9 h9 => ?_)
      obtain ⟨rfl, rfl⟩ := h9
      refine x_goto (E_X10_net_0 13 rfl) ?_
      refine z_iret (E_X10_net_0 15 rfl) trivial ?_
      exact ⟨(if_n (by omega) (if_n (by omega) rfl)).symm, rfl⟩
    · refine x_if_eq (E_X10_net_0 7 rfl) (by decide) (fun _ => ?_) (fun c9 => absurd (by decide) c9)
      refine x_sipush (z := (-1002)) (E_X10_net_0 14 rfl) (by decide) ?_
      refine z_iret (E_X10_net_0 15 rfl) trivial ?_
      exact ⟨(if_n (by omega) (if_p (by omega) rfl)).symm, rfl⟩
  · refine x_if_ne (E_X10_net_0 2 rfl) (by decide) (fun c9 => absurd c9 (by decide)) (fun _ => ?_)
    refine x_sipush (z := (-1001)) (E_X10_net_0 3 rfl) (by decide) ?_
    refine z_iret (E_X10_net_0 4 rfl) trivial ?_
    exact ⟨(if_p (by omega) rfl).symm, rfl⟩

