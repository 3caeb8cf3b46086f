/-! sums over the story -/
variable {l : Launch} {G : GC} {σ : Nat → Int → Int}
variable {dt : Nat → Int → Int} {hd : Int → Int → Int} {n : Nat} {nl : Int}

theorem c_X7_papersWithCasks {x : Int} (hx : rgi x) (hL : LD dt hd n nl σ) (hD : DOk dt hd n nl) (hy : YOk n nl (dt 6) (SC 45 n nl σ)) : CI l G M_X7_papersWithCasks 0 [vr 45, vi x] σ (IP (sumS (fun w => if (SC 45 n nl σ) 1 w = 1 ∧ 0 < (SC 45 n nl σ) 4 w ∧ (x = -1 ∨ (SC 45 n nl σ) 3 w = x) then 1 else 0) n) σ) := by
  obtain ⟨⟨e8, e9, e11, e12, e13, e14, e3⟩, ⟨e79, e15⟩, -⟩ := id hL
  obtain ⟨n120, nl12, hln, hck, hhd⟩ := id hD
  refine Ct.of rfl (Nat.le_of_ble_eq_true rfl) ?_
  have loop : ∀ (k : Nat) (i s : Int), i = n - k → k ≤ n → s = sumS (fun w => if (SC 45 n nl σ) 1 w = 1 ∧ 0 < (SC 45 n nl σ) 4 w ∧ (x = -1 ∨ (SC 45 n nl σ) 3 w = x) then 1 else 0) i.toNat → XI l G M_X7_papersWithCasks 0 4 [some (vr 45), some (vi x), some (vi s), some (vi i)] [] σ (IP (sumS (fun w => if (SC 45 n nl σ) 1 w = 1 ∧ 0 < (SC 45 n nl σ) 4 w ∧ (x = -1 ∨ (SC 45 n nl σ) 3 w = x) then 1 else 0) n) σ) := by
    intro k
    induction k using Nat.strongRecOn with
    | _ k ih =>
    intro i s hi hk hs
    refine x_iload_n (E_X7_papersWithCasks_0 4 rfl) rfl ?_
    refine x_aload_n (E_X7_papersWithCasks_0 5 rfl) rfl ?_
    refine x_getR (E_X7_papersWithCasks_0 6 rfl) fl_X7_53 rfl (by decide) rfl ?_
    refine x_getIe (v := σ 7 9) (E_X7_papersWithCasks_0 7 rfl) fl_X7_70 rfl (by decide) rfl ?_
    refine x_icmp_ge (E_X7_papersWithCasks_0 8 rfl) (by omega) (by omega) (fun c1 => ?_) (fun c1 => ?_)
    · refine x_iload_n (E_X7_papersWithCasks_0 31 rfl) rfl ?_
      refine z_iret (E_X7_papersWithCasks_0 32 rfl) trivial ?_
      exact ⟨by rw [hs, show i.toNat = n by omega], rfl⟩
    · have g1 : (SC 45 n nl σ) 1 i = σ 46 i := StG_1 (by omega)
      have g2 := (hy.1 i).1
      refine x_aload_n (E_X7_papersWithCasks_0 9 rfl) rfl ?_
      refine x_getR (E_X7_papersWithCasks_0 10 rfl) fl_X7_9 rfl (by decide) rfl ?_
      refine x_iload_n (E_X7_papersWithCasks_0 11 rfl) rfl ?_
      refine x_zalde (f := σ 46) (E_X7_papersWithCasks_0 12 rfl) rfl (by decide) (by omega) rfl ?_
      refine x_if_eq (E_X7_papersWithCasks_0 13 rfl) (by omega) (fun c2 => ?_) (fun c2 => ?_)
      · refine x_iinc (E_X7_papersWithCasks_0 29 rfl) rfl rfl ?_
        refine x_goto (E_X7_papersWithCasks_0 30 rfl) ?_
        refine ih (k - 1) (by omega) _ _ (by omega) (by omega) ?_
        rw [sumS_i (by omega), ← hs]
        first | (rw [if_pos (by omega)]; omega) | (rw [if_neg (by omega)]; omega) | omega
      · have th : (SC 45 n nl σ) 1 i = 1 := by omega
        have rd : (0 ≤ i ∧ i < (n : Int)) ∧ σ 46 i = 1 ∧ (SC 45 n nl σ) 3 i = σ 48 i ∧ (SC 45 n nl σ) 4 i = σ 49 i ∧ (SC 45 n nl σ) 5 i = σ 50 i ∧ (SC 45 n nl σ) 6 i = σ 51 i ∧ (SC 45 n nl σ) 7 i = σ 52 i ∧ (SC 45 n nl σ) 8 i = σ 53 i ∧ (SC 45 n nl σ) 9 i = σ 54 i := StG_rd th
        obtain ⟨d1, d2, d3, d4, d5, d6, d7, d8, d9⟩ := rd
        have yr := hy.2.1 i th
        refine x_aload_n (E_X7_papersWithCasks_0 14 rfl) rfl ?_
        refine x_getR (E_X7_papersWithCasks_0 15 rfl) fl_X7_22 rfl (by decide) rfl ?_
        refine x_iload_n (E_X7_papersWithCasks_0 16 rfl) rfl ?_
        refine x_ialde (f := σ 49) (E_X7_papersWithCasks_0 17 rfl) rfl (by decide) (by omega) rfl ?_
        refine x_if_le (E_X7_papersWithCasks_0 18 rfl) (by omega) (fun c3 => ?_) (fun c3 => ?_)
        · refine x_iinc (E_X7_papersWithCasks_0 29 rfl) rfl rfl ?_
          refine x_goto (E_X7_papersWithCasks_0 30 rfl) ?_
          refine ih (k - 1) (by omega) _ _ (by omega) (by omega) ?_
          rw [sumS_i (by omega), ← hs]
          first | (rw [if_pos (by omega)]; omega) | (rw [if_neg (by omega)]; omega) | omega
        · refine x_iload_n (E_X7_papersWithCasks_0 19 rfl) rfl ?_
          refine x_iconst (E_X7_papersWithCasks_0 20 rfl) ?_
          refine x_icmp_eq (E_X7_papersWithCasks_0 21 rfl) (by omega) (by decide) (fun c4 => ?_) (fun c4 => ?_)
          · refine x_iinc (E_X7_papersWithCasks_0 28 rfl) rfl rfl ?_
            refine x_iinc (E_X7_papersWithCasks_0 29 rfl) rfl rfl ?_
            refine x_goto (E_X7_papersWithCasks_0 30 rfl) ?_
            refine ih (k - 1) (by omega) _ _ (by omega) (by omega) ?_
            rw [sumS_i (by omega), ← hs]
            first | (rw [if_pos (by omega)]; omega) | (rw [if_neg (by omega)]; omega) | omega
          · refine x_aload_n (E_X7_papersWithCasks_0 22 rfl) rfl ?_
            refine x_getR (E_X7_papersWithCasks_0 23 rfl) fl_X7_18 rfl (by decide) rfl ?_
            refine x_iload_n (E_X7_papersWithCasks_0 24 rfl) rfl ?_
            refine x_ialde (f := σ 48) (E_X7_papersWithCasks_0 25 rfl) rfl (by decide) (by omega) rfl ?_
            refine x_iload_n (E_X7_papersWithCasks_0 26 rfl) rfl ?_
            refine x_icmp_ne (E_X7_papersWithCasks_0 27 rfl) (by omega) (by omega) (fun c5 => ?_) (fun c5 => ?_)
            · refine x_iinc (E_X7_papersWithCasks_0 29 rfl) rfl rfl ?_
              refine x_goto (E_X7_papersWithCasks_0 30 rfl) ?_
              refine ih (k - 1) (by omega) _ _ (by omega) (by omega) ?_
              rw [sumS_i (by omega), ← hs]
              first | (rw [if_pos (by omega)]; omega) | (rw [if_neg (by omega)]; omega) | omega
            · refine x_iinc (E_X7_papersWithCasks_0 28 rfl) rfl rfl ?_
              refine x_iinc (E_X7_papersWithCasks_0 29 rfl) rfl rfl ?_
              refine x_goto (E_X7_papersWithCasks_0 30 rfl) ?_
              refine ih (k - 1) (by omega) _ _ (by omega) (by omega) ?_
              rw [sumS_i (by omega), ← hs]
              first | (rw [if_pos (by omega)]; omega) | (rw [if_neg (by omega)]; omega) | omega
  refine x_iconst (E_X7_papersWithCasks_0 0 rfl) ?_
  refine x_istore_n (E_X7_papersWithCasks_0 1 rfl) rfl ?_
  refine x_iconst (E_X7_papersWithCasks_0 2 rfl) ?_
  refine x_istore_n (E_X7_papersWithCasks_0 3 rfl) rfl ?_
  exact loop n 0 0 (by omega) (Nat.le_refl _) rfl

theorem c_X7_lentOn {x : Int} (hx : rgi x) (hL : LD dt hd n nl σ) (hD : DOk dt hd n nl) (hy : YOk n nl (dt 6) (SC 45 n nl σ)) : CI l G M_X7_lentOn 0 [vr 45, vi x] σ (IP (sumS (fun w => if (SC 45 n nl σ) 1 w = 1 ∧ (SC 45 n nl σ) 3 w = x then (SC 45 n nl σ) 8 w else 0) n) σ) := by
  obtain ⟨⟨e8, e9, e11, e12, e13, e14, e3⟩, ⟨e79, e15⟩, -⟩ := id hL
  obtain ⟨n120, nl12, hln, hck, hhd⟩ := id hD
  refine Ct.of rfl (Nat.le_of_ble_eq_true rfl) ?_
  have loop : ∀ (k : Nat) (i s : Int), i = n - k → k ≤ n → s = sumS (fun w => if (SC 45 n nl σ) 1 w = 1 ∧ (SC 45 n nl σ) 3 w = x then (SC 45 n nl σ) 8 w else 0) i.toNat → XI l G M_X7_lentOn 0 4 [some (vr 45), some (vi x), some (vi s), some (vi i)] [] σ (IP (sumS (fun w => if (SC 45 n nl σ) 1 w = 1 ∧ (SC 45 n nl σ) 3 w = x then (SC 45 n nl σ) 8 w else 0) n) σ) := by
    intro k
    induction k using Nat.strongRecOn with
    | _ k ih =>
    intro i s hi hk hs
    refine x_iload_n (E_X7_lentOn_0 4 rfl) rfl ?_
    refine x_aload_n (E_X7_lentOn_0 5 rfl) rfl ?_
    refine x_getR (E_X7_lentOn_0 6 rfl) fl_X7_53 rfl (by decide) rfl ?_
    refine x_getIe (v := σ 7 9) (E_X7_lentOn_0 7 rfl) fl_X7_70 rfl (by decide) rfl ?_
    refine x_icmp_ge (E_X7_lentOn_0 8 rfl) (by omega) (by omega) (fun c1 => ?_) (fun c1 => ?_)
    · refine x_iload_n (E_X7_lentOn_0 29 rfl) rfl ?_
      refine z_iret (E_X7_lentOn_0 30 rfl) trivial ?_
      exact ⟨by rw [hs, show i.toNat = n by omega], rfl⟩
    · have g1 : (SC 45 n nl σ) 1 i = σ 46 i := StG_1 (by omega)
      have g2 := (hy.1 i).1
      refine x_aload_n (E_X7_lentOn_0 9 rfl) rfl ?_
      refine x_getR (E_X7_lentOn_0 10 rfl) fl_X7_9 rfl (by decide) rfl ?_
      refine x_iload_n (E_X7_lentOn_0 11 rfl) rfl ?_
      refine x_zalde (f := σ 46) (E_X7_lentOn_0 12 rfl) rfl (by decide) (by omega) rfl ?_
      refine x_if_eq (E_X7_lentOn_0 13 rfl) (by omega) (fun c2 => ?_) (fun c2 => ?_)
      · refine x_iinc (E_X7_lentOn_0 27 rfl) rfl rfl ?_
        refine x_goto (E_X7_lentOn_0 28 rfl) ?_
        refine ih (k - 1) (by omega) _ _ (by omega) (by omega) ?_
        rw [sumS_i (by omega), ← hs]
        first | (rw [if_pos (by omega)]; omega) | (rw [if_neg (by omega)]; omega) | omega
      · have th : (SC 45 n nl σ) 1 i = 1 := by omega
        have rd : (0 ≤ i ∧ i < (n : Int)) ∧ σ 46 i = 1 ∧ (SC 45 n nl σ) 3 i = σ 48 i ∧ (SC 45 n nl σ) 4 i = σ 49 i ∧ (SC 45 n nl σ) 5 i = σ 50 i ∧ (SC 45 n nl σ) 6 i = σ 51 i ∧ (SC 45 n nl σ) 7 i = σ 52 i ∧ (SC 45 n nl σ) 8 i = σ 53 i ∧ (SC 45 n nl σ) 9 i = σ 54 i := StG_rd th
        obtain ⟨d1, d2, d3, d4, d5, d6, d7, d8, d9⟩ := rd
        have yr := hy.2.1 i th
        refine x_aload_n (E_X7_lentOn_0 14 rfl) rfl ?_
        refine x_getR (E_X7_lentOn_0 15 rfl) fl_X7_18 rfl (by decide) rfl ?_
        refine x_iload_n (E_X7_lentOn_0 16 rfl) rfl ?_
        refine x_ialde (f := σ 48) (E_X7_lentOn_0 17 rfl) rfl (by decide) (by omega) rfl ?_
        refine x_iload_n (E_X7_lentOn_0 18 rfl) rfl ?_
        refine x_icmp_ne (E_X7_lentOn_0 19 rfl) (by omega) (by omega) (fun c3 => ?_) (fun c3 => ?_)
        · refine x_iinc (E_X7_lentOn_0 27 rfl) rfl rfl ?_
          refine x_goto (E_X7_lentOn_0 28 rfl) ?_
          refine ih (k - 1) (by omega) _ _ (by omega) (by omega) ?_
          rw [sumS_i (by omega), ← hs]
          first | (rw [if_pos (by omega)]; omega) | (rw [if_neg (by omega)]; omega) | omega
        · refine x_iload_n (E_X7_lentOn_0 20 rfl) rfl ?_
          refine x_aload_n (E_X7_lentOn_0 21 rfl) rfl ?_
          refine x_getR (E_X7_lentOn_0 22 rfl) fl_X7_34 rfl (by decide) rfl ?_
          refine x_iload_n (E_X7_lentOn_0 23 rfl) rfl ?_
          refine x_ialde (f := σ 53) (E_X7_lentOn_0 24 rfl) rfl (by decide) (by omega) rfl ?_
          refine x_iadd (E_X7_lentOn_0 25 rfl) ?_
          refine x_istore_n (E_X7_lentOn_0 26 rfl) rfl ?_
          refine x_iinc (E_X7_lentOn_0 27 rfl) rfl rfl ?_
          refine x_goto (E_X7_lentOn_0 28 rfl) ?_
          refine ih (k - 1) (by omega) _ _ (by omega) (by omega) ?_
          rw [sumS_i (by omega), ← hs]
          first | (rw [if_pos (by omega)]; omega) | (rw [if_neg (by omega)]; omega) | omega
  refine x_iconst (E_X7_lentOn_0 0 rfl) ?_
  refine x_istore_n (E_X7_lentOn_0 1 rfl) rfl ?_
  refine x_iconst (E_X7_lentOn_0 2 rfl) ?_
  refine x_istore_n (E_X7_lentOn_0 3 rfl) rfl ?_
  exact loop n 0 0 (by omega) (Nat.le_refl _) rfl

theorem c_X7_vainCount  (hL : LD dt hd n nl σ) (hD : DOk dt hd n nl) (hy : YOk n nl (dt 6) (SC 45 n nl σ)) : CI l G M_X7_vainCount 0 [vr 45] σ (IP (sumS (fun w => (SC 45 n nl σ) 2 w) n) σ) := by
  obtain ⟨⟨e8, e9, e11, e12, e13, e14, e3⟩, ⟨e79, e15⟩, -⟩ := id hL
  obtain ⟨n120, nl12, hln, hck, hhd⟩ := id hD
  refine Ct.of rfl (Nat.le_of_ble_eq_true rfl) ?_
  have loop : ∀ (k : Nat) (i s : Int), i = n - k → k ≤ n → s = sumS (fun w => (SC 45 n nl σ) 2 w) i.toNat → XI l G M_X7_vainCount 0 4 [some (vr 45), some (vi s), some (vi i)] [] σ (IP (sumS (fun w => (SC 45 n nl σ) 2 w) n) σ) := by
    intro k
    induction k using Nat.strongRecOn with
    | _ k ih =>
    intro i s hi hk hs
    refine x_iload_n (E_X7_vainCount_0 4 rfl) rfl ?_
    refine x_aload_n (E_X7_vainCount_0 5 rfl) rfl ?_
    refine x_getR (E_X7_vainCount_0 6 rfl) fl_X7_53 rfl (by decide) rfl ?_
    refine x_getIe (v := σ 7 9) (E_X7_vainCount_0 7 rfl) fl_X7_70 rfl (by decide) rfl ?_
    refine x_icmp_ge (E_X7_vainCount_0 8 rfl) (by omega) (by omega) (fun c1 => ?_) (fun c1 => ?_)
    · refine x_iload_n (E_X7_vainCount_0 22 rfl) rfl ?_
      refine z_iret (E_X7_vainCount_0 23 rfl) trivial ?_
      exact ⟨by rw [hs, show i.toNat = n by omega], rfl⟩
    · have g1 : (SC 45 n nl σ) 2 i = σ 47 i := StG_2 (by omega)
      have g2 := (hy.1 i).2
      refine x_iload_n (E_X7_vainCount_0 9 rfl) rfl ?_
      refine x_aload_n (E_X7_vainCount_0 10 rfl) rfl ?_
      refine x_getR (E_X7_vainCount_0 11 rfl) fl_X7_15 rfl (by decide) rfl ?_
      refine x_iload_n (E_X7_vainCount_0 12 rfl) rfl ?_
      refine x_zalde (f := σ 47) (E_X7_vainCount_0 13 rfl) rfl (by decide) (by omega) rfl ?_
      refine x_if_eq (E_X7_vainCount_0 14 rfl) (by omega) (fun c2 => ?_) (fun c2 => ?_)
      · refine x_iconst (E_X7_vainCount_0 17 rfl) ?_
        refine x_iadd (E_X7_vainCount_0 18 rfl) ?_
        refine x_istore_n (E_X7_vainCount_0 19 rfl) rfl ?_
        refine x_iinc (E_X7_vainCount_0 20 rfl) rfl rfl ?_
        refine x_goto (E_X7_vainCount_0 21 rfl) ?_
        refine ih (k - 1) (by omega) _ _ (by omega) (by omega) ?_
        rw [sumS_i (by omega), ← hs]
        first | (rw [if_pos (by omega)]; omega) | (rw [if_neg (by omega)]; omega) | omega
      · refine x_iconst (E_X7_vainCount_0 15 rfl) ?_
        refine x_goto (E_X7_vainCount_0 16 rfl) ?_
        refine x_iadd (E_X7_vainCount_0 18 rfl) ?_
        refine x_istore_n (E_X7_vainCount_0 19 rfl) rfl ?_
        refine x_iinc (E_X7_vainCount_0 20 rfl) rfl rfl ?_
        refine x_goto (E_X7_vainCount_0 21 rfl) ?_
        refine ih (k - 1) (by omega) _ _ (by omega) (by omega) ?_
        rw [sumS_i (by omega), ← hs]
        first | (rw [if_pos (by omega)]; omega) | (rw [if_neg (by omega)]; omega) | omega
  refine x_iconst (E_X7_vainCount_0 0 rfl) ?_
  refine x_istore_n (E_X7_vainCount_0 1 rfl) rfl ?_
  refine x_iconst (E_X7_vainCount_0 2 rfl) ?_
  refine x_istore_n (E_X7_vainCount_0 3 rfl) rfl ?_
  exact loop n 0 0 (by omega) (Nat.le_refl _) rfl

theorem c_X7_casksOf {h so b : Int} (hh : rgi h) (hso : rgi so) (hb : b = 0 ∨ b = 1) (hs2 : ∀ x, 0 ≤ x → x < nl → 0 ≤ σ 2 x ∧ σ 2 x ≤ 3) (hL : LD dt hd n nl σ) (hD : DOk dt hd n nl) (hy : YOk n nl (dt 6) (SC 45 n nl σ)) : CI l G M_X7_casksOf 0 [vr 45, vi h, vi so, vi b] σ (IP (sumS (fun w => if (SC 45 n nl σ) 1 w = 1 ∧ σ 2 ((SC 45 n nl σ) 3 w) = so ∧ (if b = 1 then (SC 45 n nl σ) 6 w else (SC 45 n nl σ) 5 w) = h then (SC 45 n nl σ) 4 w else 0) n) σ) := by
  obtain ⟨⟨e8, e9, e11, e12, e13, e14, e3⟩, ⟨e79, e15⟩, -⟩ := id hL
  obtain ⟨n120, nl12, hln, hck, hhd⟩ := id hD
  refine Ct.of rfl (Nat.le_of_ble_eq_true rfl) ?_
  have loop : ∀ (k : Nat) (i s : Int), i = n - k → k ≤ n → s = sumS (fun w => if (SC 45 n nl σ) 1 w = 1 ∧ σ 2 ((SC 45 n nl σ) 3 w) = so ∧ (if b = 1 then (SC 45 n nl σ) 6 w else (SC 45 n nl σ) 5 w) = h then (SC 45 n nl σ) 4 w else 0) i.toNat → XI l G M_X7_casksOf 0 6 [some (vr 45), some (vi h), some (vi so), some (vi b), some (vi s), some (vi i)] [] σ (IP (sumS (fun w => if (SC 45 n nl σ) 1 w = 1 ∧ σ 2 ((SC 45 n nl σ) 3 w) = so ∧ (if b = 1 then (SC 45 n nl σ) 6 w else (SC 45 n nl σ) 5 w) = h then (SC 45 n nl σ) 4 w else 0) n) σ) := by
    intro k
    induction k using Nat.strongRecOn with
    | _ k ih =>
    intro i s hi hk hs
    refine x_iload (E_X7_casksOf_0 4 rfl) rfl ?_
    refine x_aload_n (E_X7_casksOf_0 5 rfl) rfl ?_
    refine x_getR (E_X7_casksOf_0 6 rfl) fl_X7_53 rfl (by decide) rfl ?_
    refine x_getIe (v := σ 7 9) (E_X7_casksOf_0 7 rfl) fl_X7_70 rfl (by decide) rfl ?_
    refine x_icmp_ge (E_X7_casksOf_0 8 rfl) (by omega) (by omega) (fun c1 => ?_) (fun c1 => ?_)
    · refine x_iload (E_X7_casksOf_0 46 rfl) rfl ?_
      refine z_iret (E_X7_casksOf_0 47 rfl) trivial ?_
      exact ⟨by rw [hs, show i.toNat = n by omega], rfl⟩
    · have g1 : (SC 45 n nl σ) 1 i = σ 46 i := StG_1 (by omega)
      have g2 := (hy.1 i).1
      refine x_aload_n (E_X7_casksOf_0 9 rfl) rfl ?_
      refine x_getR (E_X7_casksOf_0 10 rfl) fl_X7_9 rfl (by decide) rfl ?_
      refine x_iload (E_X7_casksOf_0 11 rfl) rfl ?_
      refine x_zalde (f := σ 46) (E_X7_casksOf_0 12 rfl) rfl (by decide) (by omega) rfl ?_
      refine x_if_eq (E_X7_casksOf_0 13 rfl) (by omega) (fun c2 => ?_) (fun c2 => ?_)
      · refine x_iinc (E_X7_casksOf_0 44 rfl) rfl rfl ?_
        refine x_goto (E_X7_casksOf_0 45 rfl) ?_
        refine ih (k - 1) (by omega) _ _ (by omega) (by omega) ?_
        rw [sumS_i (by omega), ← hs]
        first | (rw [if_pos (by omega)]; omega) | (rw [if_neg (by omega)]; omega) | omega
      · have th : (SC 45 n nl σ) 1 i = 1 := by omega
        have rd : (0 ≤ i ∧ i < (n : Int)) ∧ σ 46 i = 1 ∧ (SC 45 n nl σ) 3 i = σ 48 i ∧ (SC 45 n nl σ) 4 i = σ 49 i ∧ (SC 45 n nl σ) 5 i = σ 50 i ∧ (SC 45 n nl σ) 6 i = σ 51 i ∧ (SC 45 n nl σ) 7 i = σ 52 i ∧ (SC 45 n nl σ) 8 i = σ 53 i ∧ (SC 45 n nl σ) 9 i = σ 54 i := StG_rd th
        obtain ⟨d1, d2, d3, d4, d5, d6, d7, d8, d9⟩ := rd
        have yr := hy.2.1 i th
        have so9 := hs2 (σ 48 i) (by omega) (by omega)
        have d3b : σ 2 ((SC 45 n nl σ) 3 i) = σ 2 (σ 48 i) := by rw [d3]
        refine x_aload_n (E_X7_casksOf_0 14 rfl) rfl ?_
        refine x_getR (E_X7_casksOf_0 15 rfl) fl_X7_49 rfl (by decide) rfl ?_
        refine x_getR (E_X7_casksOf_0 16 rfl) fl_X7_165 rfl (by decide) rfl ?_
        refine x_aload_n (E_X7_casksOf_0 17 rfl) rfl ?_
        refine x_getR (E_X7_casksOf_0 18 rfl) fl_X7_18 rfl (by decide) rfl ?_
        refine x_iload (E_X7_casksOf_0 19 rfl) rfl ?_
        refine x_ialde (f := σ 48) (E_X7_casksOf_0 20 rfl) rfl (by decide) (by omega) rfl ?_
        refine x_ialde (f := σ 2) (E_X7_casksOf_0 21 rfl) rfl (by decide) (by omega) rfl ?_
        refine x_iload_n (E_X7_casksOf_0 22 rfl) rfl ?_
        refine x_icmp_ne (E_X7_casksOf_0 23 rfl) (by omega) (by omega) (fun c3 => ?_) (fun c3 => ?_)
        · refine x_iinc (E_X7_casksOf_0 44 rfl) rfl rfl ?_
          refine x_goto (E_X7_casksOf_0 45 rfl) ?_
          refine ih (k - 1) (by omega) _ _ (by omega) (by omega) ?_
          rw [sumS_i (by omega), ← hs]
          first | (rw [if_pos (by omega)]; omega) | (rw [if_neg (by omega)]; omega) | omega
        · refine x_iload_n (E_X7_casksOf_0 24 rfl) rfl ?_
          refine x_if_eq (E_X7_casksOf_0 25 rfl) (by omega) (fun c4 => ?_) (fun c4 => ?_)
          · refine x_aload_n (E_X7_casksOf_0 31 rfl) rfl ?_
            refine x_getR (E_X7_casksOf_0 32 rfl) fl_X7_25 rfl (by decide) rfl ?_
            refine x_iload (E_X7_casksOf_0 33 rfl) rfl ?_
            refine x_ialde (f := σ 50) (E_X7_casksOf_0 34 rfl) rfl (by decide) (by omega) rfl ?_
            refine x_iload_n (E_X7_casksOf_0 35 rfl) rfl ?_
            refine x_icmp_ne (E_X7_casksOf_0 36 rfl) (by omega) (by omega) (fun c5 => ?_) (fun c5 => ?_)
            · refine x_iinc (E_X7_casksOf_0 44 rfl) rfl rfl ?_
              refine x_goto (E_X7_casksOf_0 45 rfl) ?_
              refine ih (k - 1) (by omega) _ _ (by omega) (by omega) ?_
              rw [sumS_i (by omega), ← hs]
              first | (rw [if_pos (by omega)]; omega) | (rw [if_neg (by omega)]; omega) | omega
            · refine x_iload (E_X7_casksOf_0 37 rfl) rfl ?_
              refine x_aload_n (E_X7_casksOf_0 38 rfl) rfl ?_
              refine x_getR (E_X7_casksOf_0 39 rfl) fl_X7_22 rfl (by decide) rfl ?_
              refine x_iload (E_X7_casksOf_0 40 rfl) rfl ?_
              refine x_ialde (f := σ 49) (E_X7_casksOf_0 41 rfl) rfl (by decide) (by omega) rfl ?_
              refine x_iadd (E_X7_casksOf_0 42 rfl) ?_
              refine x_istore (E_X7_casksOf_0 43 rfl) rfl ?_
              refine x_iinc (E_X7_casksOf_0 44 rfl) rfl rfl ?_
              refine x_goto (E_X7_casksOf_0 45 rfl) ?_
              refine ih (k - 1) (by omega) _ _ (by omega) (by omega) ?_
              rw [sumS_i (by omega), ← hs]
              first | (rw [if_pos (by omega)]; omega) | (rw [if_neg (by omega)]; omega) | omega
          · refine x_aload_n (E_X7_casksOf_0 26 rfl) rfl ?_
            refine x_getR (E_X7_casksOf_0 27 rfl) fl_X7_28 rfl (by decide) rfl ?_
            refine x_iload (E_X7_casksOf_0 28 rfl) rfl ?_
            refine x_ialde (f := σ 51) (E_X7_casksOf_0 29 rfl) rfl (by decide) (by omega) rfl ?_
            refine x_goto (E_X7_casksOf_0 30 rfl) ?_
            refine x_iload_n (E_X7_casksOf_0 35 rfl) rfl ?_
            refine x_icmp_ne (E_X7_casksOf_0 36 rfl) (by omega) (by omega) (fun c6 => ?_) (fun c6 => ?_)
            · refine x_iinc (E_X7_casksOf_0 44 rfl) rfl rfl ?_
              refine x_goto (E_X7_casksOf_0 45 rfl) ?_
              refine ih (k - 1) (by omega) _ _ (by omega) (by omega) ?_
              rw [sumS_i (by omega), ← hs]
              first | (rw [if_pos (by omega)]; omega) | (rw [if_neg (by omega)]; omega) | omega
            · refine x_iload (E_X7_casksOf_0 37 rfl) rfl ?_
              refine x_aload_n (E_X7_casksOf_0 38 rfl) rfl ?_
              refine x_getR (E_X7_casksOf_0 39 rfl) fl_X7_22 rfl (by decide) rfl ?_
              refine x_iload (E_X7_casksOf_0 40 rfl) rfl ?_
              refine x_ialde (f := σ 49) (E_X7_casksOf_0 41 rfl) rfl (by decide) (by omega) rfl ?_
              refine x_iadd (E_X7_casksOf_0 42 rfl) ?_
              refine x_istore (E_X7_casksOf_0 43 rfl) rfl ?_
              refine x_iinc (E_X7_casksOf_0 44 rfl) rfl rfl ?_
              refine x_goto (E_X7_casksOf_0 45 rfl) ?_
              refine ih (k - 1) (by omega) _ _ (by omega) (by omega) ?_
              rw [sumS_i (by omega), ← hs]
              first | (rw [if_pos (by omega)]; omega) | (rw [if_neg (by omega)]; omega) | omega
  refine x_iconst (E_X7_casksOf_0 0 rfl) ?_
  refine x_istore (E_X7_casksOf_0 1 rfl) rfl ?_
  refine x_iconst (E_X7_casksOf_0 2 rfl) ?_
  refine x_istore (E_X7_casksOf_0 3 rfl) rfl ?_
  exact loop n 0 0 (by omega) (Nat.le_refl _) rfl

theorem c_X7_isHadOtherwise {w : Int} (hw : 0 ≤ w ∧ w < 120) (h1 : rgi (σ 50 w)) (h2 : rgi (σ 51 w)) (h3 : rgi (σ 63 w)) (h4 : rgi (σ 64 w)) : CI l G M_X7_isHadOtherwise 0 [vr 45, vr 58, vi w] σ (BP (σ 50 w ≠ σ 63 w ∨ σ 51 w ≠ σ 64 w) σ) := by
  refine Ct.of rfl (Nat.le_of_ble_eq_true rfl) ?_
  refine x_aload_n (E_X7_isHadOtherwise_0 0 rfl) rfl ?_
  refine x_getR (E_X7_isHadOtherwise_0 1 rfl) fl_X7_25 rfl (by decide) rfl ?_
  refine x_iload_n (E_X7_isHadOtherwise_0 2 rfl) rfl ?_
  refine x_ialde (f := σ 50) (E_X7_isHadOtherwise_0 3 rfl) rfl (by decide) (by omega) rfl ?_
  refine x_aload_n (E_X7_isHadOtherwise_0 4 rfl) rfl ?_
  refine x_getR (E_X7_isHadOtherwise_0 5 rfl) fl_X7_25 rfl (by decide) rfl ?_
  refine x_iload_n (E_X7_isHadOtherwise_0 6 rfl) rfl ?_
  refine x_ialde (f := σ 63) (E_X7_isHadOtherwise_0 7 rfl) rfl (by decide) (by omega) rfl ?_
  refine x_icmp_ne (E_X7_isHadOtherwise_0 8 rfl) (by omega) (by omega) (fun c1 => ?_) (fun c1 => ?_)
  · refine x_iconst (E_X7_isHadOtherwise_0 18 rfl) ?_
    refine x_goto (E_X7_isHadOtherwise_0 19 rfl) ?_
    refine z_iret (E_X7_isHadOtherwise_0 21 rfl) (Or.inr rfl) ?_
    exact ⟨rfl, by first | exact Or.inl ⟨rfl, by omega⟩ | exact Or.inr ⟨rfl, by omega⟩⟩
  · refine x_aload_n (E_X7_isHadOtherwise_0 9 rfl) rfl ?_
    refine x_getR (E_X7_isHadOtherwise_0 10 rfl) fl_X7_28 rfl (by decide) rfl ?_
    refine x_iload_n (E_X7_isHadOtherwise_0 11 rfl) rfl ?_
    refine x_ialde (f := σ 51) (E_X7_isHadOtherwise_0 12 rfl) rfl (by decide) (by omega) rfl ?_
    refine x_aload_n (E_X7_isHadOtherwise_0 13 rfl) rfl ?_
    refine x_getR (E_X7_isHadOtherwise_0 14 rfl) fl_X7_28 rfl (by decide) rfl ?_
    refine x_iload_n (E_X7_isHadOtherwise_0 15 rfl) rfl ?_
    refine x_ialde (f := σ 64) (E_X7_isHadOtherwise_0 16 rfl) rfl (by decide) (by omega) rfl ?_
    refine x_icmp_eq (E_X7_isHadOtherwise_0 17 rfl) (by omega) (by omega) (fun c2 => ?_) (fun c2 => ?_)
    · refine x_iconst (E_X7_isHadOtherwise_0 20 rfl) ?_
      refine z_iret (E_X7_isHadOtherwise_0 21 rfl) (Or.inl rfl) ?_
      exact ⟨rfl, by first | exact Or.inl ⟨rfl, by omega⟩ | exact Or.inr ⟨rfl, by omega⟩⟩
    · refine x_iconst (E_X7_isHadOtherwise_0 18 rfl) ?_
      refine x_goto (E_X7_isHadOtherwise_0 19 rfl) ?_
      refine z_iret (E_X7_isHadOtherwise_0 21 rfl) (Or.inr rfl) ?_
      exact ⟨rfl, by first | exact Or.inl ⟨rfl, by omega⟩ | exact Or.inr ⟨rfl, by omega⟩⟩
theorem c_X7_unlike (hL : LD dt hd n nl σ) (hD : DOk dt hd n nl) (hy : YOk n nl (dt 6) (SC 45 n nl σ)) (he : YOk n nl (dt 6) (SC 58 n nl σ)) : CI l G M_X7_unlike 1 [vr 45, vr 58] σ (IP (sumS (fun w => if (SC 45 n nl σ) 1 w = 1 ∧ (SC 58 n nl σ) 1 w = 1 then (if (SC 45 n nl σ) 5 w ≠ (SC 58 n nl σ) 5 w ∨ (SC 45 n nl σ) 6 w ≠ (SC 58 n nl σ) 6 w then 1 else 0) else (if (SC 45 n nl σ) 1 w ≠ (SC 58 n nl σ) 1 w then 1 else 0)) n) σ) := by
  obtain ⟨⟨e8, e9, e11, e12, e13, e14, e3⟩, ⟨e79, e15⟩, -⟩ := id hL
  obtain ⟨n120, nl12, hln, hck, hhd⟩ := id hD
  refine Ct.of rfl (Nat.le_of_ble_eq_true rfl) ?_
  have loop : ∀ (k : Nat) (i s : Int) (o : Option AV), i = n - k → k ≤ n → s = sumS (fun w => if (SC 45 n nl σ) 1 w = 1 ∧ (SC 58 n nl σ) 1 w = 1 then (if (SC 45 n nl σ) 5 w ≠ (SC 58 n nl σ) 5 w ∨ (SC 45 n nl σ) 6 w ≠ (SC 58 n nl σ) 6 w then 1 else 0) else (if (SC 45 n nl σ) 1 w ≠ (SC 58 n nl σ) 1 w then 1 else 0)) i.toNat → XI l G M_X7_unlike 1 4 [some (vr 45), some (vr 58), some (vi s), some (vi i), o] [] σ (IP (sumS (fun w => if (SC 45 n nl σ) 1 w = 1 ∧ (SC 58 n nl σ) 1 w = 1 then (if (SC 45 n nl σ) 5 w ≠ (SC 58 n nl σ) 5 w ∨ (SC 45 n nl σ) 6 w ≠ (SC 58 n nl σ) 6 w then 1 else 0) else (if (SC 45 n nl σ) 1 w ≠ (SC 58 n nl σ) 1 w then 1 else 0)) n) σ) := by
    intro k
    induction k using Nat.strongRecOn with
    | _ k ih =>
    intro i s o hi hk hs
    have both : (SC 45 n nl σ) 1 i = 1 → (SC 58 n nl σ) 1 i = 1 → 0 ≤ i → i < (n : Int) → XI l G M_X7_unlike 1 45 [some (vr 45), some (vr 58), some (vi s), some (vi i), some (vi 1)] [] σ (IP (sumS (fun w => if (SC 45 n nl σ) 1 w = 1 ∧ (SC 58 n nl σ) 1 w = 1 then (if (SC 45 n nl σ) 5 w ≠ (SC 58 n nl σ) 5 w ∨ (SC 45 n nl σ) 6 w ≠ (SC 58 n nl σ) 6 w then 1 else 0) else (if (SC 45 n nl σ) 1 w ≠ (SC 58 n nl σ) 1 w then 1 else 0)) n) σ) := by
      intro th thE i0 i1
      have rd := StG_rd th
      have rdE := StG_rd thE
      have d5 : (SC 45 n nl σ) 5 i = σ 50 i := rd.2.2.2.2.1
      have d6 : (SC 45 n nl σ) 6 i = σ 51 i := rd.2.2.2.2.2.1
      have q5 : (SC 58 n nl σ) 5 i = σ 63 i := rdE.2.2.2.2.1
      have q6 : (SC 58 n nl σ) 6 i = σ 64 i := rdE.2.2.2.2.2.1
      have yr := hy.2.1 i th
      have yE := he.2.1 i thE
      refine x_aload_n (E_X7_unlike_0 25 rfl) rfl ?_
      refine x_aload_n (E_X7_unlike_0 26 rfl) rfl ?_
      refine x_iload_n (E_X7_unlike_0 27 rfl) rfl ?_
      refine z_callVi (E_X7_unlike_0 28 rfl) ml_X7_168 mv_X7_isHadOtherwise rfl (by decide) (by decide) (c_X7_isHadOtherwise (by omega) (by omega) (by omega) (by omega) (by omega)) (by decide) rfl rfl (Nat.le_of_ble_eq_true rfl) (fun z9 τ9 h9 => ?_)
      obtain ⟨rfl, ⟨rfl, c1⟩ | ⟨rfl, c1⟩⟩ := h9
      · refine x_if_eq (E_X7_unlike_0 29 rfl) (by decide) (fun c9 => absurd c9 (by decide)) (fun _ => ?_)
        refine x_goto (E_X7_unlike_0 30 rfl) ?_
        refine x_iinc (E_X7_unlike_0 40 rfl) rfl rfl ?_
        refine x_iinc (E_X7_unlike_0 41 rfl) rfl rfl ?_
        refine x_goto (E_X7_unlike_0 42 rfl) ?_
        refine ih (k - 1) (by omega) _ _ _ (by omega) (by omega) ?_
        rw [sumS_i (by omega), ← hs, if_pos ⟨th, thE⟩]
        first | (rw [if_pos (by omega)]) | (rw [if_neg (by omega)]; omega)
      · refine x_if_eq (E_X7_unlike_0 29 rfl) (by decide) (fun _ => ?_) (fun c9 => absurd (by decide) c9)
        refine x_iinc (E_X7_unlike_0 41 rfl) rfl rfl ?_
        refine x_goto (E_X7_unlike_0 42 rfl) ?_
        refine ih (k - 1) (by omega) _ _ _ (by omega) (by omega) ?_
        rw [sumS_i (by omega), ← hs, if_pos ⟨th, thE⟩]
        first | (rw [if_pos (by omega)]) | (rw [if_neg (by omega)]; omega)
    have one : ¬ ((SC 45 n nl σ) 1 i = 1 ∧ (SC 58 n nl σ) 1 i = 1) → 0 ≤ i → i < (n : Int) → XI l G M_X7_unlike 1 57 [some (vr 45), some (vr 58), some (vi s), some (vi i), some (vi 0)] [] σ (IP (sumS (fun w => if (SC 45 n nl σ) 1 w = 1 ∧ (SC 58 n nl σ) 1 w = 1 then (if (SC 45 n nl σ) 5 w ≠ (SC 58 n nl σ) 5 w ∨ (SC 45 n nl σ) 6 w ≠ (SC 58 n nl σ) 6 w then 1 else 0) else (if (SC 45 n nl σ) 1 w ≠ (SC 58 n nl σ) 1 w then 1 else 0)) n) σ) := by
      intro nb i0 i1
      have g1 : (SC 45 n nl σ) 1 i = σ 46 i := StG_1 (by omega)
      have g2 := (hy.1 i).1
      have h1 : (SC 58 n nl σ) 1 i = σ 59 i := StG_1 (by omega)
      have h2 := (he.1 i).1
      refine x_aload_n (E_X7_unlike_0 31 rfl) rfl ?_
      refine x_getR (E_X7_unlike_0 32 rfl) fl_X7_9 rfl (by decide) rfl ?_
      refine x_iload_n (E_X7_unlike_0 33 rfl) rfl ?_
      refine x_zalde (f := σ 46) (E_X7_unlike_0 34 rfl) rfl (by decide) (by omega) rfl ?_
      refine x_aload_n (E_X7_unlike_0 35 rfl) rfl ?_
      refine x_getR (E_X7_unlike_0 36 rfl) fl_X7_9 rfl (by decide) rfl ?_
      refine x_iload_n (E_X7_unlike_0 37 rfl) rfl ?_
      refine x_zalde (f := σ 59) (E_X7_unlike_0 38 rfl) rfl (by decide) (by omega) rfl ?_
      refine x_icmp_eq (E_X7_unlike_0 39 rfl) (by omega) (by omega) (fun c1 => ?_) (fun c1 => ?_)
      · refine x_iinc (E_X7_unlike_0 41 rfl) rfl rfl ?_
        refine x_goto (E_X7_unlike_0 42 rfl) ?_
        refine ih (k - 1) (by omega) _ _ _ (by omega) (by omega) ?_
        rw [sumS_i (by omega), ← hs, if_neg nb]
        first | (rw [if_pos (by omega)]) | (rw [if_neg (by omega)]; omega)
      · refine x_iinc (E_X7_unlike_0 40 rfl) rfl rfl ?_
        refine x_iinc (E_X7_unlike_0 41 rfl) rfl rfl ?_
        refine x_goto (E_X7_unlike_0 42 rfl) ?_
        refine ih (k - 1) (by omega) _ _ _ (by omega) (by omega) ?_
        rw [sumS_i (by omega), ← hs, if_neg nb]
        first | (rw [if_pos (by omega)]) | (rw [if_neg (by omega)]; omega)
    refine x_iload_n (E_X7_unlike_0 4 rfl) rfl ?_
    refine x_aload_n (E_X7_unlike_0 5 rfl) rfl ?_
    refine x_getR (E_X7_unlike_0 6 rfl) fl_X7_53 rfl (by decide) rfl ?_
    refine x_getIe (v := σ 7 9) (E_X7_unlike_0 7 rfl) fl_X7_70 rfl (by decide) rfl ?_
    refine x_icmp_ge (E_X7_unlike_0 8 rfl) (by omega) (by omega) (fun c1 => ?_) (fun c1 => ?_)
    · refine x_iload_n (E_X7_unlike_0 43 rfl) rfl ?_
      refine z_iret (E_X7_unlike_0 44 rfl) trivial ?_
      exact ⟨by rw [hs, show i.toNat = n by omega], rfl⟩
    · have g1 : (SC 45 n nl σ) 1 i = σ 46 i := StG_1 (by omega)
      have g2 := (hy.1 i).1
      have h1 : (SC 58 n nl σ) 1 i = σ 59 i := StG_1 (by omega)
      have h2 := (he.1 i).1
      refine x_aload_n (E_X7_unlike_0 9 rfl) rfl ?_
      refine x_getR (E_X7_unlike_0 10 rfl) fl_X7_9 rfl (by decide) rfl ?_
      refine x_iload_n (E_X7_unlike_0 11 rfl) rfl ?_
      refine x_zalde (f := σ 46) (E_X7_unlike_0 12 rfl) rfl (by decide) (by omega) rfl ?_
      refine x_if_eq (E_X7_unlike_0 13 rfl) (by omega) (fun c2 => ?_) (fun c2 => ?_)
      · refine x_iconst (E_X7_unlike_0 21 rfl) ?_
        refine x_istore (E_X7_unlike_0 22 rfl) rfl ?_
        refine x_iload (E_X7_unlike_0 23 rfl) rfl ?_
        refine x_if_eq (E_X7_unlike_0 24 rfl) (by decide) (fun _ => ?_) (fun c9 => absurd rfl c9)
        exact one (by omega) (by omega) (by omega)
      · refine x_aload_n (E_X7_unlike_0 14 rfl) rfl ?_
        refine x_getR (E_X7_unlike_0 15 rfl) fl_X7_9 rfl (by decide) rfl ?_
        refine x_iload_n (E_X7_unlike_0 16 rfl) rfl ?_
        refine x_zalde (f := σ 59) (E_X7_unlike_0 17 rfl) rfl (by decide) (by omega) rfl ?_
        refine x_if_eq (E_X7_unlike_0 18 rfl) (by omega) (fun c3 => ?_) (fun c3 => ?_)
        · refine x_iconst (E_X7_unlike_0 21 rfl) ?_
          refine x_istore (E_X7_unlike_0 22 rfl) rfl ?_
          refine x_iload (E_X7_unlike_0 23 rfl) rfl ?_
          refine x_if_eq (E_X7_unlike_0 24 rfl) (by decide) (fun _ => ?_) (fun c9 => absurd rfl c9)
          exact one (by omega) (by omega) (by omega)
        · refine x_iconst (E_X7_unlike_0 19 rfl) ?_
          refine x_goto (E_X7_unlike_0 20 rfl) ?_
          refine x_istore (E_X7_unlike_0 22 rfl) rfl ?_
          refine x_iload (E_X7_unlike_0 23 rfl) rfl ?_
          refine x_if_eq (E_X7_unlike_0 24 rfl) (by decide) (fun c9 => absurd c9 (by decide)) (fun _ => ?_)
          exact both (by omega) (by omega) (by omega) (by omega)
  refine x_iconst (E_X7_unlike_0 0 rfl) ?_
  refine x_istore_n (E_X7_unlike_0 1 rfl) rfl ?_
  refine x_iconst (E_X7_unlike_0 2 rfl) ?_
  refine x_istore_n (E_X7_unlike_0 3 rfl) rfl ?_
  exact loop n 0 0 none (by omega) (Nat.le_refl _) rfl

