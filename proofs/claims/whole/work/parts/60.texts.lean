/-! texts: length, charAt, spelling -/
variable {l : Launch} {G : GC} {σ : Nat → Int → Int}

/-- byte z of text i -/
def chq (i : Nat) (z : Int) : Int := ((bytq.getD i []).getD z.toNat 0).toInt
theorem chq_all : ∀ i, i < 13 → ∀ z, z < lenq.getD i 0 → 97 ≤ chq i (z : Nat) ∧ chq i (z : Nat) ≤ 122 := by decide +kernel
theorem lenq_all : ∀ i, i < 13 → 2 ≤ lenq.getD i 0 ∧ lenq.getD i 0 ≤ 6 := by decide
theorem c_J0_coder {i : Nat} (hi : i < 13) : CI l G M_J0_coder_7d493 0 [vr (1010 + i)] σ (IP 0 σ) := by
  refine Ct.of rfl (Nat.le_of_ble_eq_true rfl) ?_
  refine x_getsZ (E_J0_coder_7d493_0 0 rfl) sl_J0_38 ?_
  refine x_if_eq (E_J0_coder_7d493_0 1 rfl) (by decide) (fun c9 => absurd c9 (by decide)) (fun _ => ?_)
  refine x_aload_n (E_J0_coder_7d493_0 2 rfl) rfl ?_
  refine x_strC (E_J0_coder_7d493_0 3 rfl) hi sl_J0_15 ?_
  refine x_goto (E_J0_coder_7d493_0 4 rfl) ?_
  exact z_iret (E_J0_coder_7d493_0 6 rfl) rfl ⟨rfl, rfl⟩
theorem c_J0_isLatin1 {i : Nat} (hi : i < 13) : CI l G M_J0_isLatin1_aae02 0 [vr (1010 + i)] σ (IP 1 σ) := by
  refine Ct.of rfl (Nat.le_of_ble_eq_true rfl) ?_
  refine x_getsZ (E_J0_isLatin1_aae02_0 0 rfl) sl_J0_38 ?_
  refine x_if_eq (E_J0_isLatin1_aae02_0 1 rfl) (by decide) (fun c9 => absurd c9 (by decide)) (fun _ => ?_)
  refine x_aload_n (E_J0_isLatin1_aae02_0 2 rfl) rfl ?_
  refine x_strC (E_J0_isLatin1_aae02_0 3 rfl) hi sl_J0_15 ?_
  refine x_if_ne (E_J0_isLatin1_aae02_0 4 rfl) (by decide) (fun c9 => absurd rfl c9) (fun _ => ?_)
  refine x_iconst (E_J0_isLatin1_aae02_0 5 rfl) ?_
  refine x_goto (E_J0_isLatin1_aae02_0 6 rfl) ?_
  exact z_iret (E_J0_isLatin1_aae02_0 8 rfl) (Or.inr rfl) ⟨rfl, rfl⟩
theorem c_J0_length {i : Nat} (hi : i < 13) : CI l G M_J0_length_8abf5 1 [vr (1010 + i)] σ (IP (lenq.getD i 0 : Nat) σ) := by
  have h6 := lenq_all i hi
  refine Ct.of rfl (Nat.le_of_ble_eq_true rfl) ?_
  refine x_aload_n (E_J0_length_8abf5_0 0 rfl) rfl ?_
  refine x_strV (E_J0_length_8abf5_0 1 rfl) hi sl_J0_9 ?_
  refine x_strL (E_J0_length_8abf5_0 2 rfl) hi rfl ?_
  refine x_aload_n (E_J0_length_8abf5_0 3 rfl) rfl ?_
  refine x_callVS (E_J0_length_8abf5_0 4 rfl) ml_J0_335 mv_J0_coder_7d493 hi rfl (c_J0_coder hi) (by decide) ⟨Nat.zero_le _, Nat.zero_le _⟩ rfl rfl (Nat.le_of_ble_eq_true rfl) (fun r9 S9 q9 => ?_)
  obtain ⟨z9, τ9, rfl, rfl, h9⟩ := q9
  obtain ⟨rfl, rfl⟩ := h9
  refine x_ishr (E_J0_length_8abf5_0 5 rfl) ?_
  refine z_iret (E_J0_length_8abf5_0 6 rfl) trivial ⟨?_, rfl⟩
  have := bShr_n (a := lenq.getD i 0) (k := 0) (by omega) (by decide)
  rw [show ((0 : Nat) : Int) = 0 from rfl] at this
  rw [this]
  simp
theorem c_J3_checkIndex {a b : Int} {r : Option Nat} (ha : 0 ≤ a ∧ a < b) (hb : b ≤ 1000) : CI l G M_J3_checkIndex_8e157 0 [vi a, vi b, .inr (.inr r)] σ (IP a σ) := by
  refine Ct.of rfl (Nat.le_of_ble_eq_true rfl) ?_
  refine x_iload_n (E_J3_checkIndex_8e157_0 0 rfl) rfl ?_
  refine x_if_lt (E_J3_checkIndex_8e157_0 1 rfl) (by omega) (fun c9 => absurd c9 (by omega)) (fun _ => ?_)
  refine x_iload_n (E_J3_checkIndex_8e157_0 2 rfl) rfl ?_
  refine x_iload_n (E_J3_checkIndex_8e157_0 3 rfl) rfl ?_
  refine x_icmp_lt (E_J3_checkIndex_8e157_0 4 rfl) (by omega) (by omega) (fun _ => ?_) (fun c9 => absurd ha.2 c9)
  refine x_iload_n (E_J3_checkIndex_8e157_0 10 rfl) rfl ?_
  exact z_iret (E_J3_checkIndex_8e157_0 11 rfl) trivial ⟨rfl, rfl⟩
theorem c_J0_checkIndex {a b : Int} (ha : 0 ≤ a ∧ a < b) (hb : b ≤ 1000) : CV l G M_J0_checkIndex_df160 1 [vi a, vi b] σ (fun τ => τ = σ) := by
  refine Ct.of rfl (Nat.le_of_ble_eq_true rfl) ?_
  refine x_iload_n (E_J0_checkIndex_df160_0 0 rfl) rfl ?_
  refine x_iload_n (E_J0_checkIndex_df160_0 1 rfl) rfl ?_
  refine x_getsF (E_J0_checkIndex_df160_0 2 rfl) sl_J0_1053 (fun r => ?_)
  refine z_callSi (E_J0_checkIndex_df160_0 3 rfl) ml_J0_1059 ms_J3_checkIndex_8e157 (c_J3_checkIndex (r := r) ha hb) (by decide) rfl rfl (Nat.le_of_ble_eq_true rfl) (fun z9 τ9 h9 => ?_)
  obtain ⟨rfl, rfl⟩ := h9
  refine x_pop (E_J0_checkIndex_df160_0 4 rfl) ?_
  exact z_vret (E_J0_checkIndex_df160_0 5 rfl) trivial rfl
theorem c_J1_charAt {i : Nat} {z : Int} (hi : i < 13) (hz : 0 ≤ z ∧ z < (lenq.getD i 0 : Nat)) : CI l G M_J1_charAt_3b067 2 [vr (1030 + i), vi z] σ (IP (chq i z) σ) := by
  have h6 := lenq_all i hi
  have hc := chq_all i hi z.toNat (by omega)
  rw [show ((z.toNat : Nat) : Int) = z by omega] at hc
  refine Ct.of rfl (Nat.le_of_ble_eq_true rfl) ?_
  refine x_iload_n (E_J1_charAt_3b067_0 0 rfl) rfl ?_
  refine x_aload_n (E_J1_charAt_3b067_0 1 rfl) rfl ?_
  refine x_strL (E_J1_charAt_3b067_0 2 rfl) hi rfl ?_
  refine x_callS (E_J1_charAt_3b067_0 3 rfl) ml_J1_9 ms_J0_checkIndex_df160 (c_J0_checkIndex hz (by omega)) (by decide) ⟨Nat.zero_le _, Nat.zero_le _⟩ rfl rfl (Nat.le_of_ble_eq_true rfl) (fun r9 S9 q9 => ?_)
  obtain ⟨τ9, rfl, rfl, rfl⟩ := q9
  refine x_aload_n (E_J1_charAt_3b067_0 4 rfl) rfl ?_
  refine x_iload_n (E_J1_charAt_3b067_0 5 rfl) rfl ?_
  refine x_strB (v := chq i z) (E_J1_charAt_3b067_0 6 rfl) hi hz (by omega) (Int32.ofInt_toInt _).symm ?_
  refine x_sipush (z := 255) (E_J1_charAt_3b067_0 7 rfl) (by decide) ?_
  refine x_iand (E_J1_charAt_3b067_0 8 rfl) ?_
  rw [bAnd_255, show chq i z % 256 = chq i z by omega]
  refine x_i2c (E_J1_charAt_3b067_0 9 rfl) (by omega) ?_
  exact z_iret (E_J1_charAt_3b067_0 10 rfl) (show 0 ≤ chq i z ∧ chq i z < 65536 by omega) ⟨rfl, rfl⟩
theorem c_J0_charAt {i : Nat} {z : Int} (hi : i < 13) (hz : 0 ≤ z ∧ z < (lenq.getD i 0 : Nat)) : CI l G M_J0_charAt_5068e 4 [vr (1010 + i), vi z] σ (IP (chq i z) σ) := by
  have hc := chq_all i hi z.toNat (by omega)
  rw [show ((z.toNat : Nat) : Int) = z by omega] at hc
  refine Ct.of rfl (Nat.le_of_ble_eq_true rfl) ?_
  refine x_aload_n (E_J0_charAt_5068e_0 0 rfl) rfl ?_
  refine x_callVS (E_J0_charAt_5068e_0 1 rfl) ml_J0_492 mv_J0_isLatin1_aae02 hi rfl (c_J0_isLatin1 hi) (by decide) ⟨Nat.zero_le _, Nat.zero_le _⟩ rfl rfl (Nat.le_of_ble_eq_true rfl) (fun r9 S9 q9 => ?_)
  obtain ⟨z9, τ9, rfl, rfl, h9⟩ := q9
  obtain ⟨rfl, rfl⟩ := h9
  refine x_if_eq (E_J0_charAt_5068e_0 2 rfl) (by decide) (fun c9 => absurd c9 (by decide)) (fun _ => ?_)
  refine x_aload_n (E_J0_charAt_5068e_0 3 rfl) rfl ?_
  refine x_strV (E_J0_charAt_5068e_0 4 rfl) hi sl_J0_9 ?_
  refine x_iload_n (E_J0_charAt_5068e_0 5 rfl) rfl ?_
  refine z_callSi (E_J0_charAt_5068e_0 6 rfl) ml_J0_495 ms_J1_charAt_3b067 (c_J1_charAt hi hz) (by decide) rfl rfl (Nat.le_of_ble_eq_true rfl) (fun z9 τ9 h9 => ?_)
  obtain ⟨rfl, rfl⟩ := h9
  exact z_iret (E_J0_charAt_5068e_0 7 rfl) (show 0 ≤ chq i z ∧ chq i z < 65536 by omega) ⟨rfl, rfl⟩
/-- which text spelling gives -/
def spI (k : Int) : Nat := [0, 1, 2, 3, 4, 0, 5, 6, 7, 8, 9, 10, 11, 12].getD k.toNat 12

set_option maxRecDepth 10000 in
theorem c_X5_spelling {k : Int} (hk : 0 ≤ k ∧ k ≤ 13) : Ct l G M_X5_spelling 0 0 0 [vi k] (Wd σ) (fun r S' => r = some (vr (1010 + spI k)) ∧ S' = Wd σ) := by
  refine Ct.of rfl (Nat.le_of_ble_eq_true rfl) ?_
  refine x_iload_n (E_X5_spelling_0 0 rfl) rfl ?_
  by_cases w0 : k = 0
  · subst w0
    refine x_tsw (t := 68) (E_X5_spelling_0 1 rfl) (by decide) (by decide) (by decide) ?_
    refine x_ldcS (i := 0) (E_X5_spelling_0 2 rfl) rfl rfl ?_
    exact x_ret (r := some (vr (1010 + 0))) (E_X5_spelling_0 3 rfl) trivial (Nat.zero_le _) (Nat.zero_le _) ⟨rfl, rfl⟩
  by_cases w1 : k = 1
  · subst w1
    refine x_tsw (t := 71) (E_X5_spelling_0 1 rfl) (by decide) (by decide) (by decide) ?_
    refine x_ldcS (i := 1) (E_X5_spelling_0 4 rfl) rfl rfl ?_
    exact x_ret (r := some (vr (1010 + 1))) (E_X5_spelling_0 5 rfl) trivial (Nat.zero_le _) (Nat.zero_le _) ⟨rfl, rfl⟩
  by_cases w2 : k = 2
  · subst w2
    refine x_tsw (t := 74) (E_X5_spelling_0 1 rfl) (by decide) (by decide) (by decide) ?_
    refine x_ldcS (i := 2) (E_X5_spelling_0 6 rfl) rfl rfl ?_
    exact x_ret (r := some (vr (1010 + 2))) (E_X5_spelling_0 7 rfl) trivial (Nat.zero_le _) (Nat.zero_le _) ⟨rfl, rfl⟩
  by_cases w3 : k = 3
  · subst w3
    refine x_tsw (t := 77) (E_X5_spelling_0 1 rfl) (by decide) (by decide) (by decide) ?_
    refine x_ldcS (i := 3) (E_X5_spelling_0 8 rfl) rfl rfl ?_
    exact x_ret (r := some (vr (1010 + 3))) (E_X5_spelling_0 9 rfl) trivial (Nat.zero_le _) (Nat.zero_le _) ⟨rfl, rfl⟩
  by_cases w4 : k = 4
  · subst w4
    refine x_tsw (t := 80) (E_X5_spelling_0 1 rfl) (by decide) (by decide) (by decide) ?_
    refine x_ldcS (i := 4) (E_X5_spelling_0 10 rfl) rfl rfl ?_
    exact x_ret (r := some (vr (1010 + 4))) (E_X5_spelling_0 11 rfl) trivial (Nat.zero_le _) (Nat.zero_le _) ⟨rfl, rfl⟩
  by_cases w5 : k = 5
  · subst w5
    refine x_tsw (t := 83) (E_X5_spelling_0 1 rfl) (by decide) (by decide) (by decide) ?_
    refine x_ldcS (i := 0) (E_X5_spelling_0 12 rfl) rfl rfl ?_
    exact x_ret (r := some (vr (1010 + 0))) (E_X5_spelling_0 13 rfl) trivial (Nat.zero_le _) (Nat.zero_le _) ⟨rfl, rfl⟩
  by_cases w6 : k = 6
  · subst w6
    refine x_tsw (t := 86) (E_X5_spelling_0 1 rfl) (by decide) (by decide) (by decide) ?_
    refine x_ldcS (i := 5) (E_X5_spelling_0 14 rfl) rfl rfl ?_
    exact x_ret (r := some (vr (1010 + 5))) (E_X5_spelling_0 15 rfl) trivial (Nat.zero_le _) (Nat.zero_le _) ⟨rfl, rfl⟩
  by_cases w7 : k = 7
  · subst w7
    refine x_tsw (t := 89) (E_X5_spelling_0 1 rfl) (by decide) (by decide) (by decide) ?_
    refine x_ldcS (i := 6) (E_X5_spelling_0 16 rfl) rfl rfl ?_
    exact x_ret (r := some (vr (1010 + 6))) (E_X5_spelling_0 17 rfl) trivial (Nat.zero_le _) (Nat.zero_le _) ⟨rfl, rfl⟩
  by_cases w8 : k = 8
  · subst w8
    refine x_tsw (t := 92) (E_X5_spelling_0 1 rfl) (by decide) (by decide) (by decide) ?_
    refine x_ldcS (i := 7) (E_X5_spelling_0 18 rfl) rfl rfl ?_
    exact x_ret (r := some (vr (1010 + 7))) (E_X5_spelling_0 19 rfl) trivial (Nat.zero_le _) (Nat.zero_le _) ⟨rfl, rfl⟩
  by_cases w9 : k = 9
  · subst w9
    refine x_tsw (t := 95) (E_X5_spelling_0 1 rfl) (by decide) (by decide) (by decide) ?_
    refine x_ldcS (i := 8) (E_X5_spelling_0 20 rfl) rfl rfl ?_
    exact x_ret (r := some (vr (1010 + 8))) (E_X5_spelling_0 21 rfl) trivial (Nat.zero_le _) (Nat.zero_le _) ⟨rfl, rfl⟩
  by_cases w10 : k = 10
  · subst w10
    refine x_tsw (t := 98) (E_X5_spelling_0 1 rfl) (by decide) (by decide) (by decide) ?_
    refine x_ldcS (i := 9) (E_X5_spelling_0 22 rfl) rfl rfl ?_
    exact x_ret (r := some (vr (1010 + 9))) (E_X5_spelling_0 23 rfl) trivial (Nat.zero_le _) (Nat.zero_le _) ⟨rfl, rfl⟩
  by_cases w11 : k = 11
  · subst w11
    refine x_tsw (t := 101) (E_X5_spelling_0 1 rfl) (by decide) (by decide) (by decide) ?_
    refine x_ldcS (i := 10) (E_X5_spelling_0 24 rfl) rfl rfl ?_
    exact x_ret (r := some (vr (1010 + 10))) (E_X5_spelling_0 25 rfl) trivial (Nat.zero_le _) (Nat.zero_le _) ⟨rfl, rfl⟩
  by_cases w12 : k = 12
  · subst w12
    refine x_tsw (t := 104) (E_X5_spelling_0 1 rfl) (by decide) (by decide) (by decide) ?_
    refine x_ldcS (i := 11) (E_X5_spelling_0 26 rfl) rfl rfl ?_
    exact x_ret (r := some (vr (1010 + 11))) (E_X5_spelling_0 27 rfl) trivial (Nat.zero_le _) (Nat.zero_le _) ⟨rfl, rfl⟩
  obtain rfl : k = 13 := by omega
  refine x_tswD (t := 107) (E_X5_spelling_0 1 rfl) (by decide) (by omega) (by decide) ?_
  refine x_ldcS (i := 12) (E_X5_spelling_0 28 rfl) rfl rfl ?_
  exact x_ret (r := some (vr (1010 + 12))) (E_X5_spelling_0 29 rfl) trivial (Nat.zero_le _) (Nat.zero_le _) ⟨rfl, rfl⟩

/-- text i stands at p .. e - 1 -/
def mtS (tx : Int → Int) (p e : Int) (i : Nat) : Prop := ((lenq.getD i 0 : Nat) : Int) = e - p ∧ ∀ k, 0 ≤ k → k < ((lenq.getD i 0 : Nat) : Int) → chq i k = tx (p + k)
theorem c_X5_isSpelled {i : Nat} {e : Int} (hi : i < 13) (h0 : 0 ≤ σ 41 7 ∧ σ 41 7 ≤ e ∧ e ≤ 160) (ht : ∀ k, 0 ≤ k → k < 160 → 0 ≤ σ 42 k ∧ σ 42 k ≤ 255) : CI l G M_X5_isSpelled 5 [vr 41, vr (1010 + i), vi e] σ (BP (mtS (σ 42) (σ 41 7) e i) σ) := by
  have h6 := lenq_all i hi
  refine Ct.of rfl (Nat.le_of_ble_eq_true rfl) ?_
  have loop : ((lenq.getD i 0 : Nat) : Int) = e - σ 41 7 → ∀ (t : Nat) (k : Int), k = ((lenq.getD i 0 : Nat) : Int) - t → 0 ≤ k → (∀ j, 0 ≤ j → j < k → chq i j = σ 42 (σ 41 7 + j)) → XI l G M_X5_isSpelled 5 17 [some (vr 41), some (vr (1010 + i)), some (vi e), some (vi k)] [] σ (BP (mtS (σ 42) (σ 41 7) e i) σ) := by
    intro hl t
    induction t using Nat.strongRecOn with
    | _ t ih =>
    intro k hk hk0 hj
    refine x_iload_n (E_X5_isSpelled_0 11 rfl) rfl ?_
    refine x_aload_n (E_X5_isSpelled_0 12 rfl) rfl ?_
    refine x_callVS (E_X5_isSpelled_0 13 rfl) ml_X5_90 mv_J0_length_8abf5 hi rfl (c_J0_length hi) (by decide) ⟨Nat.zero_le _, Nat.zero_le _⟩ rfl rfl (Nat.le_of_ble_eq_true rfl) (fun r9 S9 q9 => ?_)
    obtain ⟨z9, τ9, rfl, rfl, h9⟩ := q9
    obtain ⟨rfl, rfl⟩ := h9
    refine x_icmp_ge (E_X5_isSpelled_0 14 rfl) (by omega) (by omega) (fun c1 => ?_) (fun c1 => ?_)
    · refine x_iconst (E_X5_isSpelled_0 30 rfl) ?_
      exact z_iret (E_X5_isSpelled_0 31 rfl) (Or.inr rfl) ⟨rfl, Or.inl ⟨rfl, hl, fun j a b => hj j a (by omega)⟩⟩
    · refine x_aload_n (E_X5_isSpelled_0 15 rfl) rfl ?_
      refine x_iload_n (E_X5_isSpelled_0 16 rfl) rfl ?_
      refine x_callVS (E_X5_isSpelled_0 17 rfl) ml_X5_94 mv_J0_charAt_5068e hi rfl (c_J0_charAt hi (by omega)) (by decide) ⟨Nat.zero_le _, Nat.zero_le _⟩ rfl rfl (Nat.le_of_ble_eq_true rfl) (fun r9 S9 q9 => ?_)
      obtain ⟨z9, τ9, rfl, rfl, h9⟩ := q9
      obtain ⟨rfl, rfl⟩ := h9
      have hc := chq_all i hi k.toNat (by omega)
      rw [show ((k.toNat : Nat) : Int) = k by omega] at hc
      have t9 := ht (σ 41 7 + k) (by omega) (by omega)
      refine x_aload_n (E_X5_isSpelled_0 18 rfl) rfl ?_
      refine x_getR (E_X5_isSpelled_0 19 rfl) fl_X5_11 rfl (by decide) rfl ?_
      refine x_aload_n (E_X5_isSpelled_0 20 rfl) rfl ?_
      refine x_getIe (v := σ 41 7) (E_X5_isSpelled_0 21 rfl) fl_X5_28 rfl (by decide) rfl ?_
      refine x_iload_n (E_X5_isSpelled_0 22 rfl) rfl ?_
      refine x_iadd (E_X5_isSpelled_0 23 rfl) ?_
      refine x_ialde (f := σ 42) (E_X5_isSpelled_0 24 rfl) rfl (by decide) (by omega) rfl ?_
      refine x_icmp_eq (E_X5_isSpelled_0 25 rfl) (by omega) (by omega) (fun c1 => ?_) (fun c1 => ?_)
      · refine x_iinc (E_X5_isSpelled_0 28 rfl) rfl rfl ?_
        refine x_goto (E_X5_isSpelled_0 29 rfl) ?_
        refine ih (t - 1) (by omega) _ (by omega) (by omega) (fun j a b => ?_)
        by_cases e9 : j = k
        · rw [e9]; omega
        · exact hj j a (by omega)
      · refine x_iconst (E_X5_isSpelled_0 26 rfl) ?_
        refine z_iret (E_X5_isSpelled_0 27 rfl) (Or.inl rfl) ?_
        exact ⟨rfl, Or.inr ⟨rfl, fun h => by have := h.2 k hk0 (by omega); omega⟩⟩
  refine x_aload_n (E_X5_isSpelled_0 0 rfl) rfl ?_
  refine x_callVS (E_X5_isSpelled_0 1 rfl) ml_X5_90 mv_J0_length_8abf5 hi rfl (c_J0_length hi) (by decide) ⟨Nat.zero_le _, Nat.zero_le _⟩ rfl rfl (Nat.le_of_ble_eq_true rfl) (fun r9 S9 q9 => ?_)
  obtain ⟨z9, τ9, rfl, rfl, h9⟩ := q9
  obtain ⟨rfl, rfl⟩ := h9
  refine x_iload_n (E_X5_isSpelled_0 2 rfl) rfl ?_
  refine x_aload_n (E_X5_isSpelled_0 3 rfl) rfl ?_
  refine x_getIe (v := σ 41 7) (E_X5_isSpelled_0 4 rfl) fl_X5_28 rfl (by decide) rfl ?_
  refine x_isub (E_X5_isSpelled_0 5 rfl) ?_
  refine x_icmp_eq (E_X5_isSpelled_0 6 rfl) (by omega) (by omega) (fun c1 => ?_) (fun c1 => ?_)
  · refine x_iconst (E_X5_isSpelled_0 9 rfl) ?_
    refine x_istore_n (E_X5_isSpelled_0 10 rfl) rfl ?_
    exact loop (by omega) (lenq.getD i 0) 0 (by omega) (by omega) (fun j a b => absurd a (by omega))
  · refine x_iconst (E_X5_isSpelled_0 7 rfl) ?_
    refine z_iret (E_X5_isSpelled_0 8 rfl) (Or.inl rfl) ?_
    exact ⟨rfl, Or.inr ⟨rfl, fun h => by have := h.1; omega⟩⟩

