/-! the book -/
variable {l : Launch} {G : GC} {σ : Nat → Int → Int}

/-- which lines are void, of those told by kn -/
def vS (kd tg td : Int → Int) (kn : Int) : Nat → (Int → Int) → (Int → Int)
  | 0, v => v
  | i + 1, v => vS kd tg td kn i (if td i ≤ kn ∧ kd i = 10 ∧ v i = 0 then updI v (tg i) 1 else v)
def voidS (kd tg td : Int → Int) (kn : Int) (n : Nat) : Int → Int := vS kd tg td kn n (fun _ => 0)
def inBS (kd tg td : Int → Int) (kn : Int) (n : Nat) (i : Int) : Bool := decide (td i ≤ kn ∧ voidS kd tg td kn n i = 0)
def bookS (dy kd tg td : Int → Int) (kn : Int) (n : Nat) : List Int := srtL dy (inBS kd tg td kn n) n
theorem vS_skip {kd tg td v : Int → Int} {kn : Int} {K : Nat} : ∀ {n : Nat}, K ≤ n → (∀ i : Int, (K : Int) ≤ i → i < n → ¬ td i ≤ kn) → vS kd tg td kn n v = vS kd tg td kn K v
  | 0, h, _ => by rw [show K = 0 by omega]
  | n + 1, h, q => by
    by_cases e : K = n + 1
    · rw [e]
    · have a := q n (by omega) (by omega)
      show vS kd tg td kn n (if _ then _ else v) = _
      rw [if_neg (fun h => a h.1)]
      exact vS_skip (by omega) (fun i a b => q i a (by omega))
theorem vS_rg {kd tg td : Int → Int} {kn : Int} : ∀ {n : Nat} {v : Int → Int}, (∀ j, v j = 0 ∨ v j = 1) → ∀ j, vS kd tg td kn n v j = 0 ∨ vS kd tg td kn n v j = 1
  | 0, _, h => h
  | n + 1, v, h => by
    refine vS_rg (n := n) (fun j => ?_)
    split
    · unfold updI
      split
      · exact Or.inr rfl
      · exact h j
    · exact h j
theorem voidS_rg {kd tg td : Int → Int} {kn : Int} {n : Nat} (j : Int) : voidS kd tg td kn n j = 0 ∨ voidS kd tg td kn n j = 1 := vS_rg (fun _ => Or.inl rfl) j
/-- what know leaves -/
def KnP (kn : Int) (σ τ : Nat → Int → Int) : Prop := (0 ≤ τ 7 10 ∧ τ 7 10 ≤ σ 7 9) ∧ (∀ i, 0 ≤ i → i < σ 7 9 → (i < τ 7 10 ↔ σ 10 i ≤ kn)) ∧ (∀ i, 0 ≤ i → i < σ 7 9 → τ 16 i = voidS (σ 8) (σ 11) (σ 10) kn (σ 7 9).toNat i) ∧ Fr [7, 16] σ τ ∧ Fo 7 [10] σ τ
set_option maxHeartbeats 1000000 in
theorem c_X2_know {kn : Int} (hkn : rgi kn) (hn : 0 ≤ σ 7 9 ∧ σ 7 9 ≤ 120) (hk : ∀ i, 0 ≤ i → i < σ 7 9 → 0 ≤ σ 8 i ∧ σ 8 i ≤ 10) (hT : ∀ i, 0 ≤ i → i < σ 7 9 → σ 8 i = 10 → 0 ≤ σ 11 i ∧ σ 11 i < i) (ht : ∀ i, 0 ≤ i → i < σ 7 9 → 0 ≤ σ 10 i ∧ σ 10 i ≤ 2000) (hs : ∀ i j, 0 ≤ i → i ≤ j → j < σ 7 9 → σ 10 i ≤ σ 10 j) : CV l G M_X2_know 0 [vr 7, vi kn] σ (KnP kn σ) := by
  refine Ct.of rfl (Nat.le_of_ble_eq_true rfl) ?_
  have loop2 : ∀ (m : Nat) (i : Int) (v : Int → Int) (τ : Nat → Int → Int), i = (m : Int) - 1 → m ≤ (σ 7 9).toNat → (∀ j, 0 ≤ j → j < (m : Int) → σ 10 j ≤ kn) → (∀ j, 0 ≤ j → j < σ 7 9 → τ 16 j = v j ∧ (v j = 0 ∨ v j = 1)) → vS (σ 8) (σ 11) (σ 10) kn m v = voidS (σ 8) (σ 11) (σ 10) kn (σ 7 9).toNat → Fr [7, 16] σ τ → Fo 7 [10] σ τ → (0 ≤ τ 7 10 ∧ τ 7 10 ≤ σ 7 9) → (∀ i, 0 ≤ i → i < σ 7 9 → (i < τ 7 10 ↔ σ 10 i ≤ kn)) → XV l G M_X2_know 0 52 [some (vr 7), some (vi kn), some (vi i)] [] τ (KnP kn σ) := by
    intro m
    induction m using Nat.strongRecOn with
    | _ m ih =>
    intro i v τ hi hm hK hA hv hF hO h10 hK2
    have j88 : ∀ τ' : Nat → Int → Int, 0 ≤ i → ((τ' = τ ∧ ¬ (σ 8 i = 10 ∧ v i = 0)) ∨ (τ' = upq τ 16 (τ 11 i) 1 ∧ σ 8 i = 10 ∧ v i = 0)) → XV l G M_X2_know 0 88 [some (vr 7), some (vi kn), some (vi i)] [] τ' (KnP kn σ) := by
      intro τ' hi0 H
      obtain ⟨m', rfl⟩ : ∃ m', m = m' + 1 := ⟨m - 1, by omega⟩
      have em : (m' : Int) = i := by omega
      have hv2 : vS (σ 8) (σ 11) (σ 10) kn m' (if σ 10 m' ≤ kn ∧ σ 8 m' = 10 ∧ v m' = 0 then updI v (σ 11 m') 1 else v) = voidS (σ 8) (σ 11) (σ 10) kn (σ 7 9).toNat := hv
      rw [em] at hv2
      have hki := hK i hi0 (by omega)
      rcases H with ⟨rfl, H⟩ | ⟨rfl, H⟩
      · rw [if_neg (fun h => H h.2)] at hv2
        refine x_iinc (E_X2_know_0 53 rfl) rfl rfl ?_
        refine x_goto (E_X2_know_0 54 rfl) ?_
        exact ih m' (by omega) _ v _ (by omega) (by omega) (fun j a b => hK j a (by omega)) hA hv2 hF hO h10 hK2
      · rw [if_pos ⟨hki, H⟩] at hv2
        have tt := hT i hi0 (by omega) H.1
        have e11 := congrFun (hF 11 (by decide)) i
        refine x_iinc (E_X2_know_0 53 rfl) rfl rfl ?_
        refine x_goto (E_X2_know_0 54 rfl) ?_
        refine ih m' (by omega) _ (updI v (σ 11 i) 1) _ (by omega) (by omega) (fun j a b => hK j a (by omega)) (fun j a b => ?_) hv2 (hF.up (by decide)) (hO.un (by decide)) h10 hK2
        show (if j = τ 11 i then 1 else τ 16 j) = (if j = σ 11 i then 1 else v j) ∧ ((if j = σ 11 i then 1 else v j) = 0 ∨ (if j = σ 11 i then 1 else v j) = 1)
        rw [e11]
        by_cases e : j = σ 11 i
        · rw [if_pos e, if_pos e]; exact ⟨rfl, Or.inr rfl⟩
        · rw [if_neg e, if_neg e]; exact hA j a b
    refine x_iload_n (E_X2_know_0 32 rfl) rfl ?_
    refine x_if_lt (E_X2_know_0 33 rfl) (by omega) (fun c1 => ?_) (fun c1 => ?_)
    · refine z_vret (E_X2_know_0 55 rfl) trivial ?_
      refine ⟨h10, hK2, fun j a b => ?_, hF, hO⟩
      rw [← hv, show m = 0 by omega]
      exact (hA j a b).1
    · have e8 := congrFun (hF 8 (by decide)) i
      have k8 := hk i (by omega) (by omega)
      have a9 := hA i (by omega) (by omega)
      have e11 := congrFun (hF 11 (by decide)) i
      refine x_aload_n (E_X2_know_0 34 rfl) rfl ?_
      refine x_getR (E_X2_know_0 35 rfl) fl_X2_9 rfl (by decide) rfl ?_
      refine x_iload_n (E_X2_know_0 36 rfl) rfl ?_
      refine x_ialde (f := τ 8) (E_X2_know_0 37 rfl) rfl (by decide) (by omega) rfl ?_
      refine x_bipush (z := 10) (E_X2_know_0 38 rfl) (by decide) ?_
      refine x_icmp_ne (E_X2_know_0 39 rfl) (by omega) (by decide) (fun c2 => ?_) (fun c2 => ?_)
      · exact j88 _ (by omega) (by first | exact Or.inl ⟨rfl, by omega⟩ | exact Or.inr ⟨rfl, by omega⟩)
      · refine x_aload_n (E_X2_know_0 40 rfl) rfl ?_
        refine x_getR (E_X2_know_0 41 rfl) fl_X2_36 rfl (by decide) rfl ?_
        refine x_iload_n (E_X2_know_0 42 rfl) rfl ?_
        refine x_zalde (f := τ 16) (E_X2_know_0 43 rfl) rfl (by decide) (by omega) rfl ?_
        refine x_if_ne (E_X2_know_0 44 rfl) (by omega) (fun c3 => ?_) (fun c3 => ?_)
        · exact j88 _ (by omega) (by first | exact Or.inl ⟨rfl, by omega⟩ | exact Or.inr ⟨rfl, by omega⟩)
        · have tt := hT i (by omega) (by omega) (by omega)
          refine x_aload_n (E_X2_know_0 45 rfl) rfl ?_
          refine x_getR (E_X2_know_0 46 rfl) fl_X2_36 rfl (by decide) rfl ?_
          refine x_aload_n (E_X2_know_0 47 rfl) rfl ?_
          refine x_getR (E_X2_know_0 48 rfl) fl_X2_21 rfl (by decide) rfl ?_
          refine x_iload_n (E_X2_know_0 49 rfl) rfl ?_
          refine x_ialde (f := τ 11) (E_X2_know_0 50 rfl) rfl (by decide) (by omega) rfl ?_
          refine x_iconst (E_X2_know_0 51 rfl) ?_
          refine x_zast (E_X2_know_0 52 rfl) rfl (by decide) (by omega) (Or.inr rfl) ?_
          exact j88 _ (by omega) (by first | exact Or.inl ⟨rfl, by omega⟩ | exact Or.inr ⟨rfl, by omega⟩)
  have loop1 : ∀ (k : Nat) (i : Int) (τ : Nat → Int → Int), i = σ 7 9 - k → k ≤ (σ 7 9).toNat → (∀ j, 0 ≤ j → j < i → τ 16 j = 0) → (0 ≤ τ 7 10 ∧ τ 7 10 ≤ i) → (∀ j, 0 ≤ j → j < i → (j < τ 7 10 ↔ σ 10 j ≤ kn)) → Fr [7, 16] σ τ → Fo 7 [10] σ τ → XV l G M_X2_know 0 7 [some (vr 7), some (vi kn), some (vi i)] [] τ (KnP kn σ) := by
    intro k
    induction k using Nat.strongRecOn with
    | _ k ih =>
    intro i τ hi hk9 hZ h10 hK hF hO
    have e79 := hO 9 (by decide)
    have e10 := congrFun (hF 10 (by decide)) i
    refine x_iload_n (E_X2_know_0 5 rfl) rfl ?_
    refine x_aload_n (E_X2_know_0 6 rfl) rfl ?_
    refine x_getIe (v := τ 7 9) (E_X2_know_0 7 rfl) fl_X2_40 rfl (by decide) rfl ?_
    refine x_icmp_ge (E_X2_know_0 8 rfl) (by omega) (by omega) (fun c1 => ?_) (fun c1 => ?_)
    · refine x_aload_n (E_X2_know_0 27 rfl) rfl ?_
      refine x_getIe (v := τ 7 10) (E_X2_know_0 28 rfl) fl_X2_48 rfl (by decide) rfl ?_
      refine x_iconst (E_X2_know_0 29 rfl) ?_
      refine x_isub (E_X2_know_0 30 rfl) ?_
      refine x_istore_n (E_X2_know_0 31 rfl) rfl ?_
      refine loop2 (τ 7 10).toNat _ (fun _ => 0) τ (by omega) (by omega) (fun j a b => (hK j a (by omega)).mp (by omega)) (fun j a b => ⟨hZ j a (by omega), Or.inl rfl⟩) ?_ hF hO (by omega) (fun j a b => hK j a (by omega))
      refine (vS_skip (by omega) (fun j a b c => ?_)).symm
      have := (hK j (by omega) (by omega)).mpr c
      omega
    · have t9 := ht i (by omega) (by omega)
      refine x_aload_n (E_X2_know_0 9 rfl) rfl ?_
      refine x_getR (E_X2_know_0 10 rfl) fl_X2_36 rfl (by decide) rfl ?_
      refine x_iload_n (E_X2_know_0 11 rfl) rfl ?_
      refine x_iconst (E_X2_know_0 12 rfl) ?_
      refine x_zast (E_X2_know_0 13 rfl) rfl (by decide) (by omega) (Or.inl rfl) ?_
      refine x_aload_n (E_X2_know_0 14 rfl) rfl ?_
      refine x_getR (E_X2_know_0 15 rfl) fl_X2_18 rfl (by decide) rfl ?_
      refine x_iload_n (E_X2_know_0 16 rfl) rfl ?_
      refine x_ialde (f := τ 10) (E_X2_know_0 17 rfl) rfl (by decide) (by omega) rfl ?_
      refine x_iload_n (E_X2_know_0 18 rfl) rfl ?_
      refine x_icmp_gt (E_X2_know_0 19 rfl) (by omega) (by omega) (fun c2 => ?_) (fun c2 => ?_)
      · refine x_iinc (E_X2_know_0 25 rfl) rfl rfl ?_
        refine x_goto (E_X2_know_0 26 rfl) ?_
        refine ih (k - 1) (by omega) _ _ (by omega) (by omega) (fun j a b => ?_) ?_ (fun j a b => ?_) ?_ ?_
        · show (if j = i then 0 else τ 16 j) = 0
          by_cases e : j = i
          · exact if_pos e
          · rw [if_neg e]; exact hZ j a (by omega)
        · show 0 ≤ τ 7 10 ∧ τ 7 10 ≤ i + 1
          omega
        · show j < τ 7 10 ↔ _
          by_cases e : j = i
          · subst e; omega
          · exact hK j a (by omega)
        · exact hF.up (by decide)
        · exact hO.un (by decide)
      · refine x_aload_n (E_X2_know_0 20 rfl) rfl ?_
        have s9 := fun j (a : 0 ≤ j) (b : j ≤ i) => hs j i a b (by omega)
        refine x_iload_n (E_X2_know_0 21 rfl) rfl ?_
        refine x_iconst (E_X2_know_0 22 rfl) ?_
        refine x_iadd (E_X2_know_0 23 rfl) ?_
        refine x_putI (E_X2_know_0 24 rfl) fl_X2_48 rfl (by decide) ?_
        refine x_iinc (E_X2_know_0 25 rfl) rfl rfl ?_
        refine x_goto (E_X2_know_0 26 rfl) ?_
        refine ih (k - 1) (by omega) _ _ (by omega) (by omega) (fun j a b => ?_) ?_ (fun j a b => ?_) ?_ ?_
        · show (if j = i then 0 else τ 16 j) = 0
          by_cases e : j = i
          · exact if_pos e
          · rw [if_neg e]; exact hZ j a (by omega)
        · show 0 ≤ i + 1 ∧ i + 1 ≤ i + 1
          omega
        · show j < i + 1 ↔ _
          have := s9 j a (by omega)
          omega
        · exact (hF.up (by decide)).up (by decide)
        · exact (hO.un (by decide)).up (by decide)
  refine x_aload_n (E_X2_know_0 0 rfl) rfl ?_
  refine x_iconst (E_X2_know_0 1 rfl) ?_
  refine x_putI (E_X2_know_0 2 rfl) fl_X2_48 rfl (by decide) ?_
  refine x_iconst (E_X2_know_0 3 rfl) ?_
  refine x_istore_n (E_X2_know_0 4 rfl) rfl ?_
  exact loop1 (σ 7 9).toNat 0 _ (by omega) (Nat.le_refl _) (fun j a b => absurd a (by omega)) (show (0:Int) ≤ 0 ∧ (0:Int) ≤ 0 by omega) (fun j a b => absurd a (by omega)) (Fr.rf.up (by decide)) (Fo.rf.up (by decide))

