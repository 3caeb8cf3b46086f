/-! scanning -/
variable {l : Launch} {G : GC} {σ : Nat → Int → Int}

def scF (tx : Int → Int) (len lo hi : Int) : Nat → Int → Int
  | 0, p => p
  | n + 1, p => if p < len ∧ lo ≤ tx p ∧ tx p ≤ hi then scF tx len lo hi n (p + 1) else p
/-- from p on while lo .. hi -/
def scS (tx : Int → Int) (len lo hi p : Int) : Int := scF tx len lo hi (len - p).toNat p
theorem scS_on {tx : Int → Int} {len lo hi p : Int} (h : p < len ∧ lo ≤ tx p ∧ tx p ≤ hi) : scS tx len lo hi p = scS tx len lo hi (p + 1) := by
  unfold scS
  rw [show (len - p).toNat = (len - (p + 1)).toNat + 1 by omega]
  exact if_pos h
theorem scS_off {tx : Int → Int} {len lo hi p : Int} (h : ¬ (p < len ∧ lo ≤ tx p ∧ tx p ≤ hi)) : scS tx len lo hi p = p := by
  unfold scS
  cases (len - p).toNat with
  | zero => rfl
  | succ n => exact if_neg h
theorem scS_all {tx : Int → Int} {len lo hi : Int} : ∀ (n : Nat) {p : Int}, (len - p).toNat = n → p ≤ len → (p ≤ scS tx len lo hi p ∧ scS tx len lo hi p ≤ len) ∧ (∀ j, p ≤ j → j < scS tx len lo hi p → lo ≤ tx j ∧ tx j ≤ hi) ∧ ¬ (scS tx len lo hi p < len ∧ lo ≤ tx (scS tx len lo hi p) ∧ tx (scS tx len lo hi p) ≤ hi) := by
  intro n
  induction n with
  | zero =>
    intro p h hp
    rw [scS_off (by omega)]
    exact ⟨by omega, fun j a b => absurd a (by omega), by omega⟩
  | succ n ih =>
    intro p h hp
    by_cases c : p < len ∧ lo ≤ tx p ∧ tx p ≤ hi
    · rw [scS_on c]
      obtain ⟨a, b, d⟩ := ih (p := p + 1) (by omega) (by omega)
      refine ⟨by omega, fun j x y => ?_, d⟩
      by_cases e : j = p
      · rw [e]; exact c.2
      · exact b j (by omega) y
    · rw [scS_off c]
      exact ⟨by omega, fun j a b => absurd a (by omega), c⟩
theorem scS_rg {tx : Int → Int} {len lo hi p : Int} (hp : p ≤ len) : p ≤ scS tx len lo hi p ∧ scS tx len lo hi p ≤ len := (scS_all _ rfl hp).1
theorem scS_id {tx : Int → Int} {len lo hi p : Int} (hp : p ≤ len) : scS tx len lo hi (scS tx len lo hi p) = scS tx len lo hi p := scS_off (scS_all _ rfl hp).2.2
/-- text i stands at p .. e - 1 -/
def mtB (tx : Int → Int) (p e : Int) (i : Nat) : Bool := decide (((lenq.getD i 0 : Nat) : Int) = e - p) && (List.range (lenq.getD i 0)).all (fun k => decide (chq i (k : Nat) = tx (p + (k : Nat))))
theorem mtB_iff {tx : Int → Int} {p e : Int} {i : Nat} : mtB tx p e i = true ↔ mtS tx p e i := by
  unfold mtB mtS
  rw [Bool.and_eq_true, decide_eq_true_iff, List.all_eq_true]
  constructor
  · rintro ⟨a, b⟩
    refine ⟨a, fun k k0 k1 => ?_⟩
    have := b k.toNat (List.mem_range.mpr (by omega))
    rw [decide_eq_true_iff, show ((k.toNat : Nat) : Int) = k by omega] at this
    exact this
  · rintro ⟨a, b⟩
    refine ⟨a, fun k hk => ?_⟩
    have := List.mem_range.mp hk
    exact decide_eq_true (b k (by omega) (by omega))
/-- which of the texts k, k + 1 .. stands there -/
def lkF (tx : Int → Int) (s e : Int) : Nat → Int → Int
  | 0, _ => -1
  | n + 1, k => if mtB tx s e (spI k) = true then k else lkF tx s e n (k + 1)
theorem lkF_rg {tx : Int → Int} {s e : Int} : ∀ {n : Nat} {k : Int}, lkF tx s e n k = -1 ∨ (k ≤ lkF tx s e n k ∧ lkF tx s e n k < k + n)
  | 0, k => Or.inl rfl
  | n + 1, k => by
    have := lkF_rg (tx := tx) (s := s) (e := e) (n := n) (k := k + 1)
    show (if mtB tx s e (spI k) = true then k else lkF tx s e n (k + 1)) = -1 ∨ _ ≤ (if mtB tx s e (spI k) = true then k else lkF tx s e n (k + 1)) ∧ (if mtB tx s e (spI k) = true then k else lkF tx s e n (k + 1)) < _
    split <;> omega
def nvS (tx : Int → Int) (s : Int) : Nat → Int
  | 0 => 0
  | n + 1 => nvS tx s n * 10 + tx (s + n) - 48
def blS (tx : Int → Int) (len p : Int) : Int := scS tx len 32 32 p
def weS (tx : Int → Int) (len p : Int) : Int := scS tx len 97 122 (blS tx len p)
def deS (tx : Int → Int) (len p : Int) : Int := scS tx len 48 57 (blS tx len p)
def wkS (tx : Int → Int) (len first : Int) (n : Nat) (p : Int) : Int := lkF tx (blS tx len p) (weS tx len p) n first
def nmS (tx : Int → Int) (len p : Int) : Int := nvS tx (blS tx len p) (min 4 (deS tx len p - blS tx len p)).toNat
/-- the fault of a number -/
def nfS (tx : Int → Int) (len most p : Int) : Int := if deS tx len p = blS tx len p then 1 else if 4 < deS tx len p - blS tx len p ∨ most < nmS tx len p then 2 else 0
theorem bl_rg {tx : Int → Int} {len p : Int} (hp : p ≤ len) : p ≤ blS tx len p ∧ blS tx len p ≤ len := scS_rg hp
theorem we_rg {tx : Int → Int} {len p : Int} (hp : p ≤ len) : blS tx len p ≤ weS tx len p ∧ weS tx len p ≤ len := scS_rg (bl_rg hp).2
theorem de_rg {tx : Int → Int} {len p : Int} (hp : p ≤ len) : blS tx len p ≤ deS tx len p ∧ deS tx len p ≤ len := scS_rg (bl_rg hp).2
theorem nv_rg {tx : Int → Int} {s : Int} : ∀ {n : Nat}, n ≤ 5 → (∀ j, s ≤ j → j < s + n → 48 ≤ tx j ∧ tx j ≤ 57) → 0 ≤ nvS tx s n ∧ nvS tx s n < 10 ^ n
  | 0, _, _ => ⟨Int.le_refl _, by show (0 : Int) < 10 ^ 0; decide⟩
  | n + 1, hn, h => by
    have a := nv_rg (n := n) (by omega) (fun j x y => h j x (by omega))
    have b := h (s + n) (by omega) (by omega)
    show 0 ≤ nvS tx s n * 10 + tx (s + n) - 48 ∧ nvS tx s n * 10 + tx (s + n) - 48 < 10 ^ (n + 1)
    rw [Int.pow_succ]
    omega
theorem nm_rg {tx : Int → Int} {len p : Int} (hp : p ≤ len) : 0 ≤ nmS tx len p ∧ nmS tx len p ≤ 9999 := by
  have d := de_rg (tx := tx) hp
  have a := nv_rg (tx := tx) (s := blS tx len p) (n := (min 4 (deS tx len p - blS tx len p)).toNat) (by omega) (fun j x y => (scS_all _ rfl (bl_rg hp).2).2.1 j x (by show j < deS tx len p; omega))
  have b : (10 : Int) ^ (min 4 (deS tx len p - blS tx len p)).toNat ≤ 10000 := (by decide : ∀ k : Nat, k ≤ 4 → (10 : Int) ^ k ≤ 10000) _ (by omega)
  unfold nmS
  omega
/-- the text as it is kept -/
def TxOk (len : Int) (tx : Int → Int) : Prop := (0 ≤ len ∧ len ≤ 160) ∧ ∀ k, 0 ≤ k → k < 160 → 0 ≤ tx k ∧ tx k ≤ 255
/-! the class's reader -/
theorem c_X5_fail {f w : Int} : CV l G M_X5_fail 0 [vr 41, vi f, vi w] σ (fun τ => τ = upq (upq σ 41 5 f) 41 6 w) := by
  refine Ct.of rfl (Nat.le_of_ble_eq_true rfl) ?_
  refine x_aload_n (E_X5_fail_0 0 rfl) rfl ?_
  refine x_iload_n (E_X5_fail_0 1 rfl) rfl ?_
  refine x_putI (E_X5_fail_0 2 rfl) fl_X5_34 rfl (by decide) ?_
  refine x_aload_n (E_X5_fail_0 3 rfl) rfl ?_
  refine x_iload_n (E_X5_fail_0 4 rfl) rfl ?_
  refine x_putI (E_X5_fail_0 5 rfl) fl_X5_21 rfl (by decide) ?_
  refine z_vret (E_X5_fail_0 6 rfl) trivial ?_
  rfl
theorem c_X5_skipBlanks (ht : TxOk (σ 41 1) (σ 42)) (h0 : 0 ≤ σ 41 7 ∧ σ 41 7 ≤ σ 41 1) : CV l G M_X5_skipBlanks 0 [vr 41] σ (fun τ => τ 41 7 = blS (σ 42) (σ 41 1) (σ 41 7) ∧ Fr [41] σ τ ∧ Fo 41 [7] σ τ) := by
  have h160 := ht.1
  refine Ct.of rfl (Nat.le_of_ble_eq_true rfl) ?_
  have loop : ∀ (n : Nat) (τ : Nat → Int → Int), (σ 41 1 - τ 41 7).toNat = n → (0 ≤ τ 41 7 ∧ τ 41 7 ≤ σ 41 1) → blS (σ 42) (σ 41 1) (τ 41 7) = blS (σ 42) (σ 41 1) (σ 41 7) → Fr [41] σ τ → Fo 41 [7] σ τ → XV l G M_X5_skipBlanks 0 0 [some (vr 41)] [] τ (fun τ => τ 41 7 = blS (σ 42) (σ 41 1) (σ 41 7) ∧ Fr [41] σ τ ∧ Fo 41 [7] σ τ) := by
    intro n
    induction n using Nat.strongRecOn with
    | _ n ih =>
    intro τ hn hp hb hF hO
    have e1 := hO 1 (by decide)
    have e42 := congrFun (hF 42 (by decide)) (τ 41 7)
    refine x_aload_n (E_X5_skipBlanks_0 0 rfl) rfl ?_
    refine x_getIe (v := τ 41 7) (E_X5_skipBlanks_0 1 rfl) fl_X5_28 rfl (by decide) rfl ?_
    refine x_aload_n (E_X5_skipBlanks_0 2 rfl) rfl ?_
    refine x_getIe (v := τ 41 1) (E_X5_skipBlanks_0 3 rfl) fl_X5_25 rfl (by decide) rfl ?_
    refine x_icmp_ge (E_X5_skipBlanks_0 4 rfl) (by omega) (by omega) (fun c1 => ?_) (fun c1 => ?_)
    · refine z_vret (E_X5_skipBlanks_0 19 rfl) trivial ?_
      refine ⟨?_, hF, hO⟩
      rw [← hb]
      exact (scS_off (by omega)).symm
    · have t9 := ht.2 (τ 41 7) (by omega) (by omega)
      refine x_aload_n (E_X5_skipBlanks_0 5 rfl) rfl ?_
      refine x_getR (E_X5_skipBlanks_0 6 rfl) fl_X5_11 rfl (by decide) rfl ?_
      refine x_aload_n (E_X5_skipBlanks_0 7 rfl) rfl ?_
      refine x_getIe (v := τ 41 7) (E_X5_skipBlanks_0 8 rfl) fl_X5_28 rfl (by decide) rfl ?_
      refine x_ialde (f := τ 42) (E_X5_skipBlanks_0 9 rfl) rfl (by decide) (by omega) rfl ?_
      refine x_bipush (z := 32) (E_X5_skipBlanks_0 10 rfl) (by decide) ?_
      refine x_icmp_ne (E_X5_skipBlanks_0 11 rfl) (by omega) (by decide) (fun c2 => ?_) (fun c2 => ?_)
      · refine z_vret (E_X5_skipBlanks_0 19 rfl) trivial ?_
        refine ⟨?_, hF, hO⟩
        rw [← hb]
        exact (scS_off (by omega)).symm
      · refine x_aload_n (E_X5_skipBlanks_0 12 rfl) rfl ?_
        refine x_dupr (E_X5_skipBlanks_0 13 rfl) ?_
        refine x_getIe (v := τ 41 7) (E_X5_skipBlanks_0 14 rfl) fl_X5_28 rfl (by decide) rfl ?_
        refine x_iconst (E_X5_skipBlanks_0 15 rfl) ?_
        refine x_iadd (E_X5_skipBlanks_0 16 rfl) ?_
        refine x_putI (E_X5_skipBlanks_0 17 rfl) fl_X5_28 rfl (by decide) ?_
        refine x_goto (E_X5_skipBlanks_0 18 rfl) ?_
        refine ih (n - 1) (by omega) _ ?_ ?_ ?_ (hF.up (by decide)) (hO.up (by decide))
        · show (σ 41 1 - (τ 41 7 + 1)).toNat = _
          omega
        · show 0 ≤ τ 41 7 + 1 ∧ τ 41 7 + 1 ≤ _
          omega
        · rw [← hb]
          exact (scS_on (by omega)).symm
  exact loop _ σ rfl h0 rfl Fr.rf Fo.rf
theorem c_X5_takeIf {c : Int} (hc : 0 ≤ c ∧ c ≤ 255) (ht : TxOk (σ 41 1) (σ 42)) (h0 : 0 ≤ σ 41 7 ∧ σ 41 7 ≤ σ 41 1) : CI l G M_X5_takeIf 1 [vr 41, vi c] σ (fun z τ => ((z = 1 ∧ ((blS (σ 42) (σ 41 1) (σ 41 7)) < σ 41 1 ∧ σ 42 (blS (σ 42) (σ 41 1) (σ 41 7)) = c) ∧ τ 41 7 = (blS (σ 42) (σ 41 1) (σ 41 7)) + 1) ∨ (z = 0 ∧ ¬ ((blS (σ 42) (σ 41 1) (σ 41 7)) < σ 41 1 ∧ σ 42 (blS (σ 42) (σ 41 1) (σ 41 7)) = c) ∧ τ 41 7 = (blS (σ 42) (σ 41 1) (σ 41 7)))) ∧ Fr [41] σ τ ∧ Fo 41 [7] σ τ) := by
  have h160 := ht.1
  have br := bl_rg (tx := σ 42) h0.2
  refine Ct.of rfl (Nat.le_of_ble_eq_true rfl) ?_
  refine x_aload_n (E_X5_takeIf_0 0 rfl) rfl ?_
  refine z_callVv (E_X5_takeIf_0 1 rfl) ml_X5_37 mv_X5_skipBlanks rfl (by decide) (by decide) (c_X5_skipBlanks ht h0) (by decide) rfl rfl (Nat.le_of_ble_eq_true rfl) (fun τ9 h9 => ?_)
  obtain ⟨b1, b2, b3⟩ := h9
  have e1 := b3 1 (by decide)
  have e42 := congrFun (b2 42 (by decide)) (τ9 41 7)
  have e42b : σ 42 (τ9 41 7) = σ 42 (blS (σ 42) (σ 41 1) (σ 41 7)) := by rw [b1]
  refine x_aload_n (E_X5_takeIf_0 2 rfl) rfl ?_
  refine x_getIe (v := τ9 41 7) (E_X5_takeIf_0 3 rfl) fl_X5_28 rfl (by decide) rfl ?_
  refine x_aload_n (E_X5_takeIf_0 4 rfl) rfl ?_
  refine x_getIe (v := τ9 41 1) (E_X5_takeIf_0 5 rfl) fl_X5_25 rfl (by decide) rfl ?_
  refine x_icmp_ge (E_X5_takeIf_0 6 rfl) (by omega) (by omega) (fun c1 => ?_) (fun c1 => ?_)
  · refine x_iconst (E_X5_takeIf_0 22 rfl) ?_
    refine z_iret (E_X5_takeIf_0 23 rfl) (Or.inl rfl) ?_
    exact ⟨Or.inr ⟨rfl, fun h => by omega, b1⟩, b2, b3⟩
  · have t9 := ht.2 (τ9 41 7) (by omega) (by omega)
    refine x_aload_n (E_X5_takeIf_0 7 rfl) rfl ?_
    refine x_getR (E_X5_takeIf_0 8 rfl) fl_X5_11 rfl (by decide) rfl ?_
    refine x_aload_n (E_X5_takeIf_0 9 rfl) rfl ?_
    refine x_getIe (v := τ9 41 7) (E_X5_takeIf_0 10 rfl) fl_X5_28 rfl (by decide) rfl ?_
    refine x_ialde (f := τ9 42) (E_X5_takeIf_0 11 rfl) rfl (by decide) (by omega) rfl ?_
    refine x_iload_n (E_X5_takeIf_0 12 rfl) rfl ?_
    refine x_icmp_ne (E_X5_takeIf_0 13 rfl) (by omega) (by omega) (fun c2 => ?_) (fun c2 => ?_)
    · refine x_iconst (E_X5_takeIf_0 22 rfl) ?_
      refine z_iret (E_X5_takeIf_0 23 rfl) (Or.inl rfl) ?_
      exact ⟨Or.inr ⟨rfl, fun h => by omega, b1⟩, b2, b3⟩
    · refine x_aload_n (E_X5_takeIf_0 14 rfl) rfl ?_
      refine x_dupr (E_X5_takeIf_0 15 rfl) ?_
      refine x_getIe (v := τ9 41 7) (E_X5_takeIf_0 16 rfl) fl_X5_28 rfl (by decide) rfl ?_
      refine x_iconst (E_X5_takeIf_0 17 rfl) ?_
      refine x_iadd (E_X5_takeIf_0 18 rfl) ?_
      refine x_putI (E_X5_takeIf_0 19 rfl) fl_X5_28 rfl (by decide) ?_
      refine x_iconst (E_X5_takeIf_0 20 rfl) ?_
      refine z_iret (E_X5_takeIf_0 21 rfl) (Or.inr rfl) ?_
      exact ⟨Or.inl ⟨rfl, by omega, show τ9 41 7 + 1 = _ by omega⟩, b2.up (by decide), b3.up (by decide)⟩

/-- what takeNumber leaves -/
def TnP (most : Int) (σ : Nat → Int → Int) (z : Int) (τ : Nat → Int → Int) : Prop := z = (nmS (σ 42) (σ 41 1) (σ 41 7)) ∧ τ 41 8 = (blS (σ 42) (σ 41 1) (σ 41 7)) ∧ τ 41 7 = (deS (σ 42) (σ 41 1) (σ 41 7)) ∧ τ 41 5 = (if nfS (σ 42) (σ 41 1) most (σ 41 7) = 0 then σ 41 5 else nfS (σ 42) (σ 41 1) most (σ 41 7)) ∧ τ 41 6 = (if nfS (σ 42) (σ 41 1) most (σ 41 7) = 0 then σ 41 6 else (blS (σ 42) (σ 41 1) (σ 41 7))) ∧ Fr [41] σ τ ∧ Fo 41 [5, 6, 7, 8] σ τ
set_option maxHeartbeats 1000000 in
theorem c_X5_takeNumber {most : Int} (hm : 0 ≤ most ∧ most ≤ 9999) (ht : TxOk (σ 41 1) (σ 42)) (h0 : 0 ≤ σ 41 7 ∧ σ 41 7 ≤ σ 41 1) : CI l G M_X5_takeNumber 1 [vr 41, vi most] σ (TnP most σ) := by
  have h160 := ht.1
  have br := bl_rg (tx := σ 42) h0.2
  have dr := de_rg (tx := σ 42) h0.2
  have dg := (scS_all (tx := σ 42) (lo := 48) (hi := 57) _ rfl br.2).2
  have nr := nm_rg (tx := σ 42) h0.2
  refine Ct.of rfl (Nat.le_of_ble_eq_true rfl) ?_
  have fin : ∀ τ, τ 41 8 = (blS (σ 42) (σ 41 1) (σ 41 7)) → τ 41 5 = σ 41 5 → τ 41 6 = σ 41 6 → Fr [41] σ τ → Fo 41 [5, 6, 7, 8] σ τ → XI l G M_X5_takeNumber 1 80 [some (vr 41), some (vi most), some (vi (deS (σ 42) (σ 41 1) (σ 41 7))), some (vi (nmS (σ 42) (σ 41 1) (σ 41 7)))] [] τ (TnP most σ) := by
    intro τ t8 t5 t6 hF hO
    refine x_iload_n (E_X5_takeNumber_0 46 rfl) rfl ?_
    refine x_aload_n (E_X5_takeNumber_0 47 rfl) rfl ?_
    refine x_getIe (v := τ 41 8) (E_X5_takeNumber_0 48 rfl) fl_X5_48 rfl (by decide) rfl ?_
    refine x_icmp_ne (E_X5_takeNumber_0 49 rfl) (by omega) (by omega) (fun c1 => ?_) (fun c1 => ?_)
    · refine x_iload_n (E_X5_takeNumber_0 56 rfl) rfl ?_
      refine x_aload_n (E_X5_takeNumber_0 57 rfl) rfl ?_
      refine x_getIe (v := τ 41 8) (E_X5_takeNumber_0 58 rfl) fl_X5_48 rfl (by decide) rfl ?_
      refine x_isub (E_X5_takeNumber_0 59 rfl) ?_
      refine x_iconst (E_X5_takeNumber_1 0 rfl) ?_
      refine x_icmp_gt (E_X5_takeNumber_1 1 rfl) (by omega) (by decide) (fun c2 => ?_) (fun c2 => ?_)
      · refine x_aload_n (E_X5_takeNumber_1 5 rfl) rfl ?_
        refine x_iconst (E_X5_takeNumber_1 6 rfl) ?_
        refine x_aload_n (E_X5_takeNumber_1 7 rfl) rfl ?_
        refine x_getIe (v := τ 41 8) (E_X5_takeNumber_1 8 rfl) fl_X5_48 rfl (by decide) rfl ?_
        refine z_callVv (E_X5_takeNumber_1 9 rfl) ml_X5_51 mv_X5_fail rfl (by decide) (by decide) c_X5_fail (by decide) rfl rfl (Nat.le_of_ble_eq_true rfl) (fun τ9 h9 => ?_)
        subst h9
        refine x_aload_n (E_X5_takeNumber_1 10 rfl) rfl ?_
        refine x_iload_n (E_X5_takeNumber_1 11 rfl) rfl ?_
        refine x_putI (E_X5_takeNumber_1 12 rfl) fl_X5_28 rfl (by decide) ?_
        refine x_iload_n (E_X5_takeNumber_1 13 rfl) rfl ?_
        refine z_iret (E_X5_takeNumber_1 14 rfl) trivial ?_
        have nf : nfS (σ 42) (σ 41 1) most (σ 41 7) = 2 := by
          unfold nfS
          rw [if_neg (by omega), if_pos (by omega)]
        refine ⟨rfl, t8, rfl, ?_, ?_, ((hF.up (by decide)).up (by decide)).up (by decide), ((hO.up (by decide)).up (by decide)).up (by decide)⟩
        · rw [nf, if_neg (by decide)]; rfl
        · rw [nf, if_neg (by decide)]; exact t8
      · refine x_iload_n (E_X5_takeNumber_1 2 rfl) rfl ?_
        refine x_iload_n (E_X5_takeNumber_1 3 rfl) rfl ?_
        refine x_icmp_le (E_X5_takeNumber_1 4 rfl) (by omega) (by omega) (fun c3 => ?_) (fun c3 => ?_)
        · refine x_aload_n (E_X5_takeNumber_1 10 rfl) rfl ?_
          refine x_iload_n (E_X5_takeNumber_1 11 rfl) rfl ?_
          refine x_putI (E_X5_takeNumber_1 12 rfl) fl_X5_28 rfl (by decide) ?_
          refine x_iload_n (E_X5_takeNumber_1 13 rfl) rfl ?_
          refine z_iret (E_X5_takeNumber_1 14 rfl) trivial ?_
          have nf : nfS (σ 42) (σ 41 1) most (σ 41 7) = 0 := by
            unfold nfS
            rw [if_neg (by omega), if_neg (by omega)]
          refine ⟨rfl, t8, rfl, ?_, ?_, hF.up (by decide), hO.up (by decide)⟩
          · rw [nf, if_pos rfl]; exact t5
          · rw [nf, if_pos rfl]; exact t6
        · refine x_aload_n (E_X5_takeNumber_1 5 rfl) rfl ?_
          refine x_iconst (E_X5_takeNumber_1 6 rfl) ?_
          refine x_aload_n (E_X5_takeNumber_1 7 rfl) rfl ?_
          refine x_getIe (v := τ 41 8) (E_X5_takeNumber_1 8 rfl) fl_X5_48 rfl (by decide) rfl ?_
          refine z_callVv (E_X5_takeNumber_1 9 rfl) ml_X5_51 mv_X5_fail rfl (by decide) (by decide) c_X5_fail (by decide) rfl rfl (Nat.le_of_ble_eq_true rfl) (fun τ9 h9 => ?_)
          subst h9
          refine x_aload_n (E_X5_takeNumber_1 10 rfl) rfl ?_
          refine x_iload_n (E_X5_takeNumber_1 11 rfl) rfl ?_
          refine x_putI (E_X5_takeNumber_1 12 rfl) fl_X5_28 rfl (by decide) ?_
          refine x_iload_n (E_X5_takeNumber_1 13 rfl) rfl ?_
          refine z_iret (E_X5_takeNumber_1 14 rfl) trivial ?_
          have nf : nfS (σ 42) (σ 41 1) most (σ 41 7) = 2 := by
            unfold nfS
            rw [if_neg (by omega), if_pos (by omega)]
          refine ⟨rfl, t8, rfl, ?_, ?_, ((hF.up (by decide)).up (by decide)).up (by decide), ((hO.up (by decide)).up (by decide)).up (by decide)⟩
          · rw [nf, if_neg (by decide)]; rfl
          · rw [nf, if_neg (by decide)]; exact t8
    · refine x_aload_n (E_X5_takeNumber_0 50 rfl) rfl ?_
      refine x_iconst (E_X5_takeNumber_0 51 rfl) ?_
      refine x_aload_n (E_X5_takeNumber_0 52 rfl) rfl ?_
      refine x_getIe (v := τ 41 8) (E_X5_takeNumber_0 53 rfl) fl_X5_48 rfl (by decide) rfl ?_
      refine z_callVv (E_X5_takeNumber_0 54 rfl) ml_X5_51 mv_X5_fail rfl (by decide) (by decide) c_X5_fail (by decide) rfl rfl (Nat.le_of_ble_eq_true rfl) (fun τ9 h9 => ?_)
      subst h9
      refine x_goto (E_X5_takeNumber_0 55 rfl) ?_
      refine x_aload_n (E_X5_takeNumber_1 10 rfl) rfl ?_
      refine x_iload_n (E_X5_takeNumber_1 11 rfl) rfl ?_
      refine x_putI (E_X5_takeNumber_1 12 rfl) fl_X5_28 rfl (by decide) ?_
      refine x_iload_n (E_X5_takeNumber_1 13 rfl) rfl ?_
      refine z_iret (E_X5_takeNumber_1 14 rfl) trivial ?_
      have nf : nfS (σ 42) (σ 41 1) most (σ 41 7) = 1 := by
        unfold nfS
        rw [if_pos (by omega)]
      refine ⟨rfl, t8, rfl, ?_, ?_, ((hF.up (by decide)).up (by decide)).up (by decide), ((hO.up (by decide)).up (by decide)).up (by decide)⟩
      · rw [nf, if_neg (by decide)]; rfl
      · rw [nf, if_neg (by decide)]; exact t8
  have loop : ∀ (n : Nat) (e v : Int) (τ : Nat → Int → Int), (σ 41 1 - e).toNat = n → ((blS (σ 42) (σ 41 1) (σ 41 7)) ≤ e ∧ e ≤ (deS (σ 42) (σ 41 1) (σ 41 7))) → scS (σ 42) (σ 41 1) 48 57 e = (deS (σ 42) (σ 41 1) (σ 41 7)) → v = nvS (σ 42) (blS (σ 42) (σ 41 1) (σ 41 7)) (min 4 (e - (blS (σ 42) (σ 41 1) (σ 41 7)))).toNat → τ 41 8 = (blS (σ 42) (σ 41 1) (σ 41 7)) → τ 41 5 = σ 41 5 → τ 41 6 = σ 41 6 → Fr [41] σ τ → Fo 41 [5, 6, 7, 8] σ τ → XI l G M_X5_takeNumber 1 19 [some (vr 41), some (vi most), some (vi e), some (vi v)] [] τ (TnP most σ) := by
    intro n
    induction n using Nat.strongRecOn with
    | _ n ih =>
    intro e v τ hn he hs hv t8 t5 t6 hF hO
    have e1 := hO 1 (by decide)
    have e42 := congrFun (hF 42 (by decide)) e
    have done : ¬ (e < σ 41 1 ∧ 48 ≤ σ 42 e ∧ σ 42 e ≤ 57) → XI l G M_X5_takeNumber 1 80 [some (vr 41), some (vi most), some (vi e), some (vi v)] [] τ (TnP most σ) := fun h => by
      rw [scS_off h] at hs
      have := fin τ t8 t5 t6 hF hO
      rw [hv, hs]
      exact this
    refine x_iload_n (E_X5_takeNumber_0 11 rfl) rfl ?_
    refine x_aload_n (E_X5_takeNumber_0 12 rfl) rfl ?_
    refine x_getIe (v := τ 41 1) (E_X5_takeNumber_0 13 rfl) fl_X5_25 rfl (by decide) rfl ?_
    refine x_icmp_ge (E_X5_takeNumber_0 14 rfl) (by omega) (by omega) (fun c1 => ?_) (fun c1 => ?_)
    · exact done (by omega)
    · have t9 := ht.2 e (by omega) (by omega)
      refine x_aload_n (E_X5_takeNumber_0 15 rfl) rfl ?_
      refine x_getR (E_X5_takeNumber_0 16 rfl) fl_X5_11 rfl (by decide) rfl ?_
      refine x_iload_n (E_X5_takeNumber_0 17 rfl) rfl ?_
      refine x_ialde (f := τ 42) (E_X5_takeNumber_0 18 rfl) rfl (by decide) (by omega) rfl ?_
      refine x_bipush (z := 48) (E_X5_takeNumber_0 19 rfl) (by decide) ?_
      refine x_icmp_lt (E_X5_takeNumber_0 20 rfl) (by omega) (by decide) (fun c2 => ?_) (fun c2 => ?_)
      · exact done (by omega)
      · refine x_aload_n (E_X5_takeNumber_0 21 rfl) rfl ?_
        refine x_getR (E_X5_takeNumber_0 22 rfl) fl_X5_11 rfl (by decide) rfl ?_
        refine x_iload_n (E_X5_takeNumber_0 23 rfl) rfl ?_
        refine x_ialde (f := τ 42) (E_X5_takeNumber_0 24 rfl) rfl (by decide) (by omega) rfl ?_
        refine x_bipush (z := 57) (E_X5_takeNumber_0 25 rfl) (by decide) ?_
        refine x_icmp_gt (E_X5_takeNumber_0 26 rfl) (by omega) (by decide) (fun c3 => ?_) (fun c3 => ?_)
        · exact done (by omega)
        · refine x_iload_n (E_X5_takeNumber_0 27 rfl) rfl ?_
          refine x_aload_n (E_X5_takeNumber_0 28 rfl) rfl ?_
          refine x_getIe (v := τ 41 8) (E_X5_takeNumber_0 29 rfl) fl_X5_48 rfl (by decide) rfl ?_
          refine x_isub (E_X5_takeNumber_0 30 rfl) ?_
          refine x_iconst (E_X5_takeNumber_0 31 rfl) ?_
          refine x_icmp_ge (E_X5_takeNumber_0 32 rfl) (by omega) (by decide) (fun c4 => ?_) (fun c4 => ?_)
          · refine x_iinc (E_X5_takeNumber_0 44 rfl) rfl rfl ?_
            refine x_goto (E_X5_takeNumber_0 45 rfl) ?_
            have c9 : e < σ 41 1 ∧ 48 ≤ σ 42 e ∧ σ 42 e ≤ 57 := by omega
            have hs2 := hs
            rw [scS_on c9] at hs2
            have lt : e < (deS (σ 42) (σ 41 1) (σ 41 7)) := by
              have := scS_rg (tx := σ 42) (lo := 48) (hi := 57) (show e + 1 ≤ σ 41 1 by omega)
              omega
            refine ih (n - 1) (by omega) _ _ _ (by omega) (by omega) hs2 ?_ t8 t5 t6 hF hO
            rw [hv, show min 4 (e + 1 - (blS (σ 42) (σ 41 1) (σ 41 7))) = min 4 (e - (blS (σ 42) (σ 41 1) (σ 41 7))) by omega]
          · refine x_iload_n (E_X5_takeNumber_0 33 rfl) rfl ?_
            refine x_bipush (z := 10) (E_X5_takeNumber_0 34 rfl) (by decide) ?_
            refine x_imul (E_X5_takeNumber_0 35 rfl) ?_
            refine x_aload_n (E_X5_takeNumber_0 36 rfl) rfl ?_
            refine x_getR (E_X5_takeNumber_0 37 rfl) fl_X5_11 rfl (by decide) rfl ?_
            refine x_iload_n (E_X5_takeNumber_0 38 rfl) rfl ?_
            refine x_ialde (f := τ 42) (E_X5_takeNumber_0 39 rfl) rfl (by decide) (by omega) rfl ?_
            refine x_iadd (E_X5_takeNumber_0 40 rfl) ?_
            refine x_bipush (z := 48) (E_X5_takeNumber_0 41 rfl) (by decide) ?_
            refine x_isub (E_X5_takeNumber_0 42 rfl) ?_
            refine x_istore_n (E_X5_takeNumber_0 43 rfl) rfl ?_
            refine x_iinc (E_X5_takeNumber_0 44 rfl) rfl rfl ?_
            refine x_goto (E_X5_takeNumber_0 45 rfl) ?_
            have c9 : e < σ 41 1 ∧ 48 ≤ σ 42 e ∧ σ 42 e ≤ 57 := by omega
            have hs2 := hs
            rw [scS_on c9] at hs2
            have lt : e < (deS (σ 42) (σ 41 1) (σ 41 7)) := by
              have := scS_rg (tx := σ 42) (lo := 48) (hi := 57) (show e + 1 ≤ σ 41 1 by omega)
              omega
            refine ih (n - 1) (by omega) _ _ _ (by omega) (by omega) hs2 ?_ t8 t5 t6 hF hO
            rw [show (min 4 (e + 1 - (blS (σ 42) (σ 41 1) (σ 41 7)))).toNat = (min 4 (e - (blS (σ 42) (σ 41 1) (σ 41 7)))).toNat + 1 by omega]
            show v * 10 + τ 42 e - 48 = nvS (σ 42) (blS (σ 42) (σ 41 1) (σ 41 7)) (min 4 (e - (blS (σ 42) (σ 41 1) (σ 41 7)))).toNat * 10 + σ 42 ((blS (σ 42) (σ 41 1) (σ 41 7)) + ((min 4 (e - (blS (σ 42) (σ 41 1) (σ 41 7)))).toNat : Nat)) - 48
            rw [← hv, show (blS (σ 42) (σ 41 1) (σ 41 7)) + (((min 4 (e - (blS (σ 42) (σ 41 1) (σ 41 7)))).toNat : Nat) : Int) = e by omega, e42]
  refine x_aload_n (E_X5_takeNumber_0 0 rfl) rfl ?_
  refine z_callVv (E_X5_takeNumber_0 1 rfl) ml_X5_37 mv_X5_skipBlanks rfl (by decide) (by decide) (c_X5_skipBlanks ht h0) (by decide) rfl rfl (Nat.le_of_ble_eq_true rfl) (fun τ9 h9 => ?_)
  obtain ⟨b1, b2, b3⟩ := h9
  refine x_aload_n (E_X5_takeNumber_0 2 rfl) rfl ?_
  refine x_aload_n (E_X5_takeNumber_0 3 rfl) rfl ?_
  refine x_getIe (v := τ9 41 7) (E_X5_takeNumber_0 4 rfl) fl_X5_28 rfl (by decide) rfl ?_
  refine x_putI (E_X5_takeNumber_0 5 rfl) fl_X5_48 rfl (by decide) ?_
  refine x_aload_n (E_X5_takeNumber_0 6 rfl) rfl ?_
  refine x_getIe (v := τ9 41 7) (E_X5_takeNumber_0 7 rfl) fl_X5_28 rfl (by decide) rfl ?_
  refine x_istore_n (E_X5_takeNumber_0 8 rfl) rfl ?_
  refine x_iconst (E_X5_takeNumber_0 9 rfl) ?_
  refine x_istore_n (E_X5_takeNumber_0 10 rfl) rfl ?_
  refine loop _ _ 0 _ rfl ?_ ?_ ?_ b1 (b3 5 (by decide)) (b3 6 (by decide)) (b2.up (by decide)) ((b3.sub (by decide)).up (by decide))
  · show (blS (σ 42) (σ 41 1) (σ 41 7)) ≤ τ9 41 7 ∧ τ9 41 7 ≤ _
    omega
  · show scS (σ 42) (σ 41 1) 48 57 (τ9 41 7) = _
    rw [b1]; rfl
  · show (0 : Int) = nvS (σ 42) (blS (σ 42) (σ 41 1) (σ 41 7)) (min 4 (τ9 41 7 - (blS (σ 42) (σ 41 1) (σ 41 7)))).toNat
    rw [b1, Int.sub_self]; rfl

/-- what takeWord leaves -/
def TwP (a : Int) (n : Nat) (σ : Nat → Int → Int) (z : Int) (τ : Nat → Int → Int) : Prop := z = (if (wkS (σ 42) (σ 41 1) a n (σ 41 7)) = -1 then -1 else (wkS (σ 42) (σ 41 1) a n (σ 41 7)) - a) ∧ τ 41 8 = (blS (σ 42) (σ 41 1) (σ 41 7)) ∧ τ 41 7 = (if (wkS (σ 42) (σ 41 1) a n (σ 41 7)) = -1 then (blS (σ 42) (σ 41 1) (σ 41 7)) else (weS (σ 42) (σ 41 1) (σ 41 7))) ∧ τ 41 5 = (if (wkS (σ 42) (σ 41 1) a n (σ 41 7)) = -1 then 1 else σ 41 5) ∧ τ 41 6 = (if (wkS (σ 42) (σ 41 1) a n (σ 41 7)) = -1 then (blS (σ 42) (σ 41 1) (σ 41 7)) else σ 41 6) ∧ Fr [41] σ τ ∧ Fo 41 [5, 6, 7, 8] σ τ
set_option maxHeartbeats 1000000 in
theorem c_X5_takeWord {a b : Int} {n : Nat} (ha : 0 ≤ a ∧ b ≤ 13 ∧ b = a + n - 1) (ht : TxOk (σ 41 1) (σ 42)) (h0 : 0 ≤ σ 41 7 ∧ σ 41 7 ≤ σ 41 1) : CI l G M_X5_takeWord 6 [vr 41, vi a, vi b] σ (TwP a n σ) := by
  have h160 := ht.1
  have br := bl_rg (tx := σ 42) h0.2
  have wr := we_rg (tx := σ 42) h0.2
  refine Ct.of rfl (Nat.le_of_ble_eq_true rfl) ?_
  have loop2 : ∀ (m : Nat) (k : Int) (τ : Nat → Int → Int), k = b + 1 - m → m ≤ n → lkF (σ 42) (blS (σ 42) (σ 41 1) (σ 41 7)) (weS (σ 42) (σ 41 1) (σ 41 7)) m k = (wkS (σ 42) (σ 41 1) a n (σ 41 7)) → τ 41 8 = (blS (σ 42) (σ 41 1) (σ 41 7)) → τ 41 7 = (blS (σ 42) (σ 41 1) (σ 41 7)) → τ 41 5 = σ 41 5 → τ 41 6 = σ 41 6 → Fr [41] σ τ → Fo 41 [5, 6, 7, 8] σ τ → XI l G M_X5_takeWord 6 56 [some (vr 41), some (vi a), some (vi b), some (vi (weS (σ 42) (σ 41 1) (σ 41 7))), some (vi k)] [] τ (TwP a n σ) := by
    intro m
    induction m using Nat.strongRecOn with
    | _ m ih =>
    intro k τ hk hm hl t8 t7 t5 t6 hF hO
    have e42 : τ 42 = σ 42 := hF 42 (by decide)
    refine x_iload (E_X5_takeWord_0 29 rfl) rfl ?_
    refine x_iload_n (E_X5_takeWord_0 30 rfl) rfl ?_
    refine x_icmp_gt (E_X5_takeWord_0 31 rfl) (by omega) (by omega) (fun c1 => ?_) (fun c1 => ?_)
    · obtain rfl : m = 0 := by omega
      have hl : (wkS (σ 42) (σ 41 1) a n (σ 41 7)) = -1 := hl.symm
      refine x_aload_n (E_X5_takeWord_0 47 rfl) rfl ?_
      refine x_iconst (E_X5_takeWord_0 48 rfl) ?_
      refine x_aload_n (E_X5_takeWord_0 49 rfl) rfl ?_
      refine x_getIe (v := τ 41 7) (E_X5_takeWord_0 50 rfl) fl_X5_28 rfl (by decide) rfl ?_
      refine z_callVv (E_X5_takeWord_0 51 rfl) ml_X5_51 mv_X5_fail rfl (by decide) (by decide) c_X5_fail (by decide) rfl rfl (Nat.le_of_ble_eq_true rfl) (fun τ9 h9 => ?_)
      subst h9
      refine x_iconst (E_X5_takeWord_0 52 rfl) ?_
      refine z_iret (E_X5_takeWord_0 53 rfl) trivial ?_
      refine ⟨(if_pos hl).symm, t8, ?_, ?_, ?_, (hF.up (by decide)).up (by decide), (hO.up (by decide)).up (by decide)⟩
      · rw [if_pos hl]; exact t7
      · rw [if_pos hl]; rfl
      · rw [if_pos hl]; exact t7
    · obtain ⟨m, rfl⟩ : ∃ m', m = m' + 1 := ⟨m - 1, by omega⟩
      have hl : (if mtB (σ 42) (blS (σ 42) (σ 41 1) (σ 41 7)) (weS (σ 42) (σ 41 1) (σ 41 7)) (spI k) = true then k else lkF (σ 42) (blS (σ 42) (σ 41 1) (σ 41 7)) (weS (σ 42) (σ 41 1) (σ 41 7)) m (k + 1)) = (wkS (σ 42) (σ 41 1) a n (σ 41 7)) := hl
      have si : spI k < 13 := by
        have : ∀ j, j < 14 → spI ((j : Nat) : Int) < 13 := by decide
        have := this k.toNat (by omega)
        rw [show ((k.toNat : Nat) : Int) = k by omega] at this
        exact this
      have mt := mtB_iff (tx := σ 42) (p := (blS (σ 42) (σ 41 1) (σ 41 7))) (e := (weS (σ 42) (σ 41 1) (σ 41 7))) (i := spI k)
      refine x_aload_n (E_X5_takeWord_0 32 rfl) rfl ?_
      refine x_iload (E_X5_takeWord_0 33 rfl) rfl ?_
      refine x_callS (E_X5_takeWord_0 34 rfl) ml_X5_82 ms_X5_spelling (c_X5_spelling (by omega)) (by decide) ⟨Nat.zero_le _, Nat.zero_le _⟩ rfl rfl (Nat.le_of_ble_eq_true rfl) (fun r9 S9 q9 => ?_)
      obtain ⟨rfl, rfl⟩ := q9
      have is := c_X5_isSpelled (l := l) (G := G) (σ := τ) (i := spI k) (e := (weS (σ 42) (σ 41 1) (σ 41 7))) si (by omega) (by rw [e42]; exact ht.2)
      rw [e42, t7] at is
      refine x_iload_n (E_X5_takeWord_0 35 rfl) rfl ?_
      refine z_callVi (E_X5_takeWord_0 36 rfl) ml_X5_86 mv_X5_isSpelled rfl (by decide) (by decide) is (by decide) rfl rfl (Nat.le_of_ble_eq_true rfl) (fun z9 τ9 h9 => ?_)
      obtain ⟨rfl, ⟨rfl, c2⟩ | ⟨rfl, c2⟩⟩ := h9
      · rw [if_pos (mt.mpr c2)] at hl
        have hk1 : ¬ (wkS (σ 42) (σ 41 1) a n (σ 41 7)) = -1 := by omega
        refine x_if_eq (E_X5_takeWord_0 37 rfl) (by decide) (fun c9 => absurd c9 (by decide)) (fun _ => ?_)
        refine x_aload_n (E_X5_takeWord_0 38 rfl) rfl ?_
        refine x_iload_n (E_X5_takeWord_0 39 rfl) rfl ?_
        refine x_putI (E_X5_takeWord_0 40 rfl) fl_X5_28 rfl (by decide) ?_
        refine x_iload (E_X5_takeWord_0 41 rfl) rfl ?_
        refine x_iload_n (E_X5_takeWord_0 42 rfl) rfl ?_
        refine x_isub (E_X5_takeWord_0 43 rfl) ?_
        refine z_iret (E_X5_takeWord_0 44 rfl) trivial ?_
        refine ⟨?_, t8, ?_, ?_, ?_, hF.up (by decide), hO.up (by decide)⟩
        · rw [if_neg hk1, ← hl]
        · rw [if_neg hk1]; rfl
        · rw [if_neg hk1]; exact t5
        · rw [if_neg hk1]; exact t6
      · rw [if_neg (fun h => c2 (mt.mp h))] at hl
        refine x_if_eq (E_X5_takeWord_0 37 rfl) (by decide) (fun _ => ?_) (fun c9 => absurd (by decide) c9)
        refine x_iinc (E_X5_takeWord_0 45 rfl) rfl rfl ?_
        refine x_goto (E_X5_takeWord_0 46 rfl) ?_
        exact ih m (by omega) _ τ (by omega) (by omega) hl t8 t7 t5 t6 hF hO
  have loop1 : ∀ (m : Nat) (e : Int) (τ : Nat → Int → Int), (σ 41 1 - e).toNat = m → ((blS (σ 42) (σ 41 1) (σ 41 7)) ≤ e ∧ e ≤ (weS (σ 42) (σ 41 1) (σ 41 7))) → scS (σ 42) (σ 41 1) 97 122 e = (weS (σ 42) (σ 41 1) (σ 41 7)) → τ 41 8 = (blS (σ 42) (σ 41 1) (σ 41 7)) → τ 41 7 = (blS (σ 42) (σ 41 1) (σ 41 7)) → τ 41 5 = σ 41 5 → τ 41 6 = σ 41 6 → Fr [41] σ τ → Fo 41 [5, 6, 7, 8] σ τ → XI l G M_X5_takeWord 6 17 [some (vr 41), some (vi a), some (vi b), some (vi e), none] [] τ (TwP a n σ) := by
    intro m
    induction m using Nat.strongRecOn with
    | _ m ih =>
    intro e τ hn he hs t8 t7 t5 t6 hF hO
    have e1 := hO 1 (by decide)
    have e42 := congrFun (hF 42 (by decide)) e
    have done : ¬ (e < σ 41 1 ∧ 97 ≤ σ 42 e ∧ σ 42 e ≤ 122) → XI l G M_X5_takeWord 6 53 [some (vr 41), some (vi a), some (vi b), some (vi e), none] [] τ (TwP a n σ) := fun h => by
      rw [scS_off h] at hs
      rw [hs]
      refine x_iload_n (E_X5_takeWord_0 27 rfl) rfl ?_
      refine x_istore (E_X5_takeWord_0 28 rfl) rfl ?_
      exact loop2 n _ τ (by omega) (Nat.le_refl _) rfl t8 t7 t5 t6 hF hO
    refine x_iload_n (E_X5_takeWord_0 9 rfl) rfl ?_
    refine x_aload_n (E_X5_takeWord_0 10 rfl) rfl ?_
    refine x_getIe (v := τ 41 1) (E_X5_takeWord_0 11 rfl) fl_X5_25 rfl (by decide) rfl ?_
    refine x_icmp_ge (E_X5_takeWord_0 12 rfl) (by omega) (by omega) (fun c1 => ?_) (fun c1 => ?_)
    · exact done (by omega)
    · have t9 := ht.2 e (by omega) (by omega)
      refine x_aload_n (E_X5_takeWord_0 13 rfl) rfl ?_
      refine x_getR (E_X5_takeWord_0 14 rfl) fl_X5_11 rfl (by decide) rfl ?_
      refine x_iload_n (E_X5_takeWord_0 15 rfl) rfl ?_
      refine x_ialde (f := τ 42) (E_X5_takeWord_0 16 rfl) rfl (by decide) (by omega) rfl ?_
      refine x_bipush (z := 97) (E_X5_takeWord_0 17 rfl) (by decide) ?_
      refine x_icmp_lt (E_X5_takeWord_0 18 rfl) (by omega) (by decide) (fun c2 => ?_) (fun c2 => ?_)
      · exact done (by omega)
      · refine x_aload_n (E_X5_takeWord_0 19 rfl) rfl ?_
        refine x_getR (E_X5_takeWord_0 20 rfl) fl_X5_11 rfl (by decide) rfl ?_
        refine x_iload_n (E_X5_takeWord_0 21 rfl) rfl ?_
        refine x_ialde (f := τ 42) (E_X5_takeWord_0 22 rfl) rfl (by decide) (by omega) rfl ?_
        refine x_bipush (z := 122) (E_X5_takeWord_0 23 rfl) (by decide) ?_
        refine x_icmp_gt (E_X5_takeWord_0 24 rfl) (by omega) (by decide) (fun c3 => ?_) (fun c3 => ?_)
        · exact done (by omega)
        · refine x_iinc (E_X5_takeWord_0 25 rfl) rfl rfl ?_
          refine x_goto (E_X5_takeWord_0 26 rfl) ?_
          have c9 : e < σ 41 1 ∧ 97 ≤ σ 42 e ∧ σ 42 e ≤ 122 := by omega
          rw [scS_on c9] at hs
          have lt : e < (weS (σ 42) (σ 41 1) (σ 41 7)) := by
            have := scS_rg (tx := σ 42) (lo := 97) (hi := 122) (show e + 1 ≤ σ 41 1 by omega)
            omega
          exact ih (m - 1) (by omega) _ _ (by omega) (by omega) hs t8 t7 t5 t6 hF hO
  refine x_aload_n (E_X5_takeWord_0 0 rfl) rfl ?_
  refine z_callVv (E_X5_takeWord_0 1 rfl) ml_X5_37 mv_X5_skipBlanks rfl (by decide) (by decide) (c_X5_skipBlanks ht h0) (by decide) rfl rfl (Nat.le_of_ble_eq_true rfl) (fun τ9 h9 => ?_)
  obtain ⟨b1, b2, b3⟩ := h9
  refine x_aload_n (E_X5_takeWord_0 2 rfl) rfl ?_
  refine x_aload_n (E_X5_takeWord_0 3 rfl) rfl ?_
  refine x_getIe (v := τ9 41 7) (E_X5_takeWord_0 4 rfl) fl_X5_28 rfl (by decide) rfl ?_
  refine x_putI (E_X5_takeWord_0 5 rfl) fl_X5_48 rfl (by decide) ?_
  refine x_aload_n (E_X5_takeWord_0 6 rfl) rfl ?_
  refine x_getIe (v := τ9 41 7) (E_X5_takeWord_0 7 rfl) fl_X5_28 rfl (by decide) rfl ?_
  refine x_istore_n (E_X5_takeWord_0 8 rfl) rfl ?_
  refine loop1 _ _ _ rfl ?_ ?_ b1 b1 (b3 5 (by decide)) (b3 6 (by decide)) (b2.up (by decide)) ((b3.sub (by decide)).up (by decide))
  · show (blS (σ 42) (σ 41 1) (σ 41 7)) ≤ τ9 41 7 ∧ τ9 41 7 ≤ _
    omega
  · show scS (σ 42) (σ 41 1) 97 122 (τ9 41 7) = _
    rw [b1]; rfl

