/-! by kinds; the class's data -/
theorem okS_1 {dt : Nat → Int → Int} {hd : Int → Int → Int} {i : Int} {y : Nat → Int → Int} (k : dt 0 i = 1) (th : y 1 (dt 2 i) = 1) : okS dt hd y i = decide (y 5 (dt 2 i) = dt 4 i ∧ ¬ (y 9 (dt 2 i) ≠ -1 ∧ hd (dt 1 i) 2 = 1)) := by
  unfold okS
  rw [if_neg (by omega), if_neg (by omega), if_neg (fun h => h th), if_pos k]
theorem okS_2 {dt : Nat → Int → Int} {hd : Int → Int → Int} {i : Int} {y : Nat → Int → Int} (k : dt 0 i = 2) (th : y 1 (dt 2 i) = 1) : okS dt hd y i = decide (dt 5 i < y 4 (dt 2 i) ∧ y 7 (dt 2 i) = -1 ∧ y 9 (dt 2 i) = -1) := by
  unfold okS
  rw [if_neg (by omega), if_neg (by omega), if_neg (fun h => h th), if_neg (by omega), if_pos k]
theorem okS_3 {dt : Nat → Int → Int} {hd : Int → Int → Int} {i : Int} {y : Nat → Int → Int} (k : dt 0 i = 3) (th : y 1 (dt 2 i) = 1) : okS dt hd y i = decide (y 7 (dt 2 i) = -1 ∧ y 5 (dt 2 i) = y 6 (dt 2 i)) := by
  unfold okS
  rw [if_neg (by omega), if_neg (by omega), if_neg (fun h => h th), if_neg (by omega), if_neg (by omega), if_pos k]
theorem okS_4 {dt : Nat → Int → Int} {hd : Int → Int → Int} {i : Int} {y : Nat → Int → Int} (k : dt 0 i = 4) (th : y 1 (dt 2 i) = 1) : okS dt hd y i = decide (y 7 (dt 2 i) ≠ -1) := by
  unfold okS
  rw [if_neg (by omega), if_neg (by omega), if_neg (fun h => h th), if_neg (by omega), if_neg (by omega), if_neg (by omega), if_pos k]
theorem okS_5 {dt : Nat → Int → Int} {hd : Int → Int → Int} {i : Int} {y : Nat → Int → Int} (k : dt 0 i = 5) (th : y 1 (dt 2 i) = 1) : okS dt hd y i = decide (y 9 (dt 2 i) = -1) := by
  unfold okS
  rw [if_neg (by omega), if_neg (by omega), if_neg (fun h => h th), if_neg (by omega), if_neg (by omega), if_neg (by omega), if_neg (by omega), if_pos k]
theorem okS_6 {dt : Nat → Int → Int} {hd : Int → Int → Int} {i : Int} {y : Nat → Int → Int} (k : dt 0 i = 6) (th : y 1 (dt 2 i) = 1) : okS dt hd y i = decide (y 9 (dt 2 i) ≠ -1) := by
  unfold okS
  rw [if_neg (by omega), if_neg (by omega), if_neg (fun h => h th), if_neg (by omega), if_neg (by omega), if_neg (by omega), if_neg (by omega), if_neg (by omega), if_pos k]
theorem okS_7 {dt : Nat → Int → Int} {hd : Int → Int → Int} {i : Int} {y : Nat → Int → Int} (k : dt 0 i = 7) (th : y 1 (dt 2 i) = 1) : okS dt hd y i = decide (dt 5 i ≤ y 4 (dt 2 i) ∧ dt 5 i ≤ thS (dt 6) y (y 3 (dt 2 i)) ∧ y 7 (dt 2 i) = -1 ∧ y 9 (dt 2 i) = -1) := by
  unfold okS
  rw [if_neg (by omega), if_neg (by omega), if_neg (fun h => h th), if_neg (by omega), if_neg (by omega), if_neg (by omega), if_neg (by omega), if_neg (by omega), if_neg (by omega), if_pos k]
theorem okS_9 {dt : Nat → Int → Int} {hd : Int → Int → Int} {i : Int} {y : Nat → Int → Int} (k : dt 0 i = 9) (th : y 1 (dt 2 i) = 1) : okS dt hd y i = decide (y 5 (dt 2 i) ≠ dt 3 i) := by
  unfold okS
  rw [if_neg (by omega), if_neg (by omega), if_neg (fun h => h th), if_neg (by omega), if_neg (by omega), if_neg (by omega), if_neg (by omega), if_neg (by omega), if_neg (by omega), if_neg (by omega)]
theorem okS_no {dt : Nat → Int → Int} {hd : Int → Int → Int} {i : Int} {y : Nat → Int → Int} (k : ¬ (dt 0 i = 0 ∨ dt 0 i = 10) ∧ dt 0 i ≠ 8) (th : y 1 (dt 2 i) ≠ 1) : okS dt hd y i = false := by
  unfold okS
  rw [if_neg k.1, if_neg k.2, if_pos th]
theorem okS_t {dt : Nat → Int → Int} {hd : Int → Int → Int} {i : Int} {y : Nat → Int → Int} (k : dt 0 i = 0 ∨ dt 0 i = 10) : okS dt hd y i = true := by
  unfold okS
  rw [if_pos k]
theorem okS_8 {dt : Nat → Int → Int} {hd : Int → Int → Int} {i : Int} {y : Nat → Int → Int} (k : dt 0 i = 8) : okS dt hd y i = decide (dt 5 i ≤ thS (dt 6) y (dt 2 i)) := by
  unfold okS
  rw [if_neg (by omega), if_pos k]
theorem efS_0 {dt : Nat → Int → Int} {hd : Int → Int → Int} {n : Nat} {i : Int} {y : Nat → Int → Int} (k : dt 0 i = 0) : efS dt hd n y i = setc (mkS y i (dt 2 i) (dt 5 i) (dt 3 i) (dt 3 i)) 12 (fun _ => y 12 0 + (if thS (dt 6) y (dt 2 i) < onS (mkS y i (dt 2 i) (dt 5 i) (dt 3 i) (dt 3 i)) n (dt 2 i) then 1 else 0)) := by
  unfold efS
  rw [if_pos k]
theorem efS_1 {dt : Nat → Int → Int} {hd : Int → Int → Int} {n : Nat} {i : Int} {y : Nat → Int → Int} (k : dt 0 i = 1) : efS dt hd n y i = upq (upq (upq y 6 (dt 2 i) (if y 6 (dt 2 i) = dt 4 i ∨ (dt 5 i = 1 ∧ hd (dt 1 i) 1 = 1) then dt 3 i else y 6 (dt 2 i))) 5 (dt 2 i) (dt 3 i)) 9 (dt 2 i) (if dt 5 i = 1 then -1 else y 9 (dt 2 i)) := by
  unfold efS
  rw [if_neg (by omega), if_pos k]
theorem efS_2 {dt : Nat → Int → Int} {hd : Int → Int → Int} {n : Nat} {i : Int} {y : Nat → Int → Int} (k : dt 0 i = 2) : efS dt hd n y i = mkS (upq y 4 (dt 2 i) (y 4 (dt 2 i) - dt 5 i)) i (y 3 (dt 2 i)) (dt 5 i) (y 5 (dt 2 i)) (y 6 (dt 2 i)) := by
  unfold efS
  rw [if_neg (by omega), if_neg (by omega), if_pos k]
theorem efS_3 {dt : Nat → Int → Int} {hd : Int → Int → Int} {n : Nat} {i : Int} {y : Nat → Int → Int} (k : dt 0 i = 3) : efS dt hd n y i = upq (upq y 7 (dt 2 i) (dt 3 i)) 8 (dt 2 i) (dt 5 i) := by
  unfold efS
  rw [if_neg (by omega), if_neg (by omega), if_neg (by omega), if_pos k]
theorem efS_4 {dt : Nat → Int → Int} {hd : Int → Int → Int} {n : Nat} {i : Int} {y : Nat → Int → Int} (k : dt 0 i = 4) : efS dt hd n y i = upq (upq y 7 (dt 2 i) (-1)) 8 (dt 2 i) 0 := by
  unfold efS
  rw [if_neg (by omega), if_neg (by omega), if_neg (by omega), if_neg (by omega), if_pos k]
theorem efS_5 {dt : Nat → Int → Int} {hd : Int → Int → Int} {n : Nat} {i : Int} {y : Nat → Int → Int} (k : dt 0 i = 5) : efS dt hd n y i = upq y 9 (dt 2 i) (dt 3 i) := by
  unfold efS
  rw [if_neg (by omega), if_neg (by omega), if_neg (by omega), if_neg (by omega), if_neg (by omega), if_pos k]
theorem efS_6 {dt : Nat → Int → Int} {hd : Int → Int → Int} {n : Nat} {i : Int} {y : Nat → Int → Int} (k : dt 0 i = 6) : efS dt hd n y i = upq y 9 (dt 2 i) (-1) := by
  unfold efS
  rw [if_neg (by omega), if_neg (by omega), if_neg (by omega), if_neg (by omega), if_neg (by omega), if_neg (by omega), if_pos k]
theorem efS_7 {dt : Nat → Int → Int} {hd : Int → Int → Int} {n : Nat} {i : Int} {y : Nat → Int → Int} (k : dt 0 i = 7) : efS dt hd n y i = upq (upq y 4 (dt 2 i) (y 4 (dt 2 i) - dt 5 i)) 10 (y 3 (dt 2 i)) (y 10 (y 3 (dt 2 i)) + dt 5 i) := by
  unfold efS
  rw [if_neg (by omega), if_neg (by omega), if_neg (by omega), if_neg (by omega), if_neg (by omega), if_neg (by omega), if_neg (by omega), if_pos k]
theorem efS_8 {dt : Nat → Int → Int} {hd : Int → Int → Int} {n : Nat} {i : Int} {y : Nat → Int → Int} (k : dt 0 i = 8) : efS dt hd n y i = upq y 11 (dt 2 i) (y 11 (dt 2 i) + dt 5 i) := by
  unfold efS
  rw [if_neg (by omega), if_neg (by omega), if_neg (by omega), if_neg (by omega), if_neg (by omega), if_neg (by omega), if_neg (by omega), if_neg (by omega), if_pos k]
theorem efS_9 {dt : Nat → Int → Int} {hd : Int → Int → Int} {n : Nat} {i : Int} {y : Nat → Int → Int} (k : dt 0 i = 9) : efS dt hd n y i = upq y 5 (dt 2 i) (dt 3 i) := by
  unfold efS
  rw [if_neg (by omega), if_neg (by omega), if_neg (by omega), if_neg (by omega), if_neg (by omega), if_neg (by omega), if_neg (by omega), if_neg (by omega), if_neg (by omega), if_pos k]
theorem efS_10 {dt : Nat → Int → Int} {hd : Int → Int → Int} {n : Nat} {i : Int} {y : Nat → Int → Int} (k : dt 0 i = 10) : efS dt hd n y i = y := by
  unfold efS
  rw [if_neg (by omega), if_neg (by omega), if_neg (by omega), if_neg (by omega), if_neg (by omega), if_neg (by omega), if_neg (by omega), if_neg (by omega), if_neg (by omega), if_neg (by omega)]
theorem enS_y {dt : Nat → Int → Int} {hd : Int → Int → Int} {n : Nat} {i : Int} {y : Nat → Int → Int} (h : okS dt hd y i = true) : enS dt hd n y i = efS dt hd n y i := if_pos h
theorem enS_n {dt : Nat → Int → Int} {hd : Int → Int → Int} {n : Nat} {i : Int} {y : Nat → Int → Int} (h : okS dt hd y i = false) : enS dt hd n y i = y := if_neg (by rw [h]; decide)
/-- the class's data are dt, hd -/
def LD (dt : Nat → Int → Int) (hd : Int → Int → Int) (n : Nat) (nl : Int) (σ : Nat → Int → Int) : Prop := (σ 8 = dt 0 ∧ σ 9 = dt 1 ∧ σ 11 = dt 2 ∧ σ 12 = dt 3 ∧ σ 13 = dt 4 ∧ σ 14 = dt 5 ∧ σ 3 = dt 6) ∧ (σ 7 9 = (n : Int) ∧ σ 1 5 = nl) ∧ TmOk σ ∧ RepL (σ 38) (srtL (σ 18) (fun _ => true) (σ 17 8).toNat) ∧ RCache (σ 17 7) (σ 17 8) (σ 18) (σ 19) (cdq σ) (vlq σ) (σ 40) ∧ ∀ d, heldS (σ 18) (σ 19) (cdq σ) (vlq σ) (σ 17 8).toNat d = hd d
theorem LD.low {dt : Nat → Int → Int} {hd : Int → Int → Int} {n : Nat} {nl : Int} {σ τ : Nat → Int → Int} (hL : LD dt hd n nl σ) (h : ∀ k, k ≤ 44 → τ k = σ k) : LD dt hd n nl τ := by
  have hcd : cdq τ = cdq σ := by
    unfold cdq
    rw [h 21 (by decide), h 22 (by decide), h 23 (by decide), h 24 (by decide), h 25 (by decide), h 26 (by decide), h 27 (by decide), h 28 (by decide)]
  have hvl : vlq τ = vlq σ := by
    unfold vlq
    rw [h 30 (by decide), h 31 (by decide), h 32 (by decide), h 33 (by decide), h 34 (by decide), h 35 (by decide), h 36 (by decide), h 37 (by decide)]
  unfold LD TmOk at hL ⊢
  rw [h 8 (by decide), h 9 (by decide), h 11 (by decide), h 12 (by decide), h 13 (by decide), h 14 (by decide), h 3 (by decide), h 7 (by decide), h 1 (by decide), h 17 (by decide), h 18 (by decide), h 19 (by decide), h 38 (by decide), h 40 (by decide), hcd, hvl]
  exact hL
theorem LD.hold {dt : Nat → Int → Int} {hd : Int → Int → Int} {n : Nat} {nl d : Int} {σ τ : Nat → Int → Int} (hL : LD dt hd n nl σ) (h : HoldP d σ τ) (hd9 : 0 ≤ d ∧ d ≤ 2000) : LD dt hd n nl τ := by
  obtain ⟨⟨a1, a2, a3, a4, a5, a6, a7⟩, ⟨b1, b2⟩, c, e, f, g⟩ := hL
  have hF := h.2.2.1
  refine ⟨⟨(hF 8 (by decide)).trans a1, (hF 9 (by decide)).trans a2, (hF 11 (by decide)).trans a3, (hF 12 (by decide)).trans a4, (hF 13 (by decide)).trans a5, (hF 14 (by decide)).trans a6, (hF 3 (by decide)).trans a7⟩, ⟨(congrFun (hF 7 (by decide)) 9).trans b1, (congrFun (hF 1 (by decide)) 5).trans b2⟩, h.ok c, h.ord e, h.cache2 hd9, fun d' => ?_⟩
  rw [h.held]
  exact g d'
/-- the state of the story whose object is cell t -/
def SC (t : Nat) (n nl : Int) (τ : Nat → Int → Int) : Nat → Int → Int := StG (fun j => τ (t + j)) (τ t 15) n nl

