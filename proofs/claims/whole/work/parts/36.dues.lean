/-! sums; dues -/
variable {l : Launch} {G : GC} {σ : Nat → Int → Int}

def sumS (f : Int → Int) : Nat → Int
  | 0 => 0
  | n + 1 => sumS f n + f n
theorem sumS_i {f : Int → Int} {i : Int} (h : 0 ≤ i) : sumS f (i + 1).toNat = sumS f i.toNat + f i := by
  rw [show (i + 1).toNat = i.toNat + 1 by omega]
  show sumS f i.toNat + f (i.toNat : Nat) = _
  rw [show ((i.toNat : Nat) : Int) = i by omega]
theorem sumS_cong {f g : Int → Int} : ∀ {n : Nat}, (∀ j, 0 ≤ j → j < (n : Int) → f j = g j) → sumS f n = sumS g n
  | 0, _ => rfl
  | n + 1, h => by
    show sumS f n + f n = sumS g n + g n
    rw [sumS_cong (n := n) (fun j a b => h j a (by omega)), h n (by omega) (by omega)]
theorem sumS_rg {f : Int → Int} {B : Int} : ∀ {n : Nat}, (∀ j, 0 ≤ j → j < (n : Int) → 0 ≤ f j ∧ f j ≤ B) → 0 ≤ sumS f n ∧ sumS f n ≤ n * B
  | 0, _ => ⟨Int.le_refl _, by simp [sumS]⟩
  | n + 1, h => by
    have a := sumS_rg (n := n) (fun j a b => h j a (by omega))
    have b := h n (by omega) (by omega)
    show 0 ≤ sumS f n + f n ∧ sumS f n + f n ≤ ((n + 1 : Nat) : Int) * B
    rw [show ((n + 1 : Nat) : Int) * B = n * B + B by rw [Int.natCast_add, Int.add_mul]; omega]
    omega
theorem sumS_0 {f : Int → Int} : ∀ {n : Nat}, (∀ j, 0 ≤ j → j < (n : Int) → f j = 0) → sumS f n = 0
  | 0, _ => rfl
  | n + 1, h => by
    show sumS f n + f n = 0
    rw [sumS_0 (n := n) (fun j a b => h j a (by omega)), h n (by omega) (by omega)]
    rfl
/-- some p of the first n -/
def anyS (p : Int → Bool) : Nat → Bool
  | 0 => false
  | n + 1 => anyS p n || p n
theorem anyS_i {p : Int → Bool} {i : Int} (h : 0 ≤ i) : anyS p (i + 1).toNat = (anyS p i.toNat || p i) := by
  rw [show (i + 1).toNat = i.toNat + 1 by omega]
  show (anyS p i.toNat || p (i.toNat : Nat)) = _
  rw [show ((i.toNat : Nat) : Int) = i by omega]
theorem anyS_no {p : Int → Bool} : ∀ {n : Nat}, anyS p n = false → ∀ j, 0 ≤ j → j < (n : Int) → p j = false
  | 0, _, j, a, b => absurd b (by omega)
  | n + 1, h, j, a, b => by
    have h : (anyS p n || p n) = false := h
    rw [Bool.or_eq_false_iff] at h
    by_cases e : j = n
    · rw [e]; exact h.2
    · exact anyS_no h.1 j a (by omega)
theorem anyS_cong {p q : Int → Bool} : ∀ {n : Nat}, (∀ j, 0 ≤ j → j < (n : Int) → p j = q j) → anyS p n = anyS q n
  | 0, _ => rfl
  | n + 1, h => by
    show (anyS p n || p n) = (anyS q n || q n)
    rw [anyS_cong (n := n) (fun j a b => h j a (by omega)), h n (by omega) (by omega)]
/-- v where a is h -/
def slS (a v : Int → Int) (h : Int) : Int → Int := fun k => if a k = h then v k else 0
def owS (a v : Int → Int) (n : Nat) (h : Int) : Int := sumS (slS a v h) n
def hsS (co b : Int → Int) (n : Nat) (g : Int → Int) (h : Int) : Int := co h + sumS (slS b g h) n
def rdS (a b v co : Int → Int) (n : Nat) (g : Int → Int) : Int → Int := fun d => if hsS co b n g (a d) < owS a v n (a d) then v d * hsS co b n g (a d) / owS a v n (a d) else v d
def chS (a b v co : Int → Int) (n : Nat) (g : Int → Int) : Bool := anyS (fun d => decide (rdS a b v co n g d ≠ g d)) n
def goS (a b v co : Int → Int) (n : Nat) : Nat → (Int → Int) → Int → (Int → Int) × Int
  | 0, g, c => (g, c)
  | r + 1, g, c => if chS a b v co n g = true then goS a b v co n r (rdS a b v co n g) (c + 1) else (g, c)
theorem slS_rg {a v : Int → Int} {h B : Int} {n : Nat} (hv : ∀ j, 0 ≤ j → j < (n : Int) → 0 ≤ v j ∧ v j ≤ B) : 0 ≤ sumS (slS a v h) n ∧ sumS (slS a v h) n ≤ n * B := sumS_rg (fun j x y => by
  have := hv j x y
  unfold slS
  split <;> omega)
theorem slS_cong {a v w : Int → Int} {h : Int} {n : Nat} (hv : ∀ j, 0 ≤ j → j < (n : Int) → v j = w j) : sumS (slS a v h) n = sumS (slS a w h) n := sumS_cong (fun j x y => by
  unfold slS
  rw [hv j x y])
theorem hsS_cong {co b g g' : Int → Int} {n : Nat} {h : Int} (hg : ∀ j, 0 ≤ j → j < (n : Int) → g j = g' j) : hsS co b n g h = hsS co b n g' h := by
  unfold hsS
  rw [slS_cong hg]
/-- the dues as they are kept -/
def DuOk (n : Nat) (a b v co : Int → Int) : Prop := n ≤ 24 ∧ (∀ i, 0 ≤ i → i < (n : Int) → (0 ≤ a i ∧ a i ≤ 7) ∧ (0 ≤ b i ∧ b i ≤ 7) ∧ (1 ≤ v i ∧ v i ≤ 9999)) ∧ ∀ h, 0 ≤ h → h < 8 → 0 ≤ co h ∧ co h ≤ 9999
theorem hsS_rg {a b v co g : Int → Int} {n : Nat} {h : Int} (hd : DuOk n a b v co) (hh : 0 ≤ h ∧ h ≤ 7) (hg : ∀ j, 0 ≤ j → j < (n : Int) → 0 ≤ g j ∧ g j ≤ 9999) : 0 ≤ hsS co b n g h ∧ hsS co b n g h ≤ 300000 := by
  have h1 := slS_rg (a := b) (h := h) hg
  have h2 := hd.2.2 h hh.1 (by omega)
  have h3 := hd.1
  unfold hsS
  omega
theorem owS_rg {a b v co : Int → Int} {n : Nat} {h : Int} (hd : DuOk n a b v co) : 0 ≤ owS a v n h ∧ owS a v n h ≤ 300000 := by
  have h1 := slS_rg (a := a) (h := h) (v := v) (B := 9999) (n := n) (fun j x y => by have := hd.2.1 j x y; omega)
  have h3 := hd.1
  unfold owS
  omega
theorem part_rg {v h o : Int} (hv : 0 ≤ v ∧ v ≤ 9999) (hh : 0 ≤ h ∧ h < o) (ho : o ≤ 300000) : (0 ≤ v * h ∧ v * h ≤ 9999 * 300000) ∧ 0 ≤ v * h / o ∧ v * h / o ≤ v := by
  refine ⟨⟨Int.mul_nonneg hv.1 hh.1, Int.mul_le_mul hv.2 (by omega) hh.1 (by omega)⟩, Int.ediv_nonneg (Int.mul_nonneg hv.1 hh.1) (by omega), ?_⟩
  refine Int.ediv_le_of_le_mul (by omega) ?_
  exact Int.mul_le_mul_of_nonneg_left (by omega) hv.1
theorem rdS_rg {a b v co g : Int → Int} {n : Nat} (hd : DuOk n a b v co) (hg : ∀ j, 0 ≤ j → j < (n : Int) → 0 ≤ g j ∧ g j ≤ 9999) {j : Int} (h0 : 0 ≤ j) (h1 : j < (n : Int)) : 0 ≤ rdS a b v co n g j ∧ rdS a b v co n g j ≤ 9999 := by
  have d := hd.2.1 j h0 h1
  have x := hsS_rg hd d.1 hg
  have y := owS_rg (h := a j) hd
  unfold rdS
  split
  · rename_i h
    have := part_rg (v := v j) (h := hsS co b n g (a j)) (o := owS a v n (a j)) (by omega) (by omega) (by omega)
    omega
  · omega
theorem rdS_cong {a b v co g g' : Int → Int} {n : Nat} (hg : ∀ j, 0 ≤ j → j < (n : Int) → g j = g' j) : rdS a b v co n g = rdS a b v co n g' := by
  funext d
  unfold rdS
  rw [hsS_cong hg]
theorem chS_cong {a b v co g g' : Int → Int} {n : Nat} (hg : ∀ j, 0 ≤ j → j < (n : Int) → g j = g' j) : chS a b v co n g = chS a b v co n g' := by
  unfold chS
  rw [rdS_cong hg]
  exact anyS_cong (fun j x y => by rw [hg j x y])

theorem c_X11_owes {h : Int} (hh : 0 ≤ h ∧ h ≤ 7) (hn : 0 ≤ σ 114 63 ∧ σ 114 63 ≤ 24) (ha : ∀ i, 0 ≤ i → i < σ 114 63 → 0 ≤ σ 162 i ∧ σ 162 i ≤ 7) : CI l G M_X11_owes 0 [vr 114, vi h] σ (IP (0 + sumS (slS (σ 162) (σ 164) h) (σ 114 63).toNat) σ) := by
  refine Ct.of rfl (Nat.le_of_ble_eq_true rfl) ?_
  have loop : ∀ (k : Nat) (i s : Int), i = σ 114 63 - k → k ≤ (σ 114 63).toNat → s = 0 + sumS (slS (σ 162) (σ 164) h) i.toNat → XI l G M_X11_owes 0 4 [some (vr 114), some (vi h), some (vi s), some (vi i)] [] σ (IP (0 + sumS (slS (σ 162) (σ 164) h) (σ 114 63).toNat) σ) := by
    intro k
    induction k using Nat.strongRecOn with
    | _ k ih =>
    intro i s hi hk hs
    refine x_iload_n (E_X11_owes_0 4 rfl) rfl ?_
    refine x_aload_n (E_X11_owes_0 5 rfl) rfl ?_
    refine x_getIe (v := σ 114 63) (E_X11_owes_0 6 rfl) fl_X11_390 rfl (by decide) rfl ?_
    refine x_icmp_ge (E_X11_owes_0 7 rfl) (by omega) (by omega) (fun c1 => ?_) (fun c1 => ?_)
    · refine x_iload_n (E_X11_owes_0 25 rfl) rfl ?_
      refine z_iret (E_X11_owes_0 26 rfl) trivial ?_
      exact ⟨by rw [hs, show i = σ 114 63 by omega], rfl⟩
    · have a9 := ha i (by omega) (by omega)
      refine x_iload_n (E_X11_owes_0 8 rfl) rfl ?_
      refine x_aload_n (E_X11_owes_0 9 rfl) rfl ?_
      refine x_getR (E_X11_owes_0 10 rfl) fl_X11_156 rfl (by decide) rfl ?_
      refine x_iload_n (E_X11_owes_0 11 rfl) rfl ?_
      refine x_ialde (f := σ 162) (E_X11_owes_0 12 rfl) rfl (by decide) (by omega) rfl ?_
      refine x_iload_n (E_X11_owes_0 13 rfl) rfl ?_
      refine x_icmp_ne (E_X11_owes_0 14 rfl) (by omega) (by omega) (fun c2 => ?_) (fun c2 => ?_)
      · refine x_iconst (E_X11_owes_0 20 rfl) ?_
        refine x_iadd (E_X11_owes_0 21 rfl) ?_
        refine x_istore_n (E_X11_owes_0 22 rfl) rfl ?_
        refine x_iinc (E_X11_owes_0 23 rfl) rfl rfl ?_
        refine x_goto (E_X11_owes_0 24 rfl) ?_
        refine ih (k - 1) (by omega) _ _ (by omega) (by omega) ?_
        rw [sumS_i (by omega)]
        dsimp only [slS]
        repeat' split
        all_goals first | omega | (exfalso; omega)
      · refine x_aload_n (E_X11_owes_0 15 rfl) rfl ?_
        refine x_getR (E_X11_owes_0 16 rfl) fl_X11_162 rfl (by decide) rfl ?_
        refine x_iload_n (E_X11_owes_0 17 rfl) rfl ?_
        refine x_ialde (f := σ 164) (E_X11_owes_0 18 rfl) rfl (by decide) (by omega) rfl ?_
        refine x_goto (E_X11_owes_0 19 rfl) ?_
        refine x_iadd (E_X11_owes_0 21 rfl) ?_
        refine x_istore_n (E_X11_owes_0 22 rfl) rfl ?_
        refine x_iinc (E_X11_owes_0 23 rfl) rfl rfl ?_
        refine x_goto (E_X11_owes_0 24 rfl) ?_
        refine ih (k - 1) (by omega) _ _ (by omega) (by omega) ?_
        rw [sumS_i (by omega)]
        dsimp only [slS]
        repeat' split
        all_goals first | omega | (exfalso; omega)
  refine x_iconst (E_X11_owes_0 0 rfl) ?_
  refine x_istore_n (E_X11_owes_0 1 rfl) rfl ?_
  refine x_iconst (E_X11_owes_0 2 rfl) ?_
  refine x_istore_n (E_X11_owes_0 3 rfl) rfl ?_
  exact loop (σ 114 63).toNat 0 _ (by omega) (Nat.le_refl _) (by show _ = 0 + 0; omega)

theorem c_X11_gives {h : Int} (hh : 0 ≤ h ∧ h ≤ 7) (hn : 0 ≤ σ 114 63 ∧ σ 114 63 ≤ 24) (ha : ∀ i, 0 ≤ i → i < σ 114 63 → 0 ≤ σ 162 i ∧ σ 162 i ≤ 7) : CI l G M_X11_gives 0 [vr 114, vi h] σ (IP (0 + sumS (slS (σ 162) (σ 165) h) (σ 114 63).toNat) σ) := by
  refine Ct.of rfl (Nat.le_of_ble_eq_true rfl) ?_
  have loop : ∀ (k : Nat) (i s : Int), i = σ 114 63 - k → k ≤ (σ 114 63).toNat → s = 0 + sumS (slS (σ 162) (σ 165) h) i.toNat → XI l G M_X11_gives 0 4 [some (vr 114), some (vi h), some (vi s), some (vi i)] [] σ (IP (0 + sumS (slS (σ 162) (σ 165) h) (σ 114 63).toNat) σ) := by
    intro k
    induction k using Nat.strongRecOn with
    | _ k ih =>
    intro i s hi hk hs
    refine x_iload_n (E_X11_gives_0 4 rfl) rfl ?_
    refine x_aload_n (E_X11_gives_0 5 rfl) rfl ?_
    refine x_getIe (v := σ 114 63) (E_X11_gives_0 6 rfl) fl_X11_390 rfl (by decide) rfl ?_
    refine x_icmp_ge (E_X11_gives_0 7 rfl) (by omega) (by omega) (fun c1 => ?_) (fun c1 => ?_)
    · refine x_iload_n (E_X11_gives_0 25 rfl) rfl ?_
      refine z_iret (E_X11_gives_0 26 rfl) trivial ?_
      exact ⟨by rw [hs, show i = σ 114 63 by omega], rfl⟩
    · have a9 := ha i (by omega) (by omega)
      refine x_iload_n (E_X11_gives_0 8 rfl) rfl ?_
      refine x_aload_n (E_X11_gives_0 9 rfl) rfl ?_
      refine x_getR (E_X11_gives_0 10 rfl) fl_X11_156 rfl (by decide) rfl ?_
      refine x_iload_n (E_X11_gives_0 11 rfl) rfl ?_
      refine x_ialde (f := σ 162) (E_X11_gives_0 12 rfl) rfl (by decide) (by omega) rfl ?_
      refine x_iload_n (E_X11_gives_0 13 rfl) rfl ?_
      refine x_icmp_ne (E_X11_gives_0 14 rfl) (by omega) (by omega) (fun c2 => ?_) (fun c2 => ?_)
      · refine x_iconst (E_X11_gives_0 20 rfl) ?_
        refine x_iadd (E_X11_gives_0 21 rfl) ?_
        refine x_istore_n (E_X11_gives_0 22 rfl) rfl ?_
        refine x_iinc (E_X11_gives_0 23 rfl) rfl rfl ?_
        refine x_goto (E_X11_gives_0 24 rfl) ?_
        refine ih (k - 1) (by omega) _ _ (by omega) (by omega) ?_
        rw [sumS_i (by omega)]
        dsimp only [slS]
        repeat' split
        all_goals first | omega | (exfalso; omega)
      · refine x_aload_n (E_X11_gives_0 15 rfl) rfl ?_
        refine x_getR (E_X11_gives_0 16 rfl) fl_X11_165 rfl (by decide) rfl ?_
        refine x_iload_n (E_X11_gives_0 17 rfl) rfl ?_
        refine x_ialde (f := σ 165) (E_X11_gives_0 18 rfl) rfl (by decide) (by omega) rfl ?_
        refine x_goto (E_X11_gives_0 19 rfl) ?_
        refine x_iadd (E_X11_gives_0 21 rfl) ?_
        refine x_istore_n (E_X11_gives_0 22 rfl) rfl ?_
        refine x_iinc (E_X11_gives_0 23 rfl) rfl rfl ?_
        refine x_goto (E_X11_gives_0 24 rfl) ?_
        refine ih (k - 1) (by omega) _ _ (by omega) (by omega) ?_
        rw [sumS_i (by omega)]
        dsimp only [slS]
        repeat' split
        all_goals first | omega | (exfalso; omega)
  refine x_iconst (E_X11_gives_0 0 rfl) ?_
  refine x_istore_n (E_X11_gives_0 1 rfl) rfl ?_
  refine x_iconst (E_X11_gives_0 2 rfl) ?_
  refine x_istore_n (E_X11_gives_0 3 rfl) rfl ?_
  exact loop (σ 114 63).toNat 0 _ (by omega) (Nat.le_refl _) (by show _ = 0 + 0; omega)

theorem c_X11_has {h : Int} (hh : 0 ≤ h ∧ h ≤ 7) (hn : 0 ≤ σ 114 63 ∧ σ 114 63 ≤ 24) (ha : ∀ i, 0 ≤ i → i < σ 114 63 → 0 ≤ σ 163 i ∧ σ 163 i ≤ 7) : CI l G M_X11_has 0 [vr 114, vi h] σ (IP (σ 167 h + sumS (slS (σ 163) (σ 165) h) (σ 114 63).toNat) σ) := by
  refine Ct.of rfl (Nat.le_of_ble_eq_true rfl) ?_
  have loop : ∀ (k : Nat) (i s : Int), i = σ 114 63 - k → k ≤ (σ 114 63).toNat → s = σ 167 h + sumS (slS (σ 163) (σ 165) h) i.toNat → XI l G M_X11_has 0 9 [some (vr 114), some (vi h), some (vi s), some (vi i)] [] σ (IP (σ 167 h + sumS (slS (σ 163) (σ 165) h) (σ 114 63).toNat) σ) := by
    intro k
    induction k using Nat.strongRecOn with
    | _ k ih =>
    intro i s hi hk hs
    refine x_iload_n (E_X11_has_0 7 rfl) rfl ?_
    refine x_aload_n (E_X11_has_0 8 rfl) rfl ?_
    refine x_getIe (v := σ 114 63) (E_X11_has_0 9 rfl) fl_X11_390 rfl (by decide) rfl ?_
    refine x_icmp_ge (E_X11_has_0 10 rfl) (by omega) (by omega) (fun c1 => ?_) (fun c1 => ?_)
    · refine x_iload_n (E_X11_has_0 28 rfl) rfl ?_
      refine z_iret (E_X11_has_0 29 rfl) trivial ?_
      exact ⟨by rw [hs, show i = σ 114 63 by omega], rfl⟩
    · have a9 := ha i (by omega) (by omega)
      refine x_iload_n (E_X11_has_0 11 rfl) rfl ?_
      refine x_aload_n (E_X11_has_0 12 rfl) rfl ?_
      refine x_getR (E_X11_has_0 13 rfl) fl_X11_159 rfl (by decide) rfl ?_
      refine x_iload_n (E_X11_has_0 14 rfl) rfl ?_
      refine x_ialde (f := σ 163) (E_X11_has_0 15 rfl) rfl (by decide) (by omega) rfl ?_
      refine x_iload_n (E_X11_has_0 16 rfl) rfl ?_
      refine x_icmp_ne (E_X11_has_0 17 rfl) (by omega) (by omega) (fun c2 => ?_) (fun c2 => ?_)
      · refine x_iconst (E_X11_has_0 23 rfl) ?_
        refine x_iadd (E_X11_has_0 24 rfl) ?_
        refine x_istore_n (E_X11_has_0 25 rfl) rfl ?_
        refine x_iinc (E_X11_has_0 26 rfl) rfl rfl ?_
        refine x_goto (E_X11_has_0 27 rfl) ?_
        refine ih (k - 1) (by omega) _ _ (by omega) (by omega) ?_
        rw [sumS_i (by omega)]
        dsimp only [slS]
        repeat' split
        all_goals first | omega | (exfalso; omega)
      · refine x_aload_n (E_X11_has_0 18 rfl) rfl ?_
        refine x_getR (E_X11_has_0 19 rfl) fl_X11_165 rfl (by decide) rfl ?_
        refine x_iload_n (E_X11_has_0 20 rfl) rfl ?_
        refine x_ialde (f := σ 165) (E_X11_has_0 21 rfl) rfl (by decide) (by omega) rfl ?_
        refine x_goto (E_X11_has_0 22 rfl) ?_
        refine x_iadd (E_X11_has_0 24 rfl) ?_
        refine x_istore_n (E_X11_has_0 25 rfl) rfl ?_
        refine x_iinc (E_X11_has_0 26 rfl) rfl rfl ?_
        refine x_goto (E_X11_has_0 27 rfl) ?_
        refine ih (k - 1) (by omega) _ _ (by omega) (by omega) ?_
        rw [sumS_i (by omega)]
        dsimp only [slS]
        repeat' split
        all_goals first | omega | (exfalso; omega)
  refine x_aload_n (E_X11_has_0 0 rfl) rfl ?_
  refine x_getR (E_X11_has_0 1 rfl) fl_X11_171 rfl (by decide) rfl ?_
  refine x_iload_n (E_X11_has_0 2 rfl) rfl ?_
  refine x_ialde (f := σ 167) (E_X11_has_0 3 rfl) rfl (by decide) (by omega) rfl ?_
  refine x_istore_n (E_X11_has_0 4 rfl) rfl ?_
  refine x_iconst (E_X11_has_0 5 rfl) ?_
  refine x_istore_n (E_X11_has_0 6 rfl) rfl ?_
  exact loop (σ 114 63).toNat 0 _ (by omega) (Nat.le_refl _) (by show _ = σ 167 h + 0; omega)

theorem c_X1_givenBy {h : Int} (hh : 0 ≤ h ∧ h ≤ 7) (hn : 0 ≤ σ 96 4 ∧ σ 96 4 ≤ 24) (ha : ∀ i, 0 ≤ i → i < σ 96 4 → 0 ≤ σ 97 i ∧ σ 97 i ≤ 7) : CI l G M_X1_givenBy 0 [vr 96, vi h] σ (IP (0 + sumS (slS (σ 97) (σ 100) h) (σ 96 4).toNat) σ) := by
  refine Ct.of rfl (Nat.le_of_ble_eq_true rfl) ?_
  have loop : ∀ (k : Nat) (i s : Int), i = σ 96 4 - k → k ≤ (σ 96 4).toNat → s = 0 + sumS (slS (σ 97) (σ 100) h) i.toNat → XI l G M_X1_givenBy 0 4 [some (vr 96), some (vi h), some (vi s), some (vi i)] [] σ (IP (0 + sumS (slS (σ 97) (σ 100) h) (σ 96 4).toNat) σ) := by
    intro k
    induction k using Nat.strongRecOn with
    | _ k ih =>
    intro i s hi hk hs
    refine x_iload_n (E_X1_givenBy_0 4 rfl) rfl ?_
    refine x_aload_n (E_X1_givenBy_0 5 rfl) rfl ?_
    refine x_getIe (v := σ 96 4) (E_X1_givenBy_0 6 rfl) fl_X1_33 rfl (by decide) rfl ?_
    refine x_icmp_ge (E_X1_givenBy_0 7 rfl) (by omega) (by omega) (fun c1 => ?_) (fun c1 => ?_)
    · refine x_iload_n (E_X1_givenBy_0 25 rfl) rfl ?_
      refine z_iret (E_X1_givenBy_0 26 rfl) trivial ?_
      exact ⟨by rw [hs, show i = σ 96 4 by omega], rfl⟩
    · have a9 := ha i (by omega) (by omega)
      refine x_iload_n (E_X1_givenBy_0 8 rfl) rfl ?_
      refine x_aload_n (E_X1_givenBy_0 9 rfl) rfl ?_
      refine x_getR (E_X1_givenBy_0 10 rfl) fl_X1_11 rfl (by decide) rfl ?_
      refine x_iload_n (E_X1_givenBy_0 11 rfl) rfl ?_
      refine x_ialde (f := σ 97) (E_X1_givenBy_0 12 rfl) rfl (by decide) (by omega) rfl ?_
      refine x_iload_n (E_X1_givenBy_0 13 rfl) rfl ?_
      refine x_icmp_ne (E_X1_givenBy_0 14 rfl) (by omega) (by omega) (fun c2 => ?_) (fun c2 => ?_)
      · refine x_iconst (E_X1_givenBy_0 20 rfl) ?_
        refine x_iadd (E_X1_givenBy_0 21 rfl) ?_
        refine x_istore_n (E_X1_givenBy_0 22 rfl) rfl ?_
        refine x_iinc (E_X1_givenBy_0 23 rfl) rfl rfl ?_
        refine x_goto (E_X1_givenBy_0 24 rfl) ?_
        refine ih (k - 1) (by omega) _ _ (by omega) (by omega) ?_
        rw [sumS_i (by omega)]
        dsimp only [slS]
        repeat' split
        all_goals first | omega | (exfalso; omega)
      · refine x_aload_n (E_X1_givenBy_0 15 rfl) rfl ?_
        refine x_getR (E_X1_givenBy_0 16 rfl) fl_X1_21 rfl (by decide) rfl ?_
        refine x_iload_n (E_X1_givenBy_0 17 rfl) rfl ?_
        refine x_ialde (f := σ 100) (E_X1_givenBy_0 18 rfl) rfl (by decide) (by omega) rfl ?_
        refine x_goto (E_X1_givenBy_0 19 rfl) ?_
        refine x_iadd (E_X1_givenBy_0 21 rfl) ?_
        refine x_istore_n (E_X1_givenBy_0 22 rfl) rfl ?_
        refine x_iinc (E_X1_givenBy_0 23 rfl) rfl rfl ?_
        refine x_goto (E_X1_givenBy_0 24 rfl) ?_
        refine ih (k - 1) (by omega) _ _ (by omega) (by omega) ?_
        rw [sumS_i (by omega)]
        dsimp only [slS]
        repeat' split
        all_goals first | omega | (exfalso; omega)
  refine x_iconst (E_X1_givenBy_0 0 rfl) ?_
  refine x_istore_n (E_X1_givenBy_0 1 rfl) rfl ?_
  refine x_iconst (E_X1_givenBy_0 2 rfl) ?_
  refine x_istore_n (E_X1_givenBy_0 3 rfl) rfl ?_
  exact loop (σ 96 4).toNat 0 _ (by omega) (Nat.le_refl _) (by show _ = 0 + 0; omega)

theorem c_X1_isShort {h : Int} (hh : 0 ≤ h ∧ h ≤ 7) (h1 : rgi (σ 102 h)) (h2 : rgi (σ 103 h)) : CI l G M_X1_isShort 0 [vr 96, vi h] σ (BP (σ 103 h < σ 102 h) σ) := by
  refine Ct.of rfl (Nat.le_of_ble_eq_true rfl) ?_
  refine x_aload_n (E_X1_isShort_0 0 rfl) rfl ?_
  refine x_getR (E_X1_isShort_0 1 rfl) fl_X1_30 rfl (by decide) rfl ?_
  refine x_iload_n (E_X1_isShort_0 2 rfl) rfl ?_
  refine x_ialde (f := σ 103) (E_X1_isShort_0 3 rfl) rfl (by decide) (by omega) rfl ?_
  refine x_aload_n (E_X1_isShort_0 4 rfl) rfl ?_
  refine x_getR (E_X1_isShort_0 5 rfl) fl_X1_27 rfl (by decide) rfl ?_
  refine x_iload_n (E_X1_isShort_0 6 rfl) rfl ?_
  refine x_ialde (f := σ 102) (E_X1_isShort_0 7 rfl) rfl (by decide) (by omega) rfl ?_
  refine x_icmp_ge (E_X1_isShort_0 8 rfl) (by omega) (by omega) (fun c1 => ?_) (fun c1 => ?_)
  · refine x_iconst (E_X1_isShort_0 11 rfl) ?_
    refine z_iret (E_X1_isShort_0 12 rfl) (Or.inl rfl) ?_
    exact ⟨rfl, by first | exact Or.inl ⟨rfl, by omega⟩ | exact Or.inr ⟨rfl, by omega⟩⟩
  · refine x_iconst (E_X1_isShort_0 9 rfl) ?_
    refine x_goto (E_X1_isShort_0 10 rfl) ?_
    refine z_iret (E_X1_isShort_0 12 rfl) (Or.inr rfl) ?_
    exact ⟨rfl, by first | exact Or.inl ⟨rfl, by omega⟩ | exact Or.inr ⟨rfl, by omega⟩⟩
theorem c_X1_partOf {v h : Int} (hv : 0 ≤ v ∧ v ≤ 9999) (hh : 0 ≤ h ∧ h ≤ 7) (h1 : 0 ≤ σ 102 h ∧ σ 102 h ≤ 300000) (h2 : 0 ≤ σ 103 h ∧ σ 103 h ≤ 300000) : CI l G M_X1_partOf 1 [vr 96, vi v, vi h] σ (IP (if σ 103 h < σ 102 h then v * σ 103 h / σ 102 h else v) σ) := by
  refine Ct.of rfl (Nat.le_of_ble_eq_true rfl) ?_
  refine x_aload_n (E_X1_partOf_0 0 rfl) rfl ?_
  refine x_iload_n (E_X1_partOf_0 1 rfl) rfl ?_
  refine z_callVi (E_X1_partOf_0 2 rfl) ml_X1_54 mv_X1_isShort rfl (by decide) (by decide) (c_X1_isShort hh (by omega) (by omega)) (by decide) rfl rfl (Nat.le_of_ble_eq_true rfl) (fun z9 τ9 h9 => ?_)
  obtain ⟨rfl, ⟨rfl, c1⟩ | ⟨rfl, c1⟩⟩ := h9
  · refine x_if_eq (E_X1_partOf_0 3 rfl) (by decide) (fun c9 => absurd c9 (by decide)) (fun _ => ?_)
    refine x_aload_n (E_X1_partOf_0 4 rfl) rfl ?_
    refine x_getR (E_X1_partOf_0 5 rfl) fl_X1_27 rfl (by decide) rfl ?_
    refine x_iload_n (E_X1_partOf_0 6 rfl) rfl ?_
    refine x_ialde (f := σ 102) (E_X1_partOf_0 7 rfl) rfl (by decide) (by omega) rfl ?_
    refine x_if_gt (E_X1_partOf_0 8 rfl) (by omega) (fun c2 => ?_) (fun c2 => ?_)
    · have p9 := part_rg (v := v) (h := σ 103 h) (o := σ 102 h) hv (by omega) (by omega)
      refine x_iload_n (E_X1_partOf_0 11 rfl) rfl ?_
      refine x_i2l (E_X1_partOf_0 12 rfl) (by omega) ?_
      refine x_aload_n (E_X1_partOf_0 13 rfl) rfl ?_
      refine x_getR (E_X1_partOf_0 14 rfl) fl_X1_30 rfl (by decide) rfl ?_
      refine x_iload_n (E_X1_partOf_0 15 rfl) rfl ?_
      refine x_ialde (f := σ 103) (E_X1_partOf_0 16 rfl) rfl (by decide) (by omega) rfl ?_
      refine x_i2l (E_X1_partOf_0 17 rfl) (by omega) ?_
      refine x_lmul (E_X1_partOf_0 18 rfl) ?_
      refine x_aload_n (E_X1_partOf_0 19 rfl) rfl ?_
      refine x_getR (E_X1_partOf_0 20 rfl) fl_X1_27 rfl (by decide) rfl ?_
      refine x_iload_n (E_X1_partOf_0 21 rfl) rfl ?_
      refine x_ialde (f := σ 102) (E_X1_partOf_0 22 rfl) rfl (by decide) (by omega) rfl ?_
      refine x_i2l (E_X1_partOf_0 23 rfl) (by omega) ?_
      refine x_ldiv (E_X1_partOf_0 24 rfl) (by omega) (by omega) ?_
      refine x_l2i (E_X1_partOf_0 25 rfl) ?_
      refine z_iret (E_X1_partOf_0 26 rfl) trivial ?_
      exact ⟨(l2i_s (by omega)).trans (if_pos (by omega)).symm, rfl⟩
    · refine x_iload_n (E_X1_partOf_0 9 rfl) rfl ?_
      refine z_iret (E_X1_partOf_0 10 rfl) trivial ?_
      exact ⟨(if_neg (by omega)).symm, rfl⟩
  · refine x_if_eq (E_X1_partOf_0 3 rfl) (by decide) (fun _ => ?_) (fun c9 => absurd (by decide) c9)
    refine x_iload_n (E_X1_partOf_0 9 rfl) rfl ?_
    refine z_iret (E_X1_partOf_0 10 rfl) trivial ?_
    exact ⟨(if_neg (by omega)).symm, rfl⟩
theorem c_X1_shortCount (h1 : ∀ h, 0 ≤ h → h < 8 → rgi (σ 102 h)) (h2 : ∀ h, 0 ≤ h → h < 8 → rgi (σ 103 h)) : CI l G M_X1_shortCount 1 [vr 96] σ (IP (0 + sumS (fun h => if σ 103 h < σ 102 h then 1 else 0) 8) σ) := by
  refine Ct.of rfl (Nat.le_of_ble_eq_true rfl) ?_
  have loop : ∀ (k : Nat) (i s : Int), i = 8 - k → k ≤ 8 → s = 0 + sumS (fun h => if σ 103 h < σ 102 h then 1 else 0) i.toNat → XI l G M_X1_shortCount 1 4 [some (vr 96), some (vi s), some (vi i)] [] σ (IP (0 + sumS (fun h => if σ 103 h < σ 102 h then 1 else 0) 8) σ) := by
    intro k
    induction k using Nat.strongRecOn with
    | _ k ih =>
    intro i s hi hk hs
    refine x_iload_n (E_X1_shortCount_0 4 rfl) rfl ?_
    refine x_bipush (z := 8) (E_X1_shortCount_0 5 rfl) (by decide) ?_
    refine x_icmp_ge (E_X1_shortCount_0 6 rfl) (by omega) (by decide) (fun c1 => ?_) (fun c1 => ?_)
    · refine x_iload_n (E_X1_shortCount_0 19 rfl) rfl ?_
      refine z_iret (E_X1_shortCount_0 20 rfl) trivial ?_
      exact ⟨by rw [hs, show i = 8 by omega]; rfl, rfl⟩
    · have a9 := h1 i (by omega) (by omega)
      have b9 := h2 i (by omega) (by omega)
      refine x_iload_n (E_X1_shortCount_0 7 rfl) rfl ?_
      refine x_aload_n (E_X1_shortCount_0 8 rfl) rfl ?_
      refine x_iload_n (E_X1_shortCount_0 9 rfl) rfl ?_
      refine z_callVi (E_X1_shortCount_0 10 rfl) ml_X1_54 mv_X1_isShort rfl (by decide) (by decide) (c_X1_isShort (by omega) a9 b9) (by decide) rfl rfl (Nat.le_of_ble_eq_true rfl) (fun z9 τ9 h9 => ?_)
      obtain ⟨rfl, ⟨rfl, c2⟩ | ⟨rfl, c2⟩⟩ := h9
      · refine x_if_eq (E_X1_shortCount_0 11 rfl) (by decide) (fun c9 => absurd c9 (by decide)) (fun _ => ?_)
        refine x_iconst (E_X1_shortCount_0 12 rfl) ?_
        refine x_goto (E_X1_shortCount_0 13 rfl) ?_
        refine x_iadd (E_X1_shortCount_0 15 rfl) ?_
        refine x_istore_n (E_X1_shortCount_0 16 rfl) rfl ?_
        refine x_iinc (E_X1_shortCount_0 17 rfl) rfl rfl ?_
        refine x_goto (E_X1_shortCount_0 18 rfl) ?_
        refine ih (k - 1) (by omega) _ _ (by omega) (by omega) ?_
        rw [sumS_i (by omega)]
        try dsimp only
        split
        all_goals first | omega | (exfalso; omega)
      · refine x_if_eq (E_X1_shortCount_0 11 rfl) (by decide) (fun _ => ?_) (fun c9 => absurd (by decide) c9)
        refine x_iconst (E_X1_shortCount_0 14 rfl) ?_
        refine x_iadd (E_X1_shortCount_0 15 rfl) ?_
        refine x_istore_n (E_X1_shortCount_0 16 rfl) rfl ?_
        refine x_iinc (E_X1_shortCount_0 17 rfl) rfl rfl ?_
        refine x_goto (E_X1_shortCount_0 18 rfl) ?_
        refine ih (k - 1) (by omega) _ _ (by omega) (by omega) ?_
        rw [sumS_i (by omega)]
        try dsimp only
        split
        all_goals first | omega | (exfalso; omega)
  refine x_iconst (E_X1_shortCount_0 0 rfl) ?_
  refine x_istore_n (E_X1_shortCount_0 1 rfl) rfl ?_
  refine x_iconst (E_X1_shortCount_0 2 rfl) ?_
  refine x_istore_n (E_X1_shortCount_0 3 rfl) rfl ?_
  exact loop 8 0 _ (by omega) (Nat.le_refl _) (by show _ = (0 : Int) + 0; omega)

