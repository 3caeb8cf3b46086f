/-! share, news, rent -/
variable {l : Launch} {G : GC} {σ τ : Nat → Int → Int}

/-- one step of Euclid halves the product -/
theorem eu_step {x y m : Nat} (h0 : 0 < y) (h1 : y < x) (h2 : x * y < 2 ^ (m + 1)) : x % y < y ∧ y * (x % y) < 2 ^ m := by
  have a := Nat.mod_lt x h0
  refine ⟨a, ?_⟩
  have b : x % y + y ≤ x := by
    have := Nat.div_add_mod x y
    have c : 1 ≤ x / y := (Nat.le_div_iff_mul_le h0).mpr (by omega)
    have e : y * 1 ≤ y * (x / y) := Nat.mul_le_mul_left y c
    omega
  have c : y * (2 * (x % y)) ≤ y * x := Nat.mul_le_mul_left y (by omega)
  rw [Nat.mul_comm x y, Nat.pow_succ] at h2
  have e : y * (2 * (x % y)) = 2 * (y * (x % y)) := by rw [Nat.mul_left_comm]
  have f : y * (2 * (x % y)) < y * x ∨ y * (2 * (x % y)) = y * x := by omega
  omega
theorem gcd_step {x y : Nat} : Nat.gcd x y = Nat.gcd y (x % y) := by
  rw [Nat.gcd_comm, Nat.gcd_rec, Nat.gcd_comm]
theorem mod_c {x y : Nat} : ((x : Int) % (y : Int)) = ((x % y : Nat) : Int) := (Int.natCast_emod x y).symm
set_option maxHeartbeats 1000000 in
theorem c_X10_commonDivisor {a b : Nat} (ha : a < 2 ^ 31) (hb : b < 2 ^ 31) (hab : a * b < 2 ^ 31) : CI l G M_X10_commonDivisor 0 [vi (a : Int), vi (b : Int)] σ (fun z υ => z = ((Nat.gcd a b : Nat) : Int) ∧ σ = υ) := by
  refine Ct.of rfl (Nat.le_of_ble_eq_true rfl) ?_
  have loop : ∀ (k x y m : Nat) (st : Int) (o : Option AV), st + k = 64 → Nat.gcd x y = Nat.gcd a b → x < 2 ^ 31 → y < 2 ^ 31 → ((st = 0 ∧ x * y < 2 ^ 31) ∨ (1 ≤ st ∧ y < x ∧ x * y < 2 ^ m ∧ (m : Int) + st = 33)) → XI l G M_X10_commonDivisor 0 7 [some (vi (a : Int)), some (vi (b : Int)), some (vi (x : Int)), some (vi (y : Int)), some (vi st), o] [] σ (fun z υ => z = ((Nat.gcd a b : Nat) : Int) ∧ σ = υ) := by
    intro k
    induction k using Nat.strongRecOn with
    | _ k ih =>
    intro x y m st o hk hg hx hy hm
    have yz : y ≠ 0 → (1 ≤ st → 1 ≤ m) := fun h q => by
      rcases hm with hm | hm
      · omega
      · refine Classical.byContradiction (fun e => ?_)
        have e : m = 0 := by omega
        have w : 1 * 1 ≤ x * y := Nat.mul_le_mul (by omega) (by omega)
        rw [e] at hm
        have := hm.2.2.1
        omega
    have s64 : 64 ≤ st → y = 0 := fun h => Classical.byContradiction (fun q => by
      have := yz q
      rcases hm with hm | hm
      · omega
      · omega)
    refine x_iload (E_X10_commonDivisor_0 6 rfl) rfl ?_
    refine x_bipush (z := 64) (E_X10_commonDivisor_0 7 rfl) (by decide) ?_
    refine x_icmp_ge (E_X10_commonDivisor_0 8 rfl) (by omega) (by decide) (fun c1 => ?_) (fun c1 => ?_)
    · refine x_iload_n (E_X10_commonDivisor_0 21 rfl) rfl ?_
      refine z_iret (E_X10_commonDivisor_0 22 rfl) trivial ?_
      have y0 : y = 0 := by first | exact s64 (by omega) | omega
      rw [y0, Nat.gcd_zero_right] at hg
      exact ⟨by rw [hg], rfl⟩
    · refine x_iload_n (E_X10_commonDivisor_0 9 rfl) rfl ?_
      refine x_if_eq (E_X10_commonDivisor_0 10 rfl) (by omega) (fun c2 => ?_) (fun c2 => ?_)
      · refine x_iload_n (E_X10_commonDivisor_0 21 rfl) rfl ?_
        refine z_iret (E_X10_commonDivisor_0 22 rfl) trivial ?_
        have y0 : y = 0 := by first | exact s64 (by omega) | omega
        rw [y0, Nat.gcd_zero_right] at hg
        exact ⟨by rw [hg], rfl⟩
      · refine x_iload_n (E_X10_commonDivisor_0 11 rfl) rfl ?_
        refine x_iload_n (E_X10_commonDivisor_0 12 rfl) rfl ?_
        refine x_irem (E_X10_commonDivisor_0 13 rfl) (by omega) (by omega) ?_
        rw [mod_c]
        have ym := Nat.mod_lt x (show 0 < y by omega)
        refine x_istore (E_X10_commonDivisor_0 14 rfl) rfl ?_
        refine x_iload_n (E_X10_commonDivisor_0 15 rfl) rfl ?_
        refine x_istore_n (E_X10_commonDivisor_0 16 rfl) rfl ?_
        refine x_iload (E_X10_commonDivisor_0 17 rfl) rfl ?_
        refine x_istore_n (E_X10_commonDivisor_0 18 rfl) rfl ?_
        refine x_iinc (E_X10_commonDivisor_0 19 rfl) rfl rfl ?_
        refine x_goto (E_X10_commonDivisor_0 20 rfl) ?_
        refine ih (k - 1) (by omega) y (x % y) (if st = 0 then 32 else m - 1) _ _ (by omega) (by rw [← hg]; exact gcd_step.symm) hy (by omega) (Or.inr ?_)
        rcases hm with hm | hm
        · rw [if_pos hm.1]
          refine ⟨by omega, ym, ?_, by omega⟩
          have w : y * (x % y) ≤ y * x := Nat.mul_le_mul_left y (Nat.mod_le x y)
          have := hm.2
          rw [Nat.mul_comm x y] at this
          exact Nat.lt_of_le_of_lt w (Nat.lt_of_lt_of_le this (by decide))
        · rw [if_neg (by omega)]
          have m1 := yz (by omega) hm.1
          obtain ⟨m', rfl⟩ : ∃ m', m = m' + 1 := ⟨m - 1, by omega⟩
          have := eu_step (by omega) hm.2.1 hm.2.2.1
          exact ⟨by omega, ym, this.2, by omega⟩
  refine x_iload_n (E_X10_commonDivisor_0 0 rfl) rfl ?_
  refine x_istore_n (E_X10_commonDivisor_0 1 rfl) rfl ?_
  refine x_iload_n (E_X10_commonDivisor_0 2 rfl) rfl ?_
  refine x_istore_n (E_X10_commonDivisor_0 3 rfl) rfl ?_
  refine x_iconst (E_X10_commonDivisor_0 4 rfl) ?_
  refine x_istore (E_X10_commonDivisor_0 5 rfl) rfl ?_
  exact loop 64 a b 0 0 none (by omega) rfl ha hb (Or.inl ⟨rfl, hab⟩)
theorem c_X11_gcd {a b : Nat} (ha : a < 2 ^ 31) (hb : b < 2 ^ 31) : CI l G M_X11_gcd 0 [vi (a : Int), vi (b : Int)] σ (fun z υ => z = ((Nat.gcd a b : Nat) : Int) ∧ σ = υ) := by
  refine Ct.of rfl (Nat.le_of_ble_eq_true rfl) ?_
  have loop : ∀ (y x : Nat) (o : Option AV), Nat.gcd x y = Nat.gcd a b → x < 2 ^ 31 → y < 2 ^ 31 → XI l G M_X11_gcd 0 4 [some (vi (a : Int)), some (vi (b : Int)), some (vi (x : Int)), some (vi (y : Int)), o] [] σ (fun z υ => z = ((Nat.gcd a b : Nat) : Int) ∧ σ = υ) := by
    intro y
    induction y using Nat.strongRecOn with
    | _ y ih =>
    intro x o hg hx hy
    refine x_iload_n (E_X11_gcd_0 4 rfl) rfl ?_
    refine x_if_eq (E_X11_gcd_0 5 rfl) (by omega) (fun c1 => ?_) (fun c1 => ?_)
    · refine x_iload_n (E_X11_gcd_0 15 rfl) rfl ?_
      refine z_iret (E_X11_gcd_0 16 rfl) trivial ?_
      have y0 : y = 0 := by omega
      rw [y0, Nat.gcd_zero_right] at hg
      exact ⟨by rw [hg], rfl⟩
    · refine x_iload_n (E_X11_gcd_0 6 rfl) rfl ?_
      refine x_iload_n (E_X11_gcd_0 7 rfl) rfl ?_
      refine x_irem (E_X11_gcd_0 8 rfl) (by omega) (by omega) ?_
      rw [mod_c]
      have ym := Nat.mod_lt x (show 0 < y by omega)
      refine x_istore (E_X11_gcd_0 9 rfl) rfl ?_
      refine x_iload_n (E_X11_gcd_0 10 rfl) rfl ?_
      refine x_istore_n (E_X11_gcd_0 11 rfl) rfl ?_
      refine x_iload (E_X11_gcd_0 12 rfl) rfl ?_
      refine x_istore_n (E_X11_gcd_0 13 rfl) rfl ?_
      refine x_goto (E_X11_gcd_0 14 rfl) ?_
      exact ih (x % y) ym y _ (by rw [← hg]; exact gcd_step.symm) hy (by omega)
  refine x_iload_n (E_X11_gcd_0 0 rfl) rfl ?_
  refine x_istore_n (E_X11_gcd_0 1 rfl) rfl ?_
  refine x_iload_n (E_X11_gcd_0 2 rfl) rfl ?_
  refine x_istore_n (E_X11_gcd_0 3 rfl) rfl ?_
  exact loop b a none rfl ha hb

/-- the answer of share -/
def shU (ck : Int → Int) (y : Nat → Int → Int) (n : Nat) (w : Int) : Int := if thS ck y (y 3 w) < onS y n (y 3 w) then y 4 w * thS ck y (y 3 w) else y 4 w
def shD (ck : Int → Int) (y : Nat → Int → Int) (n : Nat) (w : Int) : Int := if thS ck y (y 3 w) < onS y n (y 3 w) then onS y n (y 3 w) else 1
def shZ (ck : Int → Int) (y : Nat → Int → Int) (n : Nat) (w q : Int) : Int := if y 1 w = 1 then (if q = 0 then shU ck y n w else shD ck y n w) / ((Nat.gcd (shU ck y n w).toNat (shD ck y n w).toNat : Nat) : Int) else -1003
theorem sh_rg {n : Nat} {nl w : Int} {ck : Int → Int} {y : Nat → Int → Int} (hy : YOk n nl ck y) (th : y 1 w = 1) (hn : n ≤ 120) (hc : ∀ x, 0 ≤ x → x < nl → ck x ≤ 200) : (0 ≤ shU ck y n w ∧ shU ck y n w ≤ 40000) ∧ (1 ≤ shD ck y n w ∧ shD ck y n w ≤ 24000) := by
  have a := hy.2.1 w th
  have b := onS_rg hy (l := y 3 w)
  have c := hy.2.2 (y 3 w)
  have c' := c.2.2 a.2.1.1 a.2.1.2
  have e := hc (y 3 w) a.2.1.1 a.2.1.2
  have t : 0 ≤ thS ck y (y 3 w) ∧ thS ck y (y 3 w) ≤ 200 := by unfold thS; omega
  have m := mul_rg (a := y 4 w) (b := thS ck y (y 3 w)) (A := 200) (B := 200) a.2.2.1 t
  unfold shU shD
  split <;> omega
theorem gcd_b {u d : Int} (hu : 0 ≤ u ∧ u ≤ 40000) (hd : 1 ≤ d ∧ d ≤ 24000) : u.toNat < 2 ^ 31 ∧ d.toNat < 2 ^ 31 ∧ u.toNat * d.toNat < 2 ^ 31 ∧ 1 ≤ ((Nat.gcd u.toNat d.toNat : Nat) : Int) ∧ ((Nat.gcd u.toNat d.toNat : Nat) : Int) ≤ 24000 := by
  have a : u.toNat * d.toNat ≤ 40000 * 24000 := Nat.mul_le_mul (by omega) (by omega)
  have g1 := Nat.gcd_pos_of_pos_right u.toNat (show 0 < d.toNat by omega)
  have g2 := Nat.gcd_le_right (n := d.toNat) u.toNat (by omega)
  refine ⟨by omega, by omega, by omega, by omega, by omega⟩
theorem c_X10_shareAsTold {w d kn b : Int} (hR : RR σ) (h9 : TcP σ d kn τ) (hb : b = 0 ∨ b = 1) (hw : 0 ≤ w ∧ w < σ 7 9) (th : (Yq σ d kn) 1 w = 1) : CI l G M_X10_shareAsTold 2 [vr 0, vi w, vi b] τ (IP ((if b = 1 then shU (σ 3) (Yq σ d kn) (nq σ) w else shD (σ 3) (Yq σ d kn) (nq σ) w) / ((Nat.gcd (shU (σ 3) (Yq σ d kn) (nq σ) w).toNat (shD (σ 3) (Yq σ d kn) (nq σ) w).toNat : Nat) : Int)) τ) := by
  have y1 := h9.1
  have hy : YOk (nq σ) (σ 1 5) (σ 3) (Yq σ d kn) := hR.yok
  have n9 := hR.n9
  have g1 : (Yq σ d kn) 1 w = τ 46 w := by rw [← y1]; exact StG_1 (by omega)
  have g2 := (hy.1 w).1
  have yr := hy.2.1 w th
  obtain ⟨d1, d2, d3, d4, d5, d6, d7, d8, d9⟩ : (0 ≤ w ∧ w < ((nq σ : Nat) : Int)) ∧ τ 46 w = 1 ∧ (Yq σ d kn) 3 w = τ 48 w ∧ (Yq σ d kn) 4 w = τ 49 w ∧ (Yq σ d kn) 5 w = τ 50 w ∧ (Yq σ d kn) 6 w = τ 51 w ∧ (Yq σ d kn) 7 w = τ 52 w ∧ (Yq σ d kn) 8 w = τ 53 w ∧ (Yq σ d kn) 9 w = τ 54 w := by
    have := StG_rd (show SC 45 (nq σ) (σ 1 5) τ 1 w = 1 by rw [y1]; exact th)
    rw [← y1]
    exact this
  have hx : 0 ≤ τ 48 w ∧ τ 48 w < σ 1 5 := by omega
  have rg := sh_rg hy th hR.dok.1 (fun x a b => (hR.dok.2.2.2.1 x a b).2)
  have gb := gcd_b rg.1 rg.2
  have ot := onS_rg hy (l := (Yq σ d kn) 3 w)
  have n120 := hR.dok.1
  have nl12 := hR.lots
  have y2 := hy.2.2 ((Yq σ d kn) 3 w)
  have y3 := y2.2.2 yr.2.1.1 yr.2.1.2
  have ck9 := hR.dok.2.2.2.1 ((Yq σ d kn) 3 w) yr.2.1.1 yr.2.1.2
  have ck9 : 1 ≤ σ 3 ((Yq σ d kn) 3 w) ∧ σ 3 ((Yq σ d kn) 3 w) ≤ 200 := ck9
  have tt : 0 ≤ thS (σ 3) (Yq σ d kn) ((Yq σ d kn) 3 w) ∧ thS (σ 3) (Yq σ d kn) ((Yq σ d kn) 3 w) ≤ 200 := by unfold thS; omega
  refine Ct.of rfl (Nat.le_of_ble_eq_true rfl) ?_
  have j59 : ∀ u dn, u = shU (σ 3) (Yq σ d kn) (nq σ) w → dn = shD (σ 3) (Yq σ d kn) (nq σ) w → XI l G M_X10_shareAsTold 2 59 [some (vr 0), some (vi w), some (vi b), some (vi (τ 48 w)), some (vi u), some (vi dn), none] [] τ (IP ((if b = 1 then shU (σ 3) (Yq σ d kn) (nq σ) w else shD (σ 3) (Yq σ d kn) (nq σ) w) / ((Nat.gcd (shU (σ 3) (Yq σ d kn) (nq σ) w).toNat (shD (σ 3) (Yq σ d kn) (nq σ) w).toNat : Nat) : Int)) τ) := by
    intro u dn hu hdn
    rw [← hu, ← hdn] at rg gb ⊢
    have cg := c_X10_commonDivisor (l := l) (G := G) (σ := τ) gb.1 gb.2.1 gb.2.2.1
    rw [show ((u.toNat : Nat) : Int) = u by omega, show ((dn.toNat : Nat) : Int) = dn by omega] at cg
    refine x_iconst (E_X10_shareAsTold_0 32 rfl) ?_
    refine x_iload (E_X10_shareAsTold_0 33 rfl) rfl ?_
    refine x_iload (E_X10_shareAsTold_0 34 rfl) rfl ?_
    refine z_callSi (E_X10_shareAsTold_0 35 rfl) ml_X10_379 ms_X10_commonDivisor cg (by decide) rfl rfl (Nat.le_of_ble_eq_true rfl) (fun z9 τ9 k9 => ?_)
    obtain ⟨k9, rfl⟩ := k9
    refine x_mmax (E_X10_shareAsTold_0 36 rfl) ml_X10_313 (by omega) (by omega) (by decide) ?_
    rw [show max 1 z9 = z9 by omega, k9]
    refine x_istore (E_X10_shareAsTold_0 37 rfl) rfl ?_
    refine x_iload_n (E_X10_shareAsTold_0 38 rfl) rfl ?_
    refine x_if_eq (E_X10_shareAsTold_0 39 rfl) (by omega) (fun c1 => ?_) (fun c1 => ?_)
    · refine x_iload (E_X10_shareAsTold_0 42 rfl) rfl ?_
      refine x_iload (E_X10_shareAsTold_0 43 rfl) rfl ?_
      refine x_idiv (E_X10_shareAsTold_0 44 rfl) (by omega) (by omega) ?_
      refine z_iret (E_X10_shareAsTold_0 45 rfl) trivial ?_
      exact ⟨by rw [if_neg (by omega)], rfl⟩
    · refine x_iload (E_X10_shareAsTold_0 40 rfl) rfl ?_
      refine x_goto (E_X10_shareAsTold_0 41 rfl) ?_
      refine x_iload (E_X10_shareAsTold_0 43 rfl) rfl ?_
      refine x_idiv (E_X10_shareAsTold_0 44 rfl) (by omega) (by omega) ?_
      refine z_iret (E_X10_shareAsTold_0 45 rfl) trivial ?_
      exact ⟨by rw [if_pos (by omega)], rfl⟩
  refine x_aload_n (E_X10_shareAsTold_0 0 rfl) rfl ?_
  refine x_getR (E_X10_shareAsTold_0 1 rfl) fl_X10_46 rfl (by decide) rfl ?_
  refine x_getR (E_X10_shareAsTold_0 2 rfl) fl_X10_259 rfl (by decide) rfl ?_
  refine x_iload_n (E_X10_shareAsTold_0 3 rfl) rfl ?_
  refine x_ialde (f := τ 48) (E_X10_shareAsTold_0 4 rfl) rfl (by decide) (by omega) rfl ?_
  refine x_istore_n (E_X10_shareAsTold_0 5 rfl) rfl ?_
  refine x_aload_n (E_X10_shareAsTold_0 6 rfl) rfl ?_
  refine x_getR (E_X10_shareAsTold_0 7 rfl) fl_X10_46 rfl (by decide) rfl ?_
  refine x_getR (E_X10_shareAsTold_0 8 rfl) fl_X10_241 rfl (by decide) rfl ?_
  refine x_iload_n (E_X10_shareAsTold_0 9 rfl) rfl ?_
  refine x_ialde (f := τ 49) (E_X10_shareAsTold_0 10 rfl) rfl (by decide) (by omega) rfl ?_
  refine x_istore (E_X10_shareAsTold_0 11 rfl) rfl ?_
  refine x_iconst (E_X10_shareAsTold_0 12 rfl) ?_
  refine x_istore (E_X10_shareAsTold_0 13 rfl) rfl ?_
  refine x_aload_n (E_X10_shareAsTold_0 14 rfl) rfl ?_
  refine x_getR (E_X10_shareAsTold_0 15 rfl) fl_X10_46 rfl (by decide) rfl ?_
  refine x_iload_n (E_X10_shareAsTold_0 16 rfl) rfl ?_
  refine z_callVi (E_X10_shareAsTold_0 17 rfl) ml_X10_274 mv_X7_overOf rfl (by decide) (by decide) (c_X7_overOf_45 hx h9.2.2.1 hR.dok (by rw [h9.1]; exact hR.yok) (by rw [h9.1]; exact h9.2.1)) (by decide) rfl rfl (Nat.le_of_ble_eq_true rfl) (fun z8 τ8 k8 => ?_)
  obtain ⟨z8, rfl⟩ := k8
  rw [y1, ← d3] at z8
  have z8 : _ = max 0 (onS (Yq σ d kn) (nq σ) ((Yq σ d kn) 3 w) - thS (σ 3) (Yq σ d kn) ((Yq σ d kn) 3 w)) := z8
  refine x_if_le (E_X10_shareAsTold_0 18 rfl) (by omega) (fun c1 => ?_) (fun c1 => ?_)
  · 
    refine j59 _ _ ?_ ?_
    · rw [← d4]; exact (if_neg (by omega)).symm
    · exact (if_neg (by omega)).symm
  · refine x_iload (E_X10_shareAsTold_0 19 rfl) rfl ?_
    refine x_aload_n (E_X10_shareAsTold_0 20 rfl) rfl ?_
    refine x_getR (E_X10_shareAsTold_0 21 rfl) fl_X10_46 rfl (by decide) rfl ?_
    refine x_iload_n (E_X10_shareAsTold_0 22 rfl) rfl ?_
    refine z_callVi (E_X10_shareAsTold_0 23 rfl) ml_X10_262 mv_X7_thereOf rfl (by decide) (by decide) (c_X7_thereOf_45 hx h9.2.2.1 hR.dok) (by decide) rfl rfl (Nat.le_of_ble_eq_true rfl) (fun z7 τ7 k7 => ?_)
    obtain ⟨z7, rfl⟩ := k7
    rw [y1, ← d3] at z7
    refine x_imul (E_X10_shareAsTold_0 24 rfl) ?_
    refine x_istore (E_X10_shareAsTold_0 25 rfl) rfl ?_
    refine x_aload_n (E_X10_shareAsTold_0 26 rfl) rfl ?_
    refine x_getR (E_X10_shareAsTold_0 27 rfl) fl_X10_46 rfl (by decide) rfl ?_
    refine x_getR (E_X10_shareAsTold_0 28 rfl) fl_X10_271 rfl (by decide) rfl ?_
    refine x_iload_n (E_X10_shareAsTold_0 29 rfl) rfl ?_
    refine x_ialde (f := τ 57) (E_X10_shareAsTold_0 30 rfl) rfl (by decide) (by omega) rfl ?_
    refine x_istore (E_X10_shareAsTold_0 31 rfl) rfl ?_
    
    refine j59 _ _ ?_ ?_
    
    · rw [z7, ← d4]; exact (if_pos (by omega)).symm
    
    · rw [← d3, h9.2.1 _ (by omega) (by omega)]; exact (if_pos (by omega)).symm

set_option maxHeartbeats 1000000 in
theorem c_X10_share {w d kn q : Int} (hR : RR σ) (q1 : rgi w) (q2 : rgi d) (q3 : rgi kn) (q4 : rgi q) : CI l G M_X10_share 6 [vr 0, vi w, vi d, vi kn, vi q] σ (fun z υ => (¬ ((0 ≤ w ∧ w < σ 7 9) ∧ (σ 8 w = 0 ∨ σ 8 w = 2)) ∧ z = -1001 ∧ υ = σ) ∨ (((0 ≤ w ∧ w < σ 7 9) ∧ (σ 8 w = 0 ∨ σ 8 w = 2)) ∧ ¬ (((0 ≤ d ∧ d ≤ 2000) ∧ 0 ≤ kn ∧ kn ≤ σ 0 0) ∧ 0 ≤ q ∧ q ≤ 1) ∧ z = -1002 ∧ υ = σ) ∨ (((0 ≤ w ∧ w < σ 7 9) ∧ (σ 8 w = 0 ∨ σ 8 w = 2)) ∧ (((0 ≤ d ∧ d ≤ 2000) ∧ 0 ≤ kn ∧ kn ≤ σ 0 0) ∧ 0 ≤ q ∧ q ≤ 1) ∧ z = shZ (σ 3) (Yq σ d kn) (nq σ) w q ∧ Sc σ υ ∧ RR υ)) := by
  have now := hR.now
  have nl12 := hR.lots
  have n120 := hR.n9
  refine Ct.of rfl (Nat.le_of_ble_eq_true rfl) ?_
  refine x_aload_n (E_X10_share_0 0 rfl) rfl ?_
  refine x_getR (E_X10_share_0 1 rfl) fl_X10_23 rfl (by decide) rfl ?_
  refine x_iload_n (E_X10_share_0 2 rfl) rfl ?_
  refine z_callVi (E_X10_share_0 3 rfl) ml_X10_232 mv_X2_isPaper rfl (by decide) (by decide) (c_X2_isPaper q1 (by omega) (fun i a b => (hR.line a b).1)) (by decide) rfl rfl (Nat.le_of_ble_eq_true rfl) (fun z9 τ9 h9 => ?_)
  obtain ⟨rfl, ⟨rfl, c1⟩ | ⟨rfl, c1⟩⟩ := h9
  · refine x_if_ne (E_X10_share_0 4 rfl) (by decide) (fun _ => ?_) (fun c9 => absurd c9 (by decide))
    refine x_aload_n (E_X10_share_0 7 rfl) rfl ?_
    refine x_iload_n (E_X10_share_0 8 rfl) rfl ?_
    refine x_iload_n (E_X10_share_0 9 rfl) rfl ?_
    refine z_callVi (E_X10_share_0 10 rfl) ml_X10_235 mv_X10_isAsked rfl (by decide) (by decide) (c_X10_isAsked q2 q3 now) (by decide) rfl rfl (Nat.le_of_ble_eq_true rfl) (fun z9 τ9 h9 => ?_)
    obtain ⟨rfl, ⟨rfl, c2⟩ | ⟨rfl, c2⟩⟩ := h9
    · refine x_if_eq (E_X10_share_0 11 rfl) (by decide) (fun c9 => absurd c9 (by decide)) (fun _ => ?_)
      refine x_iload (E_X10_share_0 12 rfl) rfl ?_
      refine x_iconst (E_X10_share_0 13 rfl) ?_
      refine x_iconst (E_X10_share_0 14 rfl) ?_
      refine z_callSi (E_X10_share_0 15 rfl) ml_X10_100 ms_X10_within (c_X10_within (by omega) (by omega) (by omega)) (by decide) rfl rfl (Nat.le_of_ble_eq_true rfl) (fun z9 τ9 h9 => ?_)
      obtain ⟨rfl, ⟨rfl, c3⟩ | ⟨rfl, c3⟩⟩ := h9
      · refine x_if_ne (E_X10_share_0 16 rfl) (by decide) (fun _ => ?_) (fun c9 => absurd c9 (by decide))
        refine x_aload_n (E_X10_share_0 19 rfl) rfl ?_
        refine x_getR (E_X10_share_0 20 rfl) fl_X10_46 rfl (by decide) rfl ?_
        refine x_iload_n (E_X10_share_0 21 rfl) rfl ?_
        refine x_iload_n (E_X10_share_0 22 rfl) rfl ?_
        refine z_callVv (E_X10_share_0 23 rfl) ml_X10_174 mv_X7_tell rfl (by decide) (by decide) (tC hR q2 q3) (by decide) rfl rfl (Nat.le_of_ble_eq_true rfl) (fun τ9 h9 => ?_)
        have y1 := h9.1
        have hy : YOk (nq σ) (σ 1 5) (σ 3) (Yq σ d kn) := hR.yok
        have n9 := hR.n9
        have g1 : (Yq σ d kn) 1 w = τ9 46 w := by rw [← y1]; exact StG_1 (by omega)
        have g2 := (hy.1 w).1
        refine x_aload_n (E_X10_share_0 24 rfl) rfl ?_
        refine x_getR (E_X10_share_0 25 rfl) fl_X10_46 rfl (by decide) rfl ?_
        refine x_getR (E_X10_share_0 26 rfl) fl_X10_238 rfl (by decide) rfl ?_
        refine x_iload_n (E_X10_share_0 27 rfl) rfl ?_
        refine x_zalde (f := τ9 46) (E_X10_share_0 28 rfl) rfl (by decide) (by omega) rfl ?_
        refine x_if_eq (E_X10_share_0 29 rfl) (by omega) (fun c4 => ?_) (fun c4 => ?_)
        · refine x_sipush (z := (-1003)) (E_X10_share_0 39 rfl) (by decide) ?_
          refine z_iret (E_X10_share_0 40 rfl) trivial ?_
          exact Or.inr (Or.inr ⟨by omega, by omega, (if_neg (by omega)).symm, h9.sc, h9.rr hR⟩)
        · refine x_aload_n (E_X10_share_0 30 rfl) rfl ?_
          refine x_iload_n (E_X10_share_0 31 rfl) rfl ?_
          refine x_iload (E_X10_share_0 32 rfl) rfl ?_
          refine x_if_ne (E_X10_share_0 33 rfl) (by omega) (fun c5 => ?_) (fun c5 => ?_)
          · refine x_iconst (E_X10_share_0 36 rfl) ?_
            refine z_callVi (E_X10_share_0 37 rfl) ml_X10_277 mv_X10_shareAsTold rfl (by decide) (by decide) (c_X10_shareAsTold hR h9 (by omega) (by omega) (by omega)) (by decide) rfl rfl (Nat.le_of_ble_eq_true rfl) (fun z8 τ8 k8 => ?_)
            obtain ⟨z8, rfl⟩ := k8
            refine x_goto (E_X10_share_0 38 rfl) ?_
            refine z_iret (E_X10_share_0 40 rfl) trivial ?_
            have zz : shZ (σ 3) (Yq σ d kn) (nq σ) w q = (if q = 0 then shU (σ 3) (Yq σ d kn) (nq σ) w else shD (σ 3) (Yq σ d kn) (nq σ) w) / ((Nat.gcd (shU (σ 3) (Yq σ d kn) (nq σ) w).toNat (shD (σ 3) (Yq σ d kn) (nq σ) w).toNat : Nat) : Int) := if_pos (by omega)
            rw [if_neg (by decide)] at z8
            rw [if_neg (by omega)] at zz
            exact Or.inr (Or.inr ⟨by omega, by omega, z8.trans zz.symm, h9.sc, h9.rr hR⟩)
          · refine x_iconst (E_X10_share_0 34 rfl) ?_
            refine x_goto (E_X10_share_0 35 rfl) ?_
            refine z_callVi (E_X10_share_0 37 rfl) ml_X10_277 mv_X10_shareAsTold rfl (by decide) (by decide) (c_X10_shareAsTold hR h9 (by omega) (by omega) (by omega)) (by decide) rfl rfl (Nat.le_of_ble_eq_true rfl) (fun z8 τ8 k8 => ?_)
            obtain ⟨z8, rfl⟩ := k8
            refine x_goto (E_X10_share_0 38 rfl) ?_
            refine z_iret (E_X10_share_0 40 rfl) trivial ?_
            have zz : shZ (σ 3) (Yq σ d kn) (nq σ) w q = (if q = 0 then shU (σ 3) (Yq σ d kn) (nq σ) w else shD (σ 3) (Yq σ d kn) (nq σ) w) / ((Nat.gcd (shU (σ 3) (Yq σ d kn) (nq σ) w).toNat (shD (σ 3) (Yq σ d kn) (nq σ) w).toNat : Nat) : Int) := if_pos (by omega)
            rw [if_pos (by decide)] at z8
            rw [if_pos (by omega)] at zz
            exact Or.inr (Or.inr ⟨by omega, by omega, z8.trans zz.symm, h9.sc, h9.rr hR⟩)
      · refine x_if_ne (E_X10_share_0 16 rfl) (by decide) (fun c9 => absurd c9 (by decide)) (fun _ => ?_)
        refine x_sipush (z := (-1002)) (E_X10_share_0 17 rfl) (by decide) ?_
        refine z_iret (E_X10_share_0 18 rfl) trivial ?_
        exact Or.inr (Or.inl ⟨by omega, by omega, rfl, rfl⟩)
    · refine x_if_eq (E_X10_share_0 11 rfl) (by decide) (fun _ => ?_) (fun c9 => absurd (by decide) c9)
      refine x_sipush (z := (-1002)) (E_X10_share_0 17 rfl) (by decide) ?_
      refine z_iret (E_X10_share_0 18 rfl) trivial ?_
      exact Or.inr (Or.inl ⟨by omega, by omega, rfl, rfl⟩)
  · refine x_if_ne (E_X10_share_0 4 rfl) (by decide) (fun c9 => absurd c9 (by decide)) (fun _ => ?_)
    refine x_sipush (z := (-1001)) (E_X10_share_0 5 rfl) (by decide) ?_
    refine z_iret (E_X10_share_0 6 rfl) trivial ?_
    exact Or.inl ⟨by omega, rfl, rfl⟩
set_option maxHeartbeats 1000000 in
theorem c_X11_share {w d kn q : Int} (hR : RR σ) (sc : Sc σ τ) (q1 : rgi w) (q2 : rgi d) (q3 : rgi kn) (q4 : rgi q) : CI l G M_X11_share 5 [vr 114, vi w, vi d, vi kn, vi q] τ (fun z υ => (¬ ((0 ≤ w ∧ w < σ 7 9) ∧ (σ 8 w = 0 ∨ σ 8 w = 2)) ∧ z = -1001 ∧ υ = τ) ∨ (((0 ≤ w ∧ w < σ 7 9) ∧ (σ 8 w = 0 ∨ σ 8 w = 2)) ∧ ¬ (((0 ≤ d ∧ d ≤ 2000) ∧ 0 ≤ kn ∧ kn ≤ σ 0 0) ∧ 0 ≤ q ∧ q ≤ 1) ∧ z = -1002 ∧ υ = τ) ∨ (((0 ≤ w ∧ w < σ 7 9) ∧ (σ 8 w = 0 ∨ σ 8 w = 2)) ∧ (((0 ≤ d ∧ d ≤ 2000) ∧ 0 ≤ kn ∧ kn ≤ σ 0 0) ∧ 0 ≤ q ∧ q ≤ 1) ∧ z = shZ (σ 3) (Yq σ d kn) (nq σ) w q ∧ Sd τ υ)) := by
  have f0 : τ 114 0 = σ 0 0 := (sc.2 (114, 0) (by decide)).trans hR.1.1
  have f1 : τ 114 1 = σ 1 5 := (sc.2 (114, 1) (by decide)).trans hR.2.1.1
  have f9 : τ 114 9 = σ 7 9 := (sc.2 (114, 9) (by decide)).trans hR.2.2.2.1.1
  have f122 : τ 122 = σ 8 := (sc.1 122 (by decide)).trans hR.2.2.2.1.2.2.1.1
  have now := hR.now
  have nl12 := hR.lots
  have n120 := hR.n9
  refine Ct.of rfl (Nat.le_of_ble_eq_true rfl) ?_
  refine x_aload_n (E_X11_share_0 0 rfl) rfl ?_
  refine x_iload_n (E_X11_share_0 1 rfl) rfl ?_
  refine x_iload_n (E_X11_share_0 2 rfl) rfl ?_
  refine x_iload_n (E_X11_share_0 3 rfl) rfl ?_
  refine x_iload (E_X11_share_0 4 rfl) rfl ?_
  refine x_iconst (E_X11_share_0 5 rfl) ?_
  refine z_callVi (E_X11_share_0 6 rfl) ml_X11_396 mv_X11_whyNot rfl (by decide) (by decide) (c_X11_whyNot hR sc q1 q2 q3 q4 (by omega)) (by decide) rfl rfl (Nat.le_of_ble_eq_true rfl) (fun z9 τ9 k9 => ?_)
  have zr : rgi z9 := by
    rcases k9 with ⟨_, rfl, _⟩ | ⟨_, _, rfl, _⟩ | ⟨_, _, h, _⟩
    · omega
    · omega
    · omega
  refine x_istore (E_X11_share_0 7 rfl) rfl ?_
  refine x_iload (E_X11_share_0 8 rfl) rfl ?_
  refine x_if_eq (E_X11_share_0 9 rfl) (by omega) (fun c1 => ?_) (fun c1 => ?_)
  · obtain ⟨a1, a2, a3, h9⟩ : ((0 ≤ w ∧ w < σ 7 9) ∧ (σ 8 w = 0 ∨ σ 8 w = 2)) ∧ (((0 ≤ d ∧ d ≤ 2000) ∧ 0 ≤ kn ∧ kn ≤ σ 0 0) ∧ 0 ≤ q ∧ q ≤ 1) ∧ (Yq σ d kn) 1 w = 1 ∧ TmP σ d kn τ τ9 := by
      rcases k9 with ⟨_, h, _⟩ | ⟨_, _, h, _⟩ | ⟨p1, p2, h, p4⟩
      · omega
      · omega
      · rcases h with ⟨_, h⟩ | ⟨h, _⟩
        · exact ⟨p1, p2, h, p4⟩
        · omega
    have y1 := h9.1
    have hy : YOk (nq σ) (σ 1 5) (σ 3) (Yq σ d kn) := hR.yok
    have n9 := hR.n9
    have g1 : (Yq σ d kn) 1 w = τ9 142 w := by rw [← y1]; exact StG_1 (by omega)
    have g2 := (hy.1 w).1
    have th : (Yq σ d kn) 1 w = 1 := by omega
    have yr := hy.2.1 w th
    obtain ⟨d1, d2, d3, d4, d5, d6, d7, d8, d9⟩ : (0 ≤ w ∧ w < ((nq σ : Nat) : Int)) ∧ τ9 142 w = 1 ∧ (Yq σ d kn) 3 w = τ9 143 w ∧ (Yq σ d kn) 4 w = τ9 144 w ∧ (Yq σ d kn) 5 w = τ9 145 w ∧ (Yq σ d kn) 6 w = τ9 146 w ∧ (Yq σ d kn) 7 w = τ9 147 w ∧ (Yq σ d kn) 8 w = τ9 148 w ∧ (Yq σ d kn) 9 w = τ9 149 w := by
      have := StG_rd (show SM (nq σ) (σ 1 5) τ9 1 w = 1 by rw [y1]; exact th)
      rw [← y1]
      exact this
    have hx : 0 ≤ τ9 143 w ∧ τ9 143 w < σ 1 5 := by omega
    have hyM : YOk (nq σ) (σ 1 5) (dtq σ 6) (SM (nq σ) (σ 1 5) τ9) := by rw [y1]; exact hR.yok
    have rg := sh_rg hy th hR.dok.1 (fun x a b => (hR.dok.2.2.2.1 x a b).2)
    have gb := gcd_b rg.1 rg.2
    have ot := onS_rg hy (l := (Yq σ d kn) 3 w)
    have n120' := hR.dok.1
    have y2 := hy.2.2 ((Yq σ d kn) 3 w)
    have y3 := y2.2.2 yr.2.1.1 yr.2.1.2
    have ck9 : 1 ≤ σ 3 ((Yq σ d kn) 3 w) ∧ σ 3 ((Yq σ d kn) 3 w) ≤ 200 := hR.dok.2.2.2.1 ((Yq σ d kn) 3 w) yr.2.1.1 yr.2.1.2
    have tt : 0 ≤ thS (σ 3) (Yq σ d kn) ((Yq σ d kn) 3 w) ∧ thS (σ 3) (Yq σ d kn) ((Yq σ d kn) 3 w) ≤ 200 := by unfold thS; omega
    have cg : ∀ u dn, u = shU (σ 3) (Yq σ d kn) (nq σ) w → dn = shD (σ 3) (Yq σ d kn) (nq σ) w → CI l G M_X11_gcd 0 [vi u, vi dn] τ9 (fun z υ => z = ((Nat.gcd (shU (σ 3) (Yq σ d kn) (nq σ) w).toNat (shD (σ 3) (Yq σ d kn) (nq σ) w).toNat : Nat) : Int) ∧ τ9 = υ) := fun u dn h1 h2 => by
      rw [← h1, ← h2] at rg gb ⊢
      have := c_X11_gcd (l := l) (G := G) (σ := τ9) gb.1 gb.2.1
      rw [show ((u.toNat : Nat) : Int) = u by omega, show ((dn.toNat : Nat) : Int) = dn by omega] at this
      exact this
    refine x_aload_n (E_X11_share_0 12 rfl) rfl ?_
    refine x_getR (E_X11_share_0 13 rfl) fl_X11_99 rfl (by decide) rfl ?_
    refine x_iload_n (E_X11_share_0 14 rfl) rfl ?_
    refine x_ialde (f := τ9 143) (E_X11_share_0 15 rfl) rfl (by decide) (by omega) rfl ?_
    refine x_istore (E_X11_share_0 16 rfl) rfl ?_
    refine x_aload_n (E_X11_share_0 17 rfl) rfl ?_
    refine x_iload (E_X11_share_0 18 rfl) rfl ?_
    refine z_callVi (E_X11_share_0 19 rfl) ml_X11_351 mv_X11_onPapers rfl (by decide) (by decide) (c_X11_onPapers (by omega) h9.2.2.2.1 hR.dok hyM) (by decide) rfl rfl (Nat.le_of_ble_eq_true rfl) (fun v8 τ8 k8 => ?_)
    obtain ⟨z8, rfl⟩ := k8
    rw [y1, ← d3] at z8
    refine x_istore (E_X11_share_0 20 rfl) rfl ?_
    refine x_iload (E_X11_share_0 21 rfl) rfl ?_
    refine x_aload_n (E_X11_share_0 22 rfl) rfl ?_
    refine x_iload (E_X11_share_0 23 rfl) rfl ?_
    refine z_callVi (E_X11_share_0 24 rfl) ml_X11_348 mv_X11_there rfl (by decide) (by decide) (c_X11_there hx h9.2.2.2.1 hR.dok) (by decide) rfl rfl (Nat.le_of_ble_eq_true rfl) (fun z7 τ7 k7 => ?_)
    obtain ⟨z7, rfl⟩ := k7
    rw [y1, ← d3] at z7
    have z7 : _ = thS (σ 3) (Yq σ d kn) ((Yq σ d kn) 3 w) := z7
    refine x_icmp_le (E_X11_share_0 25 rfl) (by omega) (by omega) (fun c2 => ?_) (fun c2 => ?_)
    · refine x_iconst (E_X11_share_0 28 rfl) ?_
      refine x_istore (E_X11_share_0 29 rfl) rfl ?_
      refine x_iload (E_X11_share_0 30 rfl) rfl ?_
      refine x_if_eq (E_X11_share_0 31 rfl) (by decide) (fun _ => ?_) (fun c9 => absurd rfl c9)
      refine x_aload_n (E_X11_share_0 41 rfl) rfl ?_
      refine x_getR (E_X11_share_0 42 rfl) fl_X11_102 rfl (by decide) rfl ?_
      refine x_iload_n (E_X11_share_0 43 rfl) rfl ?_
      refine x_ialde (f := τ9 144) (E_X11_share_0 44 rfl) rfl (by decide) (by omega) rfl ?_
      refine x_istore (E_X11_share_0 45 rfl) rfl ?_
      refine x_iload (E_X11_share_0 46 rfl) rfl ?_
      refine x_if_eq (E_X11_share_0 47 rfl) (by decide) (fun _ => ?_) (fun c9 => absurd rfl c9)
      have uU : τ9 144 w = shU (σ 3) (Yq σ d kn) (nq σ) w := by rw [← d4]; exact (if_neg (by omega)).symm
      have uD : (1 : Int) = shD (σ 3) (Yq σ d kn) (nq σ) w := (if_neg (by omega)).symm
      refine x_iconst (E_X11_share_0 50 rfl) ?_
      refine x_istore (E_X11_share_0 51 rfl) rfl ?_
      refine x_iload (E_X11_share_0 52 rfl) rfl ?_
      refine x_iload (E_X11_share_0 53 rfl) rfl ?_
      refine z_callSi (E_X11_share_0 54 rfl) ml_X11_403 ms_X11_gcd (cg _ _ uU uD) (by decide) rfl rfl (Nat.le_of_ble_eq_true rfl) (fun z5 τ5 k5 => ?_)
      obtain ⟨k5, rfl⟩ := k5
      refine x_istore (E_X11_share_0 55 rfl) rfl ?_
      refine x_iload (E_X11_share_0 56 rfl) rfl ?_
      refine x_if_ne (E_X11_share_0 57 rfl) (by omega) (fun c1 => ?_) (fun c1 => ?_)
      · refine x_iload (E_X11_share_1 2 rfl) rfl ?_
        refine x_iload (E_X11_share_1 3 rfl) rfl ?_
        refine x_idiv (E_X11_share_1 4 rfl) (by omega) (by omega) ?_
        refine z_iret (E_X11_share_1 5 rfl) trivial ?_
        have zz : shZ (σ 3) (Yq σ d kn) (nq σ) w q = (if q = 0 then shU (σ 3) (Yq σ d kn) (nq σ) w else shD (σ 3) (Yq σ d kn) (nq σ) w) / ((Nat.gcd (shU (σ 3) (Yq σ d kn) (nq σ) w).toNat (shD (σ 3) (Yq σ d kn) (nq σ) w).toNat : Nat) : Int) := if_pos th
        rw [if_neg (by omega)] at zz
        exact Or.inr (Or.inr ⟨by omega, by omega, (by rw [k5]; exact (congrArg (· / _) uD).trans zz.symm), h9.sd⟩)
      · refine x_iload (E_X11_share_0 58 rfl) rfl ?_
        refine x_iload (E_X11_share_0 59 rfl) rfl ?_
        refine x_idiv (E_X11_share_1 0 rfl) (by omega) (by omega) ?_
        refine x_goto (E_X11_share_1 1 rfl) ?_
        refine z_iret (E_X11_share_1 5 rfl) trivial ?_
        have zz : shZ (σ 3) (Yq σ d kn) (nq σ) w q = (if q = 0 then shU (σ 3) (Yq σ d kn) (nq σ) w else shD (σ 3) (Yq σ d kn) (nq σ) w) / ((Nat.gcd (shU (σ 3) (Yq σ d kn) (nq σ) w).toNat (shD (σ 3) (Yq σ d kn) (nq σ) w).toNat : Nat) : Int) := if_pos th
        rw [if_pos (by omega)] at zz
        exact Or.inr (Or.inr ⟨by omega, by omega, (by rw [k5]; exact (congrArg (· / _) uU).trans zz.symm), h9.sd⟩)
    · refine x_iconst (E_X11_share_0 26 rfl) ?_
      refine x_goto (E_X11_share_0 27 rfl) ?_
      refine x_istore (E_X11_share_0 29 rfl) rfl ?_
      refine x_iload (E_X11_share_0 30 rfl) rfl ?_
      refine x_if_eq (E_X11_share_0 31 rfl) (by decide) (fun c9 => absurd c9 (by decide)) (fun _ => ?_)
      refine x_aload_n (E_X11_share_0 32 rfl) rfl ?_
      refine x_getR (E_X11_share_0 33 rfl) fl_X11_102 rfl (by decide) rfl ?_
      refine x_iload_n (E_X11_share_0 34 rfl) rfl ?_
      refine x_ialde (f := τ9 144) (E_X11_share_0 35 rfl) rfl (by decide) (by omega) rfl ?_
      refine x_aload_n (E_X11_share_0 36 rfl) rfl ?_
      refine x_iload (E_X11_share_0 37 rfl) rfl ?_
      refine z_callVi (E_X11_share_0 38 rfl) ml_X11_348 mv_X11_there rfl (by decide) (by decide) (c_X11_there hx h9.2.2.2.1 hR.dok) (by decide) rfl rfl (Nat.le_of_ble_eq_true rfl) (fun v6 τ6 k6 => ?_)
      obtain ⟨z6, rfl⟩ := k6
      rw [y1, ← d3] at z6
      have z6 : _ = thS (σ 3) (Yq σ d kn) ((Yq σ d kn) 3 w) := z6
      refine x_imul (E_X11_share_0 39 rfl) ?_
      refine x_goto (E_X11_share_0 40 rfl) ?_
      refine x_istore (E_X11_share_0 45 rfl) rfl ?_
      refine x_iload (E_X11_share_0 46 rfl) rfl ?_
      refine x_if_eq (E_X11_share_0 47 rfl) (by decide) (fun c9 => absurd c9 (by decide)) (fun _ => ?_)
      have uU : τ9 144 w * v6 = shU (σ 3) (Yq σ d kn) (nq σ) w := by rw [z6, ← d4]; exact (if_pos (by omega)).symm
      have uD : v8 = shD (σ 3) (Yq σ d kn) (nq σ) w := z8.trans (if_pos (by omega)).symm
      refine x_iload (E_X11_share_0 48 rfl) rfl ?_
      refine x_goto (E_X11_share_0 49 rfl) ?_
      refine x_istore (E_X11_share_0 51 rfl) rfl ?_
      refine x_iload (E_X11_share_0 52 rfl) rfl ?_
      refine x_iload (E_X11_share_0 53 rfl) rfl ?_
      refine z_callSi (E_X11_share_0 54 rfl) ml_X11_403 ms_X11_gcd (cg _ _ uU uD) (by decide) rfl rfl (Nat.le_of_ble_eq_true rfl) (fun z5 τ5 k5 => ?_)
      obtain ⟨k5, rfl⟩ := k5
      refine x_istore (E_X11_share_0 55 rfl) rfl ?_
      refine x_iload (E_X11_share_0 56 rfl) rfl ?_
      refine x_if_ne (E_X11_share_0 57 rfl) (by omega) (fun c1 => ?_) (fun c1 => ?_)
      · refine x_iload (E_X11_share_1 2 rfl) rfl ?_
        refine x_iload (E_X11_share_1 3 rfl) rfl ?_
        refine x_idiv (E_X11_share_1 4 rfl) (by omega) (by omega) ?_
        refine z_iret (E_X11_share_1 5 rfl) trivial ?_
        have zz : shZ (σ 3) (Yq σ d kn) (nq σ) w q = (if q = 0 then shU (σ 3) (Yq σ d kn) (nq σ) w else shD (σ 3) (Yq σ d kn) (nq σ) w) / ((Nat.gcd (shU (σ 3) (Yq σ d kn) (nq σ) w).toNat (shD (σ 3) (Yq σ d kn) (nq σ) w).toNat : Nat) : Int) := if_pos th
        rw [if_neg (by omega)] at zz
        exact Or.inr (Or.inr ⟨by omega, by omega, (by rw [k5]; exact (congrArg (· / _) uD).trans zz.symm), h9.sd⟩)
      · refine x_iload (E_X11_share_0 58 rfl) rfl ?_
        refine x_iload (E_X11_share_0 59 rfl) rfl ?_
        refine x_idiv (E_X11_share_1 0 rfl) (by omega) (by omega) ?_
        refine x_goto (E_X11_share_1 1 rfl) ?_
        refine z_iret (E_X11_share_1 5 rfl) trivial ?_
        have zz : shZ (σ 3) (Yq σ d kn) (nq σ) w q = (if q = 0 then shU (σ 3) (Yq σ d kn) (nq σ) w else shD (σ 3) (Yq σ d kn) (nq σ) w) / ((Nat.gcd (shU (σ 3) (Yq σ d kn) (nq σ) w).toNat (shD (σ 3) (Yq σ d kn) (nq σ) w).toNat : Nat) : Int) := if_pos th
        rw [if_pos (by omega)] at zz
        exact Or.inr (Or.inr ⟨by omega, by omega, (by rw [k5]; exact (congrArg (· / _) uU).trans zz.symm), h9.sd⟩)
  · refine x_iload (E_X11_share_0 10 rfl) rfl ?_
    refine z_iret (E_X11_share_0 11 rfl) trivial ?_
    rcases k9 with ⟨a, rfl, rfl⟩ | ⟨a, b, rfl, rfl⟩ | ⟨a, b, h, c⟩
    · exact Or.inl ⟨a, rfl, rfl⟩
    · exact Or.inr (Or.inl ⟨a, b, rfl, rfl⟩)
    · rcases h with ⟨h, _⟩ | ⟨rfl, h⟩
      · omega
      · exact Or.inr (Or.inr ⟨a, b, (if_neg h).symm, c.sd⟩)
theorem pair_share {w d kn q : Int} (hR : RR σ) (q1 : rgi w) (q2 : rgi d) (q3 : rgi kn) (q4 : rgi q) : Pair l G M_X10_share 6 M_X11_share 5 [vi w, vi d, vi kn, vi q] σ := by
  refine pair3 hR (c_X10_share hR q1 q2 q3 q4) (fun _ _ => ?_) (fun τ sc => c_X11_share hR sc q1 q2 q3 q4)
  unfold shZ
  split
  · rename_i th
    have rg := sh_rg hR.yok th hR.dok.1 (fun x a b => (hR.dok.2.2.2.1 x a b).2)
    have gb := gcd_b rg.1 rg.2
    have a := Int.ediv_le_self (a := if q = 0 then shU (σ 3) (Yq σ d kn) (nq σ) w else shD (σ 3) (Yq σ d kn) (nq σ) w) ((Nat.gcd (shU (σ 3) (Yq σ d kn) (nq σ) w).toNat (shD (σ 3) (Yq σ d kn) (nq σ) w).toNat : Nat) : Int) (by split <;> omega)
    have b := Int.ediv_nonneg (a := if q = 0 then shU (σ 3) (Yq σ d kn) (nq σ) w else shD (σ 3) (Yq σ d kn) (nq σ) w) (b := ((Nat.gcd (shU (σ 3) (Yq σ d kn) (nq σ) w).toNat (shD (σ 3) (Yq σ d kn) (nq σ) w).toNat : Nat) : Int)) (by split <;> omega) (by omega)
    have c : (if q = 0 then shU (σ 3) (Yq σ d kn) (nq σ) w else shD (σ 3) (Yq σ d kn) (nq σ) w) ≤ 40000 := by split <;> omega
    omega
  · omega

