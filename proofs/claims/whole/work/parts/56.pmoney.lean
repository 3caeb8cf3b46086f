/-! money -/
variable {l : Launch} {G : GC} {σ τ : Nat → Int → Int}

/-- what key wants of what is left -/
def wnS (σ : Nat → Int → Int) (x d key left : Int) : Int := if key = -1 then 0 else if key = 0 then rnZ (σ 3) (σ 6) (hdq σ) (Yq σ d (σ 0 0)) x d else if key = 1 then sumS (fun w => if (Yq σ d (σ 0 0)) 1 w = 1 ∧ (Yq σ d (σ 0 0)) 3 w = x then (Yq σ d (σ 0 0)) 8 w else 0) (nq σ) else if key = 2 then sumS (fun h => upaq σ h x) 8 else left
def lfS (ky : Nat → Int) (wn : Int → Int → Int) (m : Int) : Nat → Int
  | 0 => m
  | k + 1 => lfS ky wn m k - min (lfS ky wn m k) (wn (ky k) (lfS ky wn m k))
def gtS (ky : Nat → Int) (wn : Int → Int → Int) (m : Int) (k : Nat) : Int := min (lfS ky wn m k) (wn (ky k) (lfS ky wn m k))
def goT (ky : Nat → Int) (wn : Int → Int → Int) (m q : Int) : Nat → Int
  | 0 => 0
  | k + 1 => if ky k = q then gtS ky wn m k else goT ky wn m q k
/-- the answer of money -/
def mnZ (ky : Nat → Int) (wn : Int → Int → Int) (m q : Int) : Int := if ky 0 = q then gtS ky wn m 0 else if ky 1 = q then gtS ky wn m 1 else if ky 2 = q then gtS ky wn m 2 else if ky 3 = q then gtS ky wn m 3 else if q = 4 then lfS ky wn m 4 else 0
theorem lfS_rg {ky : Nat → Int} {wn : Int → Int → Int} {m : Int} (hm : 0 ≤ m) (hw : ∀ k a, 0 ≤ a → a ≤ m → 0 ≤ wn k a) : ∀ {k : Nat}, 0 ≤ lfS ky wn m k ∧ lfS ky wn m k ≤ m
  | 0 => ⟨hm, Int.le_refl _⟩
  | k + 1 => by
    have a := lfS_rg hm hw (ky := ky) (k := k)
    have b := hw (ky k) (lfS ky wn m k) a.1 a.2
    show 0 ≤ lfS ky wn m k - min (lfS ky wn m k) (wn (ky k) (lfS ky wn m k)) ∧ lfS ky wn m k - min (lfS ky wn m k) (wn (ky k) (lfS ky wn m k)) ≤ m
    omega
theorem lfS_no {ky : Nat → Int} {wn : Int → Int → Int} {m : Int} {k : Nat} (h : ky k = -1) (hz : ∀ a, wn (-1) a = 0) (h0 : 0 ≤ lfS ky wn m k) : lfS ky wn m (k + 1) = lfS ky wn m k := by
  show lfS ky wn m k - min (lfS ky wn m k) (wn (ky k) (lfS ky wn m k)) = _
  rw [h, hz]
  omega
theorem mnZ_hit {ky : Nat → Int} {wn : Int → Int → Int} {m q : Int} {k : Nat} (hk : k < 4) (h : ∀ j, j < k → ky j ≠ q) (e : ky k = q) : mnZ ky wn m q = gtS ky wn m k := by
  unfold mnZ
  match k, hk with
  | 0, _ => rw [if_pos e]
  | 1, _ => rw [if_neg (h 0 (by decide)), if_pos e]
  | 2, _ => rw [if_neg (h 0 (by decide)), if_neg (h 1 (by decide)), if_pos e]
  | 3, _ => rw [if_neg (h 0 (by decide)), if_neg (h 1 (by decide)), if_neg (h 2 (by decide)), if_pos e]
theorem mnZ_end {ky : Nat → Int} {wn : Int → Int → Int} {m q : Int} (h : ∀ j, j < 4 → ky j ≠ q) : mnZ ky wn m q = if q = 4 then lfS ky wn m 4 else 0 := by
  unfold mnZ
  rw [if_neg (h 0 (by decide)), if_neg (h 1 (by decide)), if_neg (h 2 (by decide)), if_neg (h 3 (by decide))]
theorem mn_fin {ky : Nat → Int} {wn : Int → Int → Int} {m q : Int} {s : Nat} (hs : 1 ≤ s ∧ s ≤ 4) (hn : ∀ k, s ≤ k → k < 4 → ky k = -1) (hd : ∀ a b, a < b → b < s → ky a ≠ ky b) (hr : ∀ k, k < s → 0 ≤ ky k ∧ ky k ≤ 3) (hq : 0 ≤ q ∧ q ≤ 4) (hz : ∀ a, wn (-1) a = 0) (h0 : ∀ k, 0 ≤ lfS ky wn m k) : (if q = 4 then lfS ky wn m s else goT ky wn m q s) = mnZ ky wn m q := by
  have l : ∀ k, s ≤ k → k ≤ 4 → lfS ky wn m k = lfS ky wn m s := by
    intro k
    induction k with
    | zero => intro a _; rw [show s = 0 by omega]
    | succ k ih =>
      intro a b
      by_cases e : s = k + 1
      · rw [e]
      · rw [lfS_no (hn k (by omega) (by omega)) hz (h0 k)]
        exact ih (by omega) (by omega)
  by_cases q4 : q = 4
  · rw [if_pos q4, mnZ_end (fun j hj => ?_), if_pos q4]
    · exact (l 4 (by omega) (Nat.le_refl _)).symm
    · by_cases e : j < s
      · have := hr j e; omega
      · have := hn j (by omega) hj; omega
  · rw [if_neg q4]
    by_cases ex : ∃ k, k < s ∧ ky k = q
    · obtain ⟨k, k1, k2⟩ := ex
      rw [mnZ_hit (k := k) (by omega) (fun j hj e => hd j k hj k1 (e.trans k2.symm)) k2]
      have g : ∀ t, k < t → t ≤ s → goT ky wn m q t = gtS ky wn m k := by
        intro t
        induction t with
        | zero => intro a _; omega
        | succ t ih =>
          intro a b
          show (if ky t = q then gtS ky wn m t else goT ky wn m q t) = _
          by_cases e : t = k
          · rw [e, if_pos k2]
          · rw [if_neg (fun h => hd k t (by omega) (by omega) (k2.trans h.symm))]
            exact ih (by omega) (by omega)
      exact g s k1 (Nat.le_refl _)
    · rw [mnZ_end (fun j hj e => ?_), if_neg q4]
      · have g : ∀ t, t ≤ s → goT ky wn m q t = 0 := by
          intro t
          induction t with
          | zero => intro _; rfl
          | succ t ih =>
            intro b
            show (if ky t = q then gtS ky wn m t else goT ky wn m q t) = _
            rw [if_neg (fun h => ex ⟨t, by omega, h⟩)]
            exact ih (by omega)
        exact g s (Nat.le_refl _)
      · by_cases c : j < s
        · exact ex ⟨j, c, e⟩
        · have := hn j (by omega) hj; omega
theorem RR.up (hR : RR σ) {h x : Int} (hh : 0 ≤ h ∧ h < 8) (hx : 0 ≤ x ∧ x < σ 1 5) : σ 159 (8 * x + h) = upaq σ h x ∧ 0 ≤ upaq σ h x ∧ upaq σ h x ≤ 9999 := by
  have nl := hR.lots
  exact hR.2.2.2.2.2.2.2.1 h x hh.1 hh.2 hx.1 (by omega)
theorem wn_rg (hR : RR σ) {x d key left : Int} (hx : 0 ≤ x ∧ x < σ 1 5) (hd : 0 ≤ d ∧ d ≤ 2000) (hl : 0 ≤ left ∧ left ≤ 99999) : 0 ≤ wnS σ x d key left ∧ wnS σ x d key left ≤ 300000000 := by
  have a := rnZ_rg hR (kn := σ 0 0) hx hd
  have n9 := hR.n9
  have hy : YOk (nq σ) (σ 1 5) (σ 3) (Yq σ d (σ 0 0)) := hR.yok
  have b := sumS_rg (f := (fun w => if (Yq σ d (σ 0 0)) 1 w = 1 ∧ (Yq σ d (σ 0 0)) 3 w = x then (Yq σ d (σ 0 0)) 8 w else 0)) (B := 9999) (n := nq σ) (fun j _ _ => by
    split
    · rename_i c
      have := hy.2.1 j c.1
      omega
    · omega)
  have c := sumS_rg (f := (fun h => upaq σ h x)) (B := 9999) (n := 8) (fun j x1 y1 => (hR.up ⟨x1, by omega⟩ hx).2)
  unfold wnS
  repeat' split
  all_goals omega
theorem TcP.hold {d d' kn : Int} {υ : Nat → Int → Int} (h : TcP σ d kn τ) (q : HoldP d' τ υ) (hd : 0 ≤ d' ∧ d' ≤ 2000) : TcP σ d kn υ := by
  obtain ⟨a, b, c, e, f, g⟩ := h
  exact ⟨(SC45_fr (fun k x y => q.2.2.1 k (by simp; omega))).trans a, by rw [q.2.2.1 57 (by decide)]; exact b, c.hold q hd, Fr.trans e q.2.2.1 (fun k x => x) (by decide), Fo.trans f q.2.2.2 (fun k x => x) (fun k x => x), fun j x => (congrFun (q.2.2.1 7 (by decide)) j).trans (g j x)⟩
theorem c_X10_unpaidFor {x : Int} (hR : RR σ) (sc : Sc σ τ) (hx : 0 ≤ x ∧ x < σ 1 5) : CI l G M_X10_unpaidFor 0 [vr 0, vi x] τ (IP (sumS (fun h => upaq σ h x) 8) τ) := by
  have nl := hR.lots
  have eu : upaq τ = upaq σ := by unfold upaq; rw [sc.1 80 (by decide), sc.1 81 (by decide), sc.1 82 (by decide), sc.1 83 (by decide), sc.1 84 (by decide), sc.1 85 (by decide), sc.1 86 (by decide), sc.1 87 (by decide)]
  refine Ct.of rfl (Nat.le_of_ble_eq_true rfl) ?_
  have loop : ∀ (k : Nat) (i s : Int), i = 8 - k → k ≤ 8 → s = sumS (fun h => upaq σ h x) i.toNat → XI l G M_X10_unpaidFor 0 4 [some (vr 0), some (vi x), some (vi s), some (vi i)] [] τ (IP (sumS (fun h => upaq σ h x) 8) τ) := by
    intro k
    induction k using Nat.strongRecOn with
    | _ k ih =>
    intro i s hi hk hs
    refine x_iload_n (E_X10_unpaidFor_0 4 rfl) rfl ?_
    refine x_bipush (z := 8) (E_X10_unpaidFor_0 5 rfl) (by decide) ?_
    refine x_icmp_ge (E_X10_unpaidFor_0 6 rfl) (by omega) (by decide) (fun c1 => ?_) (fun c1 => ?_)
    · refine x_iload_n (E_X10_unpaidFor_0 18 rfl) rfl ?_
      refine z_iret (E_X10_unpaidFor_0 19 rfl) trivial ?_
      exact ⟨by rw [hs, show i = 8 by omega]; rfl, rfl⟩
    · refine x_iload_n (E_X10_unpaidFor_0 7 rfl) rfl ?_
      refine x_aload_n (E_X10_unpaidFor_0 8 rfl) rfl ?_
      refine x_getR (E_X10_unpaidFor_0 9 rfl) fl_X10_69 rfl (by decide) rfl ?_
      refine x_iload_n (E_X10_unpaidFor_0 10 rfl) rfl ?_
      refine x_aald (E_X10_unpaidFor_0 11 rfl) rfl (by decide) (by omega) (shp_up (by omega)).2 ?_
      refine x_iload_n (E_X10_unpaidFor_0 12 rfl) rfl ?_
      refine x_iald (E_X10_unpaidFor_0 13 rfl) (shp_up (by omega)).1 (by omega) (by omega) ?_
      refine x_iadd (E_X10_unpaidFor_0 14 rfl) ?_
      refine x_istore_n (E_X10_unpaidFor_0 15 rfl) rfl ?_
      refine x_iinc (E_X10_unpaidFor_0 16 rfl) rfl rfl ?_
      refine x_goto (E_X10_unpaidFor_0 17 rfl) ?_
      refine ih (k - 1) (by omega) _ _ (by omega) (by omega) ?_
      rw [sumS_i (by omega), ← hs, ← eu, ← upaq_at (by omega)]
  refine x_iconst (E_X10_unpaidFor_0 0 rfl) ?_
  refine x_istore_n (E_X10_unpaidFor_0 1 rfl) rfl ?_
  refine x_iconst (E_X10_unpaidFor_0 2 rfl) ?_
  refine x_istore_n (E_X10_unpaidFor_0 3 rfl) rfl ?_
  exact loop 8 0 0 (by omega) (Nat.le_refl _) rfl
theorem c_X10_wanted {x d key left : Int} (hR : RR σ) (h9 : TcP σ d (σ 0 0) τ) (hx : 0 ≤ x ∧ x < σ 1 5) (hd : 0 ≤ d ∧ d ≤ 2000) (hk : rgi key) (hk2 : -1 ≤ key) : CI l G M_X10_wanted 4 [vr 0, vi key, vi x, vi d, vi left] τ (fun z υ => z = wnS σ x d key left ∧ TcP σ d (σ 0 0) υ) := by
  have y1 := h9.1
  have nl := hR.lots
  refine Ct.of rfl (Nat.le_of_ble_eq_true rfl) ?_
  refine x_iload_n (E_X10_wanted_0 0 rfl) rfl ?_
  by_cases wm1 : key = -1
  · subst wm1
    refine x_tsw (t := 32) (E_X10_wanted_0 1 rfl) (by decide) (by decide) (by decide) ?_
    refine x_iconst (E_X10_wanted_0 2 rfl) ?_
    refine z_iret (E_X10_wanted_0 3 rfl) trivial ?_
    exact ⟨rfl, h9⟩
  by_cases w0 : key = 0
  · subst w0
    refine x_tsw (t := 34) (E_X10_wanted_0 1 rfl) (by decide) (by decide) (by decide) ?_
    refine x_aload_n (E_X10_wanted_0 4 rfl) rfl ?_
    refine x_iload_n (E_X10_wanted_0 5 rfl) rfl ?_
    refine x_iload_n (E_X10_wanted_0 6 rfl) rfl ?_
    refine z_callVi (E_X10_wanted_0 7 rfl) ml_X10_297 mv_X10_rentAsTold rfl (by decide) (by decide) (c_X10_rentAsTold hR h9 hx hd) (by decide) rfl rfl (Nat.le_of_ble_eq_true rfl) (fun v8 τ8 k8 => ?_)
    obtain ⟨z8, k8⟩ := k8
    refine z_iret (E_X10_wanted_0 8 rfl) trivial ?_
    rcases k8 with rfl | k8
    · exact ⟨z8, h9⟩
    · exact ⟨z8, h9.hold k8 hd⟩
  by_cases w1 : key = 1
  · subst w1
    refine x_tsw (t := 41) (E_X10_wanted_0 1 rfl) (by decide) (by decide) (by decide) ?_
    refine x_aload_n (E_X10_wanted_0 9 rfl) rfl ?_
    refine x_getR (E_X10_wanted_0 10 rfl) fl_X10_46 rfl (by decide) rfl ?_
    refine x_iload_n (E_X10_wanted_0 11 rfl) rfl ?_
    refine z_callVi (E_X10_wanted_0 12 rfl) ml_X10_389 mv_X7_lentOn rfl (by decide) (by decide) (c_X7_lentOn (by omega) h9.2.2.1 hR.dok (by rw [h9.1]; exact hR.yok)) (by decide) rfl rfl (Nat.le_of_ble_eq_true rfl) (fun v8 τ8 k8 => ?_)
    obtain ⟨z8, rfl⟩ := k8
    rw [y1] at z8
    refine z_iret (E_X10_wanted_0 13 rfl) trivial ?_
    exact ⟨z8, h9⟩
  by_cases w2 : key = 2
  · subst w2
    refine x_tsw (t := 50) (E_X10_wanted_0 1 rfl) (by decide) (by decide) (by decide) ?_
    refine x_aload_n (E_X10_wanted_0 14 rfl) rfl ?_
    refine x_iload_n (E_X10_wanted_0 15 rfl) rfl ?_
    refine z_callVi (E_X10_wanted_0 16 rfl) ml_X10_392 mv_X10_unpaidFor rfl (by decide) (by decide) (c_X10_unpaidFor hR h9.sc hx) (by decide) rfl rfl (Nat.le_of_ble_eq_true rfl) (fun v8 τ8 k8 => ?_)
    obtain ⟨z8, rfl⟩ := k8
    refine z_iret (E_X10_wanted_0 17 rfl) trivial ?_
    exact ⟨z8, h9⟩
  refine x_tswD (t := 56) (E_X10_wanted_0 1 rfl) (by omega) (by omega) (by decide) ?_
  refine x_iload (E_X10_wanted_0 18 rfl) rfl ?_
  refine z_iret (E_X10_wanted_0 19 rfl) trivial ?_
  exact ⟨by unfold wnS; rw [if_neg (by omega), if_neg (by omega), if_neg (by omega), if_neg (by omega)], h9⟩

set_option maxHeartbeats 1000000 in
theorem c_X10_money {x m d q : Int} (hR : RR σ) (q1 : rgi x) (q2 : rgi m) (q3 : rgi d) (q4 : rgi q) : CI l G M_X10_money 6 [vr 0, vi x, vi m, vi d, vi q] σ (fun z υ => (¬ (0 ≤ x ∧ x < σ 1 5) ∧ z = -1001 ∧ υ = σ) ∨ ((0 ≤ x ∧ x < σ 1 5) ∧ ¬ ((0 ≤ m ∧ m ≤ 99999) ∧ (0 ≤ d ∧ d ≤ 2000) ∧ 0 ≤ q ∧ q ≤ 4) ∧ z = -1002 ∧ υ = σ) ∨ ((0 ≤ x ∧ x < σ 1 5) ∧ ((0 ≤ m ∧ m ≤ 99999) ∧ (0 ≤ d ∧ d ≤ 2000) ∧ 0 ≤ q ∧ q ≤ 4) ∧ z = mnZ (kyS (hdq σ d 9)) (wnS σ x d) m q ∧ Sc σ υ ∧ RR υ)) := by
  have now := hR.now
  have nl12 := hR.lots
  have n120 := hR.n9
  refine Ct.of rfl (Nat.le_of_ble_eq_true rfl) ?_
  have loop : (0 ≤ x ∧ x < σ 1 5) → ((0 ≤ m ∧ m ≤ 99999) ∧ (0 ≤ d ∧ d ≤ 2000) ∧ 0 ≤ q ∧ q ≤ 4) → ∀ (t k : Nat) (i left : Int) (o7 o8 : Option AV) (ρ : Nat → Int → Int), k + t = 4 → i = k → left = lfS (kyS (hdq σ d 9)) (wnS σ x d) m k → (∀ j, j < k → (kyS (hdq σ d 9)) j ≠ q) → TcP σ d (σ 0 0) ρ → XI l G M_X10_money 6 65 [some (vr 0), some (vi x), some (vi m), some (vi d), some (vi q), some (vi left), some (vi i), o7, o8] [] ρ (fun z υ => (¬ (0 ≤ x ∧ x < σ 1 5) ∧ z = -1001 ∧ υ = σ) ∨ ((0 ≤ x ∧ x < σ 1 5) ∧ ¬ ((0 ≤ m ∧ m ≤ 99999) ∧ (0 ≤ d ∧ d ≤ 2000) ∧ 0 ≤ q ∧ q ≤ 4) ∧ z = -1002 ∧ υ = σ) ∨ ((0 ≤ x ∧ x < σ 1 5) ∧ ((0 ≤ m ∧ m ≤ 99999) ∧ (0 ≤ d ∧ d ≤ 2000) ∧ 0 ≤ q ∧ q ≤ 4) ∧ z = mnZ (kyS (hdq σ d 9)) (wnS σ x d) m q ∧ Sc σ υ ∧ RR υ)) := by
    intro a1 a2 t
    have lr : ∀ k, 0 ≤ lfS (kyS (hdq σ d 9)) (wnS σ x d) m k ∧ lfS (kyS (hdq σ d 9)) (wnS σ x d) m k ≤ m := fun k => lfS_rg (by omega) (fun key a x1 x2 => (wn_rg hR a1 (by omega) (by omega)).1)
    induction t using Nat.strongRecOn with
    | _ t ih =>
    intro k i left o7 o8 ρ hk hi hl hn h9
    have lk := lr k
    rw [← hl] at lk
    have kr := kyS_rg (v := hdq σ d 9) (k := k)
    refine x_iload (E_X10_money_0 32 rfl) rfl ?_
    refine x_iconst (E_X10_money_0 33 rfl) ?_
    refine x_icmp_ge (E_X10_money_0 34 rfl) (by omega) (by decide) (fun c1 => ?_) (fun c1 => ?_)
    · refine x_iload (E_X10_money_1 1 rfl) rfl ?_
      refine x_iconst (E_X10_money_1 2 rfl) ?_
      refine x_icmp_ne (E_X10_money_1 3 rfl) (by omega) (by decide) (fun c2 => ?_) (fun c2 => ?_)
      · refine x_iconst (E_X10_money_1 6 rfl) ?_
        refine z_iret (E_X10_money_1 7 rfl) trivial ?_
        have me := mnZ_end (ky := (kyS (hdq σ d 9))) (wn := wnS σ x d) (m := m) (q := q) (fun j hj => hn j (by omega))
        exact Or.inr (Or.inr ⟨by omega, by omega, (me.trans (if_neg (by omega))).symm, h9.sc, h9.rr hR⟩)
      · refine x_iload (E_X10_money_1 4 rfl) rfl ?_
        refine x_goto (E_X10_money_1 5 rfl) ?_
        refine z_iret (E_X10_money_1 7 rfl) trivial ?_
        have me := mnZ_end (ky := (kyS (hdq σ d 9))) (wn := wnS σ x d) (m := m) (q := q) (fun j hj => hn j (by omega))
        exact Or.inr (Or.inr ⟨by omega, by omega, (by rw [me, if_pos (by omega), hl, show k = 4 by omega]), h9.sc, h9.rr hR⟩)
    · refine x_aload_n (E_X10_money_0 35 rfl) rfl ?_
      refine x_getR (E_X10_money_0 36 rfl) fl_X10_30 rfl (by decide) rfl ?_
      refine x_iload (E_X10_money_0 37 rfl) rfl ?_
      refine x_iload_n (E_X10_money_0 38 rfl) rfl ?_
      refine z_callVi (E_X10_money_0 39 rfl) ml_X10_229 mv_X8_keyOn rfl (by decide) (by decide) (c_X8_keyOn (by omega) (by omega) h9.2.2.1.2.2.1 h9.2.2.1.2.2.2.1 h9.2.2.1.2.2.2.2.1) (by decide) rfl rfl (Nat.le_of_ble_eq_true rfl) (fun v8 τ8 k8 => ?_)
      obtain ⟨z8, k8⟩ := k8
      rw [h9.2.2.1.2.2.2.2.2, show i.toNat = k by omega] at z8
      have g8 := h9.hold k8 (by omega)
      have w8 := wn_rg hR (key := v8) (left := left) a1 (d := d) (by omega) (by omega)
      refine x_istore (E_X10_money_0 40 rfl) rfl ?_
      refine x_iload (E_X10_money_0 41 rfl) rfl ?_
      refine x_aload_n (E_X10_money_0 42 rfl) rfl ?_
      refine x_iload (E_X10_money_0 43 rfl) rfl ?_
      refine x_iload_n (E_X10_money_0 44 rfl) rfl ?_
      refine x_iload_n (E_X10_money_0 45 rfl) rfl ?_
      refine x_iload (E_X10_money_0 46 rfl) rfl ?_
      refine z_callVi (E_X10_money_0 47 rfl) ml_X10_321 mv_X10_wanted rfl (by decide) (by decide) (c_X10_wanted hR g8 a1 (by omega) (by omega) (by omega)) (by decide) rfl rfl (Nat.le_of_ble_eq_true rfl) (fun v7 τ7 k7 => ?_)
      obtain ⟨z7, g7⟩ := k7
      have gt : min left v7 = gtS (kyS (hdq σ d 9)) (wnS σ x d) m k := by
        rw [z7, hl, z8]
        rfl
      refine x_mmin (E_X10_money_0 48 rfl) ml_X10_324 (by omega) (by omega) (by decide) ?_
      refine x_istore (E_X10_money_0 49 rfl) rfl ?_
      refine x_iload (E_X10_money_0 50 rfl) rfl ?_
      refine x_iload (E_X10_money_0 51 rfl) rfl ?_
      refine x_icmp_ne (E_X10_money_0 52 rfl) (by omega) (by omega) (fun c3 => ?_) (fun c3 => ?_)
      · refine x_iload (E_X10_money_0 55 rfl) rfl ?_
        refine x_iload (E_X10_money_0 56 rfl) rfl ?_
        refine x_isub (E_X10_money_0 57 rfl) ?_
        refine x_istore (E_X10_money_0 58 rfl) rfl ?_
        refine x_iinc (E_X10_money_0 59 rfl) rfl rfl ?_
        refine x_goto (E_X10_money_1 0 rfl) ?_
        refine ih (t - 1) (by omega) (k + 1) _ _ _ _ _ (by omega) (by omega) ?_ (fun j hj => ?_) g7
        · rw [gt, hl]
          rfl
        · by_cases e : j = k
          · rw [e, ← z8]; assumption
          · exact hn j (by omega)
      · refine x_iload (E_X10_money_0 53 rfl) rfl ?_
        refine z_iret (E_X10_money_0 54 rfl) trivial ?_
        exact Or.inr (Or.inr ⟨by omega, by omega, gt.trans (mnZ_hit (by omega) hn (by rw [← z8]; omega)).symm, g7.sc, g7.rr hR⟩)
  refine x_aload_n (E_X10_money_0 0 rfl) rfl ?_
  refine x_getR (E_X10_money_0 1 rfl) fl_X10_16 rfl (by decide) rfl ?_
  refine x_iload_n (E_X10_money_0 2 rfl) rfl ?_
  refine z_callVi (E_X10_money_0 3 rfl) ml_X10_121 mv_X3_has rfl (by decide) (by decide) (c_X3_has q1 nl12) (by decide) rfl rfl (Nat.le_of_ble_eq_true rfl) (fun z9 τ9 h9 => ?_)
  obtain ⟨rfl, ⟨rfl, c1⟩ | ⟨rfl, c1⟩⟩ := h9
  · refine x_if_ne (E_X10_money_0 4 rfl) (by decide) (fun _ => ?_) (fun c9 => absurd c9 (by decide))
    refine x_iload_n (E_X10_money_0 7 rfl) rfl ?_
    refine x_iconst (E_X10_money_0 8 rfl) ?_
    refine x_ldcw (z := 99999) (E_X10_money_0 9 rfl) kc_X10_320 (by decide) ?_
    refine z_callSi (E_X10_money_0 10 rfl) ml_X10_100 ms_X10_within (c_X10_within (by omega) (by omega) (by omega)) (by decide) rfl rfl (Nat.le_of_ble_eq_true rfl) (fun z9 τ9 h9 => ?_)
    obtain ⟨rfl, ⟨rfl, c2⟩ | ⟨rfl, c2⟩⟩ := h9
    · refine x_if_eq (E_X10_money_0 11 rfl) (by decide) (fun c9 => absurd c9 (by decide)) (fun _ => ?_)
      refine x_iload_n (E_X10_money_0 12 rfl) rfl ?_
      refine z_callSi (E_X10_money_0 13 rfl) ml_X10_207 ms_X10_isDay (c_X10_isDay (by omega)) (by decide) rfl rfl (Nat.le_of_ble_eq_true rfl) (fun z9 τ9 h9 => ?_)
      obtain ⟨rfl, ⟨rfl, c3⟩ | ⟨rfl, c3⟩⟩ := h9
      · refine x_if_eq (E_X10_money_0 14 rfl) (by decide) (fun c9 => absurd c9 (by decide)) (fun _ => ?_)
        refine x_iload (E_X10_money_0 15 rfl) rfl ?_
        refine x_iconst (E_X10_money_0 16 rfl) ?_
        refine x_iconst (E_X10_money_0 17 rfl) ?_
        refine z_callSi (E_X10_money_0 18 rfl) ml_X10_100 ms_X10_within (c_X10_within (by omega) (by omega) (by omega)) (by decide) rfl rfl (Nat.le_of_ble_eq_true rfl) (fun z9 τ9 h9 => ?_)
        obtain ⟨rfl, ⟨rfl, c4⟩ | ⟨rfl, c4⟩⟩ := h9
        · refine x_if_ne (E_X10_money_0 19 rfl) (by decide) (fun _ => ?_) (fun c9 => absurd c9 (by decide))
          refine x_aload_n (E_X10_money_0 22 rfl) rfl ?_
          refine x_getR (E_X10_money_0 23 rfl) fl_X10_46 rfl (by decide) rfl ?_
          refine x_iload_n (E_X10_money_0 24 rfl) rfl ?_
          refine x_aload_n (E_X10_money_0 25 rfl) rfl ?_
          refine x_getIe (v := σ 0 0) (E_X10_money_0 26 rfl) fl_X10_7 rfl (by decide) rfl ?_
          refine z_callVv (E_X10_money_0 27 rfl) ml_X10_174 mv_X7_tell rfl (by decide) (by decide) (tC hR q3 (by omega)) (by decide) rfl rfl (Nat.le_of_ble_eq_true rfl) (fun τ9 h9 => ?_)
          refine x_iload_n (E_X10_money_0 28 rfl) rfl ?_
          refine x_istore (E_X10_money_0 29 rfl) rfl ?_
          refine x_iconst (E_X10_money_0 30 rfl) ?_
          refine x_istore (E_X10_money_0 31 rfl) rfl ?_
          exact loop (by omega) (by omega) 4 0 _ _ none none τ9 (by omega) rfl rfl (fun j hj => absurd hj (by omega)) h9
        · refine x_if_ne (E_X10_money_0 19 rfl) (by decide) (fun c9 => absurd c9 (by decide)) (fun _ => ?_)
          refine x_sipush (z := (-1002)) (E_X10_money_0 20 rfl) (by decide) ?_
          refine z_iret (E_X10_money_0 21 rfl) trivial ?_
          exact Or.inr (Or.inl ⟨by omega, by omega, rfl, rfl⟩)
      · refine x_if_eq (E_X10_money_0 14 rfl) (by decide) (fun _ => ?_) (fun c9 => absurd (by decide) c9)
        refine x_sipush (z := (-1002)) (E_X10_money_0 20 rfl) (by decide) ?_
        refine z_iret (E_X10_money_0 21 rfl) trivial ?_
        exact Or.inr (Or.inl ⟨by omega, by omega, rfl, rfl⟩)
    · refine x_if_eq (E_X10_money_0 11 rfl) (by decide) (fun _ => ?_) (fun c9 => absurd (by decide) c9)
      refine x_sipush (z := (-1002)) (E_X10_money_0 20 rfl) (by decide) ?_
      refine z_iret (E_X10_money_0 21 rfl) trivial ?_
      exact Or.inr (Or.inl ⟨by omega, by omega, rfl, rfl⟩)
  · refine x_if_ne (E_X10_money_0 4 rfl) (by decide) (fun c9 => absurd c9 (by decide)) (fun _ => ?_)
    refine x_sipush (z := (-1001)) (E_X10_money_0 5 rfl) (by decide) ?_
    refine z_iret (E_X10_money_0 6 rfl) trivial ?_
    exact Or.inl ⟨by omega, rfl, rfl⟩

set_option maxHeartbeats 1000000 in
theorem c_X11_wants {x d key : Int} (hR : RR σ) (sc : Sc σ τ) (hx : 0 ≤ x ∧ x < σ 1 5) (hd : 0 ≤ d ∧ d ≤ 2000) (hk : 0 ≤ key ∧ key ≤ 3) : CI l G M_X11_wants 5 [vr 114, vi key, vi x, vi d] τ (fun z υ => z = wnS σ x d key 1000000000 ∧ Sd τ υ) := by
  have f0 : τ 114 0 = σ 0 0 := (sc.2 (114, 0) (by decide)).trans hR.1.1
  have f1 : τ 114 1 = σ 1 5 := (sc.2 (114, 1) (by decide)).trans hR.2.1.1
  have f9 : τ 114 9 = σ 7 9 := (sc.2 (114, 9) (by decide)).trans hR.2.2.2.1.1
  have f122 : τ 122 = σ 8 := (sc.1 122 (by decide)).trans hR.2.2.2.1.2.2.1.1
  have now := hR.now
  have nl12 := hR.lots
  have n120 := hR.n9
  refine Ct.of rfl (Nat.le_of_ble_eq_true rfl) ?_
  have loop1 : ∀ (υ : Nat → Int → Int), key = 1 → TmP σ d (σ 0 0) τ υ → ∀ (k : Nat) (i s : Int), i = σ 7 9 - k → k ≤ (σ 7 9).toNat → s = sumS (fun w => if (Yq σ d (σ 0 0)) 1 w = 1 ∧ (Yq σ d (σ 0 0)) 3 w = x then (Yq σ d (σ 0 0)) 8 w else 0) i.toNat → XI l G M_X11_wants 5 51 [some (vr 114), some (vi key), some (vi x), some (vi d), some (vi s), some (vi i)] [] υ (fun z υ => z = wnS σ x d key 1000000000 ∧ Sd τ υ) := by
    intro υ k1 h9 k
    have y1 := h9.1
    have hy : YOk (nq σ) (σ 1 5) (σ 3) (Yq σ d (σ 0 0)) := hR.yok
    have e9 : υ 114 9 = σ 7 9 := (h9.2.2.2.2.2 9 (by decide)).trans f9
    induction k using Nat.strongRecOn with
    | _ k ih =>
    intro i s hi hk9 hs
    refine x_iload (E_X11_wants_0 16 rfl) rfl ?_
    refine x_aload_n (E_X11_wants_0 17 rfl) rfl ?_
    refine x_getIe (v := υ 114 9) (E_X11_wants_0 18 rfl) fl_X11_227 rfl (by decide) rfl ?_
    refine x_icmp_ge (E_X11_wants_0 19 rfl) (by omega) (by omega) (fun c1 => ?_) (fun c1 => ?_)
    · refine x_iload (E_X11_wants_0 42 rfl) rfl ?_
      refine z_iret (E_X11_wants_0 43 rfl) trivial ?_
      exact ⟨by rw [hs, show i = σ 7 9 by omega, k1]; rfl, h9.sd⟩
    · have g1 : (Yq σ d (σ 0 0)) 1 i = υ 142 i := by rw [← y1]; exact StG_1 (by omega)
      have g2 := (hy.1 i).1
      refine x_iload (E_X11_wants_0 20 rfl) rfl ?_
      refine x_aload_n (E_X11_wants_0 21 rfl) rfl ?_
      refine x_getR (E_X11_wants_0 22 rfl) fl_X11_96 rfl (by decide) rfl ?_
      refine x_iload (E_X11_wants_0 23 rfl) rfl ?_
      refine x_zalde (f := υ 142) (E_X11_wants_0 24 rfl) rfl (by decide) (by omega) rfl ?_
      refine x_if_eq (E_X11_wants_0 25 rfl) (by omega) (fun c2 => ?_) (fun c2 => ?_)
      · refine x_iconst (E_X11_wants_0 37 rfl) ?_
        refine x_iadd (E_X11_wants_0 38 rfl) ?_
        refine x_istore (E_X11_wants_0 39 rfl) rfl ?_
        refine x_iinc (E_X11_wants_0 40 rfl) rfl rfl ?_
        refine x_goto (E_X11_wants_0 41 rfl) ?_
        refine ih (k - 1) (by omega) _ _ (by omega) (by omega) ?_
        rw [sumS_i (by omega), ← hs]
        first | (rw [if_pos (by omega), d8]) | (rw [if_neg (by omega)])
      · have th : (Yq σ d (σ 0 0)) 1 i = 1 := by omega
        have yr := hy.2.1 i th
        obtain ⟨d1, d2, d3, d4, d5, d6, d7, d8, d9⟩ : (0 ≤ i ∧ i < ((nq σ : Nat) : Int)) ∧ υ 142 i = 1 ∧ (Yq σ d (σ 0 0)) 3 i = υ 143 i ∧ (Yq σ d (σ 0 0)) 4 i = υ 144 i ∧ (Yq σ d (σ 0 0)) 5 i = υ 145 i ∧ (Yq σ d (σ 0 0)) 6 i = υ 146 i ∧ (Yq σ d (σ 0 0)) 7 i = υ 147 i ∧ (Yq σ d (σ 0 0)) 8 i = υ 148 i ∧ (Yq σ d (σ 0 0)) 9 i = υ 149 i := by
          have := StG_rd (show SM (nq σ) (σ 1 5) υ 1 i = 1 by rw [y1]; exact th)
          rw [← y1]
          exact this
        refine x_aload_n (E_X11_wants_0 26 rfl) rfl ?_
        refine x_getR (E_X11_wants_0 27 rfl) fl_X11_99 rfl (by decide) rfl ?_
        refine x_iload (E_X11_wants_0 28 rfl) rfl ?_
        refine x_ialde (f := υ 143) (E_X11_wants_0 29 rfl) rfl (by decide) (by omega) rfl ?_
        refine x_iload_n (E_X11_wants_0 30 rfl) rfl ?_
        refine x_icmp_ne (E_X11_wants_0 31 rfl) (by omega) (by omega) (fun c3 => ?_) (fun c3 => ?_)
        · refine x_iconst (E_X11_wants_0 37 rfl) ?_
          refine x_iadd (E_X11_wants_0 38 rfl) ?_
          refine x_istore (E_X11_wants_0 39 rfl) rfl ?_
          refine x_iinc (E_X11_wants_0 40 rfl) rfl rfl ?_
          refine x_goto (E_X11_wants_0 41 rfl) ?_
          refine ih (k - 1) (by omega) _ _ (by omega) (by omega) ?_
          rw [sumS_i (by omega), ← hs]
          first | (rw [if_pos (by omega), d8]) | (rw [if_neg (by omega)])
        · refine x_aload_n (E_X11_wants_0 32 rfl) rfl ?_
          refine x_getR (E_X11_wants_0 33 rfl) fl_X11_114 rfl (by decide) rfl ?_
          refine x_iload (E_X11_wants_0 34 rfl) rfl ?_
          refine x_ialde (f := υ 148) (E_X11_wants_0 35 rfl) rfl (by decide) (by omega) rfl ?_
          refine x_goto (E_X11_wants_0 36 rfl) ?_
          refine x_iadd (E_X11_wants_0 38 rfl) ?_
          refine x_istore (E_X11_wants_0 39 rfl) rfl ?_
          refine x_iinc (E_X11_wants_0 40 rfl) rfl rfl ?_
          refine x_goto (E_X11_wants_0 41 rfl) ?_
          refine ih (k - 1) (by omega) _ _ (by omega) (by omega) ?_
          rw [sumS_i (by omega), ← hs]
          first | (rw [if_pos (by omega), d8]) | (rw [if_neg (by omega)])
  have loop2 : key = 2 → ∀ (k : Nat) (i s : Int), i = 8 - k → k ≤ 8 → s = sumS (fun h => upaq σ h x) i.toNat → XI l G M_X11_wants 5 109 [some (vr 114), some (vi key), some (vi x), some (vi d), some (vi s), some (vi i)] [] τ (fun z υ => z = wnS σ x d key 1000000000 ∧ Sd τ υ) := by
    intro k2 k
    have e159 : τ 159 = σ 159 := sc.1 159 (by decide)
    induction k using Nat.strongRecOn with
    | _ k ih =>
    intro i s hi hk9 hs
    refine x_iload (E_X11_wants_0 46 rfl) rfl ?_
    refine x_bipush (z := 8) (E_X11_wants_0 47 rfl) (by decide) ?_
    refine x_icmp_ge (E_X11_wants_0 48 rfl) (by omega) (by decide) (fun c1 => ?_) (fun c1 => ?_)
    · refine x_iload (E_X11_wants_1 2 rfl) rfl ?_
      refine z_iret (E_X11_wants_1 3 rfl) trivial ?_
      exact ⟨by rw [hs, show i = 8 by omega, k2]; rfl, ⟨⟨fun _ _ => rfl, fun _ _ => rfl⟩, rfl, rfl⟩⟩
    · refine x_iload (E_X11_wants_0 49 rfl) rfl ?_
      refine x_aload_n (E_X11_wants_0 50 rfl) rfl ?_
      refine x_getR (E_X11_wants_0 51 rfl) fl_X11_147 rfl (by decide) rfl ?_
      refine x_bipush (z := 8) (E_X11_wants_0 52 rfl) (by decide) ?_
      refine x_iload_n (E_X11_wants_0 53 rfl) rfl ?_
      refine x_imul (E_X11_wants_0 54 rfl) ?_
      refine x_iload (E_X11_wants_0 55 rfl) rfl ?_
      refine x_iadd (E_X11_wants_0 56 rfl) ?_
      refine x_ialde (f := τ 159) (E_X11_wants_0 57 rfl) rfl (by decide) (by omega) rfl ?_
      refine x_iadd (E_X11_wants_0 58 rfl) ?_
      refine x_istore (E_X11_wants_0 59 rfl) rfl ?_
      refine x_iinc (E_X11_wants_1 0 rfl) rfl rfl ?_
      refine x_goto (E_X11_wants_1 1 rfl) ?_
      refine ih (k - 1) (by omega) _ _ (by omega) (by omega) ?_
      rw [sumS_i (by omega), ← hs, e159, (hR.up (by omega) hx).1]
  refine x_iconst (E_X11_wants_0 0 rfl) ?_
  refine x_istore (E_X11_wants_0 1 rfl) rfl ?_
  refine x_iload_n (E_X11_wants_0 2 rfl) rfl ?_
  by_cases w0 : key = 0
  · subst w0
    refine x_tsw (t := 32) (E_X11_wants_0 3 rfl) (by decide) (by decide) (by decide) ?_
    refine x_aload_n (E_X11_wants_0 4 rfl) rfl ?_
    refine x_iload_n (E_X11_wants_0 5 rfl) rfl ?_
    refine x_iload_n (E_X11_wants_0 6 rfl) rfl ?_
    refine z_callVi (E_X11_wants_0 7 rfl) ml_X11_413 mv_X11_rentOf rfl (by decide) (by decide) (c_X11_rentOf hR sc hx hd) (by decide) rfl rfl (Nat.le_of_ble_eq_true rfl) (fun v8 τ8 k8 => ?_)
    obtain ⟨z8, k8⟩ := k8
    refine z_iret (E_X11_wants_0 8 rfl) trivial ?_
    exact ⟨z8, k8⟩
  by_cases w1 : key = 1
  · subst w1
    refine x_tsw (t := 39) (E_X11_wants_0 3 rfl) (by decide) (by decide) (by decide) ?_
    refine x_aload_n (E_X11_wants_0 9 rfl) rfl ?_
    refine x_aload_n (E_X11_wants_0 10 rfl) rfl ?_
    refine x_getIe (v := τ 114 0) (E_X11_wants_0 11 rfl) fl_X11_205 rfl (by decide) rfl ?_
    refine x_iload_n (E_X11_wants_0 12 rfl) rfl ?_
    rw [f0]
    refine z_callVv (E_X11_wants_0 13 rfl) ml_X11_378 mv_X11_tell rfl (by decide) (by decide) (tM hR sc (by omega) (by omega)) (by decide) rfl rfl (Nat.le_of_ble_eq_true rfl) (fun τ9 h9 => ?_)
    refine x_iconst (E_X11_wants_0 14 rfl) ?_
    refine x_istore (E_X11_wants_0 15 rfl) rfl ?_
    exact loop1 τ9 rfl h9 (σ 7 9).toNat 0 0 (by omega) (Nat.le_refl _) rfl
  by_cases w2 : key = 2
  · subst w2
    refine x_tsw (t := 106) (E_X11_wants_0 3 rfl) (by decide) (by decide) (by decide) ?_
    refine x_iconst (E_X11_wants_0 44 rfl) ?_
    refine x_istore (E_X11_wants_0 45 rfl) rfl ?_
    exact loop2 rfl 8 0 0 (by omega) (Nat.le_refl _) rfl
  refine x_tswD (t := 142) (E_X11_wants_0 3 rfl) (by omega) (by omega) (by decide) ?_
  refine x_ldcw (z := 1000000000) (E_X11_wants_1 4 rfl) kc_X11_427 (by decide) ?_
  refine z_iret (E_X11_wants_1 5 rfl) trivial ?_
  exact ⟨by unfold wnS; rw [if_neg (by omega), if_neg (by omega), if_neg (by omega), if_neg (by omega)], ⟨⟨fun _ _ => rfl, fun _ _ => rfl⟩, rfl, rfl⟩⟩

theorem wn_big (hR : RR σ) {x d key left : Int} (hx : 0 ≤ x ∧ x < σ 1 5) (hd : 0 ≤ d ∧ d ≤ 2000) (hl : 0 ≤ left ∧ left ≤ 99999) (hk : 0 ≤ key ∧ key ≤ 3) : min left (wnS σ x d key 1000000000) = min left (wnS σ x d key left) ∧ 0 ≤ wnS σ x d key 1000000000 ∧ wnS σ x d key 1000000000 ≤ 1000000000 := by
  by_cases e : key = 3
  · subst e
    have a : wnS σ x d 3 1000000000 = 1000000000 := rfl
    have b : wnS σ x d 3 left = left := rfl
    rw [a, b]
    omega
  · have a : wnS σ x d key 1000000000 = wnS σ x d key left := by
      have : key = 0 ∨ key = 1 ∨ key = 2 := by omega
      rcases this with rfl | rfl | rfl <;> rfl
    have b := wn_rg hR (key := key) hx hd hl
    rw [a]
    omega
set_option maxHeartbeats 2000000 in
theorem c_X11_money {x m d q : Int} (hR : RR σ) (sc : Sc σ τ) (q1 : rgi x) (q2 : rgi m) (q3 : rgi d) (q4 : rgi q) : CI l G M_X11_money 6 [vr 114, vi x, vi m, vi d, vi q] τ (fun z υ => (¬ (0 ≤ x ∧ x < σ 1 5) ∧ z = -1001 ∧ υ = τ) ∨ ((0 ≤ x ∧ x < σ 1 5) ∧ ¬ ((0 ≤ m ∧ m ≤ 99999) ∧ (0 ≤ d ∧ d ≤ 2000) ∧ 0 ≤ q ∧ q ≤ 4) ∧ z = -1002 ∧ υ = τ) ∨ ((0 ≤ x ∧ x < σ 1 5) ∧ ((0 ≤ m ∧ m ≤ 99999) ∧ (0 ≤ d ∧ d ≤ 2000) ∧ 0 ≤ q ∧ q ≤ 4) ∧ z = mnZ (kyS (hdq σ d 9)) (wnS σ x d) m q ∧ Sd τ υ)) := by
  have f0 : τ 114 0 = σ 0 0 := (sc.2 (114, 0) (by decide)).trans hR.1.1
  have f1 : τ 114 1 = σ 1 5 := (sc.2 (114, 1) (by decide)).trans hR.2.1.1
  have f9 : τ 114 9 = σ 7 9 := (sc.2 (114, 9) (by decide)).trans hR.2.2.2.1.1
  have f122 : τ 122 = σ 8 := (sc.1 122 (by decide)).trans hR.2.2.2.1.2.2.1.1
  have now := hR.now
  have nl12 := hR.lots
  have n120 := hR.n9
  refine Ct.of rfl (Nat.le_of_ble_eq_true rfl) ?_
  have loop : ∀ f s : Int, KR (hdq σ d 9) f s → (0 ≤ x ∧ x < σ 1 5) → ((0 ≤ m ∧ m ≤ 99999) ∧ (0 ≤ d ∧ d ≤ 2000) ∧ 0 ≤ q ∧ q ≤ 4) → ∀ (t k : Nat) (i left got : Int) (o10 o11 o12 : Option AV) (ρ : Nat → Int → Int), (k : Int) + t = s → i = k → left = lfS (kyS (hdq σ d 9)) (wnS σ x d) m k → got = goT (kyS (hdq σ d 9)) (wnS σ x d) m q k → Sd τ ρ → XI l G M_X11_money 6 74 [some (vr 114), some (vi x), some (vi m), some (vi d), some (vi q), some (vi f), some (vi s), some (vi left), some (vi got), some (vi i), o10, o11, o12] [] ρ (fun z υ => (¬ (0 ≤ x ∧ x < σ 1 5) ∧ z = -1001 ∧ υ = τ) ∨ ((0 ≤ x ∧ x < σ 1 5) ∧ ¬ ((0 ≤ m ∧ m ≤ 99999) ∧ (0 ≤ d ∧ d ≤ 2000) ∧ 0 ≤ q ∧ q ≤ 4) ∧ z = -1002 ∧ υ = τ) ∨ ((0 ≤ x ∧ x < σ 1 5) ∧ ((0 ≤ m ∧ m ≤ 99999) ∧ (0 ≤ d ∧ d ≤ 2000) ∧ 0 ≤ q ∧ q ≤ 4) ∧ z = mnZ (kyS (hdq σ d 9)) (wnS σ x d) m q ∧ Sd τ υ)) := by
    intro f s kr a1 a2 t
    have k1 := kr.1
    have k3 := kr.2.2.1
    have lr : ∀ k, 0 ≤ lfS (kyS (hdq σ d 9)) (wnS σ x d) m k ∧ lfS (kyS (hdq σ d 9)) (wnS σ x d) m k ≤ m := fun k => lfS_rg (by omega) (fun key a x1 x2 => (wn_rg hR a1 (by omega) (by omega)).1)
    have fin : (if q = 4 then lfS (kyS (hdq σ d 9)) (wnS σ x d) m s.toNat else goT (kyS (hdq σ d 9)) (wnS σ x d) m q s.toNat) = mnZ (kyS (hdq σ d 9)) (wnS σ x d) m q := by
      refine mn_fin (by omega) (fun k h1 h2 => ?_) (fun a b h1 h2 => ?_) (fun k h1 => ?_) (by omega) (fun a => rfl) (fun k => (lr k).1)
      · rw [kr.key h2, if_neg (by omega)]
      · rw [kr.key (by omega), kr.key (by omega), if_pos (by omega), if_pos (by omega)]
        exact kr.2.2.2.2 a b h1 (by omega)
      · rw [kr.key (by omega), if_pos (by omega)]
        omega
    induction t using Nat.strongRecOn with
    | _ t ih =>
    intro k i left got o10 o11 o12 ρ hk hi hl hg sd
    have lk := lr k
    rw [← hl] at lk
    refine x_iload (E_X11_money_0 38 rfl) rfl ?_
    refine x_iload (E_X11_money_0 39 rfl) rfl ?_
    refine x_icmp_ge (E_X11_money_0 40 rfl) (by omega) (by omega) (fun c1 => ?_) (fun c1 => ?_)
    · refine x_iload (E_X11_money_1 15 rfl) rfl ?_
      refine x_iconst (E_X11_money_1 16 rfl) ?_
      refine x_icmp_ne (E_X11_money_1 17 rfl) (by omega) (by decide) (fun c2 => ?_) (fun c2 => ?_)
      · refine x_iload (E_X11_money_1 20 rfl) rfl ?_
        refine z_iret (E_X11_money_1 21 rfl) trivial ?_
        exact Or.inr (Or.inr ⟨by omega, by omega, by rw [← fin, if_neg (by omega), hg, show k = s.toNat by omega], sd⟩)
      · refine x_iload (E_X11_money_1 18 rfl) rfl ?_
        refine x_goto (E_X11_money_1 19 rfl) ?_
        refine z_iret (E_X11_money_1 21 rfl) trivial ?_
        exact Or.inr (Or.inr ⟨by omega, by omega, by rw [← fin, if_pos (by omega), hl, show k = s.toNat by omega], sd⟩)
    · refine x_iload (E_X11_money_0 41 rfl) rfl ?_
      refine x_iconst (E_X11_money_0 42 rfl) ?_
      refine x_iload (E_X11_money_0 43 rfl) rfl ?_
      refine x_imul (E_X11_money_0 44 rfl) ?_
      refine x_ishr (E_X11_money_0 45 rfl) ?_
      refine x_iconst (E_X11_money_0 46 rfl) ?_
      refine x_iand (E_X11_money_0 47 rfl) ?_
      rw [k4_b k3 (by omega), show i.toNat = k by omega]
      have ky : (kyS (hdq σ d 9)) k = f / 4 ^ k % 4 := by rw [kr.key (by omega), if_pos (by omega)]
      have kk : 0 ≤ f / 4 ^ k % 4 ∧ f / 4 ^ k % 4 ≤ 3 := by omega
      generalize f / 4 ^ k % 4 = key at ky kk ⊢
      have wb := wn_big hR (key := key) (left := left) a1 (d := d) (by omega) (by omega) kk
      refine x_istore (E_X11_money_0 48 rfl) rfl ?_
      refine x_aload_n (E_X11_money_0 49 rfl) rfl ?_
      refine x_iload (E_X11_money_0 50 rfl) rfl ?_
      refine x_iload_n (E_X11_money_0 51 rfl) rfl ?_
      refine x_iload_n (E_X11_money_0 52 rfl) rfl ?_
      refine z_callVi (E_X11_money_0 53 rfl) ml_X11_432 mv_X11_wants rfl (by decide) (by decide) (c_X11_wants hR (sc.trans sd.1) a1 (by omega) kk) (by decide) rfl rfl (Nat.le_of_ble_eq_true rfl) (fun v7 τ7 k7 => ?_)
      obtain ⟨z7, g7⟩ := k7
      rw [← z7] at wb
      have sd7 := sd.trans g7
      have gt : min left v7 = gtS (kyS (hdq σ d 9)) (wnS σ x d) m k := by
        rw [wb.1, hl, ← ky]
        rfl
      have lf : left - min left v7 = lfS (kyS (hdq σ d 9)) (wnS σ x d) m (k + 1) := by
        rw [gt, hl]
        rfl
      have gn : goT (kyS (hdq σ d 9)) (wnS σ x d) m q (k + 1) = if key = q then min left v7 else got := by
        rw [gt, hg, ← ky]
        rfl
      refine x_istore (E_X11_money_0 54 rfl) rfl ?_
      refine x_iload (E_X11_money_0 55 rfl) rfl ?_
      refine x_iload (E_X11_money_0 56 rfl) rfl ?_
      refine x_icmp_ge (E_X11_money_0 57 rfl) (by omega) (by omega) (fun c3 => ?_) (fun c3 => ?_)
      · refine x_iload (E_X11_money_1 0 rfl) rfl ?_
        refine x_istore (E_X11_money_1 1 rfl) rfl ?_
        refine x_iload (E_X11_money_1 2 rfl) rfl ?_
        refine x_iload (E_X11_money_1 3 rfl) rfl ?_
        refine x_icmp_ne (E_X11_money_1 4 rfl) (by omega) (by omega) (fun c4 => ?_) (fun c4 => ?_)
        · refine x_iload (E_X11_money_1 7 rfl) rfl ?_
          refine x_istore (E_X11_money_1 8 rfl) rfl ?_
          refine x_iload (E_X11_money_1 9 rfl) rfl ?_
          refine x_iload (E_X11_money_1 10 rfl) rfl ?_
          refine x_isub (E_X11_money_1 11 rfl) ?_
          refine x_istore (E_X11_money_1 12 rfl) rfl ?_
          refine x_iinc (E_X11_money_1 13 rfl) rfl rfl ?_
          refine x_goto (E_X11_money_1 14 rfl) ?_
          have mm : min left v7 = left := by omega
          rw [mm] at lf gn
          rw [if_neg (by omega)] at gn
          exact ih (t - 1) (by omega) (k + 1) _ _ _ _ _ _ _ (by omega) (by omega) lf gn.symm sd7
        · refine x_iload (E_X11_money_1 5 rfl) rfl ?_
          refine x_goto (E_X11_money_1 6 rfl) ?_
          refine x_istore (E_X11_money_1 8 rfl) rfl ?_
          refine x_iload (E_X11_money_1 9 rfl) rfl ?_
          refine x_iload (E_X11_money_1 10 rfl) rfl ?_
          refine x_isub (E_X11_money_1 11 rfl) ?_
          refine x_istore (E_X11_money_1 12 rfl) rfl ?_
          refine x_iinc (E_X11_money_1 13 rfl) rfl rfl ?_
          refine x_goto (E_X11_money_1 14 rfl) ?_
          have mm : min left v7 = left := by omega
          rw [mm] at lf gn
          rw [if_pos (by omega)] at gn
          exact ih (t - 1) (by omega) (k + 1) _ _ _ _ _ _ _ (by omega) (by omega) lf gn.symm sd7
      · refine x_iload (E_X11_money_0 58 rfl) rfl ?_
        refine x_goto (E_X11_money_0 59 rfl) ?_
        refine x_istore (E_X11_money_1 1 rfl) rfl ?_
        refine x_iload (E_X11_money_1 2 rfl) rfl ?_
        refine x_iload (E_X11_money_1 3 rfl) rfl ?_
        refine x_icmp_ne (E_X11_money_1 4 rfl) (by omega) (by omega) (fun c5 => ?_) (fun c5 => ?_)
        · refine x_iload (E_X11_money_1 7 rfl) rfl ?_
          refine x_istore (E_X11_money_1 8 rfl) rfl ?_
          refine x_iload (E_X11_money_1 9 rfl) rfl ?_
          refine x_iload (E_X11_money_1 10 rfl) rfl ?_
          refine x_isub (E_X11_money_1 11 rfl) ?_
          refine x_istore (E_X11_money_1 12 rfl) rfl ?_
          refine x_iinc (E_X11_money_1 13 rfl) rfl rfl ?_
          refine x_goto (E_X11_money_1 14 rfl) ?_
          have mm : min left v7 = v7 := by omega
          rw [mm] at lf gn
          rw [if_neg (by omega)] at gn
          exact ih (t - 1) (by omega) (k + 1) _ _ _ _ _ _ _ (by omega) (by omega) lf gn.symm sd7
        · refine x_iload (E_X11_money_1 5 rfl) rfl ?_
          refine x_goto (E_X11_money_1 6 rfl) ?_
          refine x_istore (E_X11_money_1 8 rfl) rfl ?_
          refine x_iload (E_X11_money_1 9 rfl) rfl ?_
          refine x_iload (E_X11_money_1 10 rfl) rfl ?_
          refine x_isub (E_X11_money_1 11 rfl) ?_
          refine x_istore (E_X11_money_1 12 rfl) rfl ?_
          refine x_iinc (E_X11_money_1 13 rfl) rfl rfl ?_
          refine x_goto (E_X11_money_1 14 rfl) ?_
          have mm : min left v7 = v7 := by omega
          rw [mm] at lf gn
          rw [if_pos (by omega)] at gn
          exact ih (t - 1) (by omega) (k + 1) _ _ _ _ _ _ _ (by omega) (by omega) lf gn.symm sd7
  refine x_aload_n (E_X11_money_0 0 rfl) rfl ?_
  refine x_iload_n (E_X11_money_0 1 rfl) rfl ?_
  refine z_callVi (E_X11_money_0 2 rfl) ml_X11_224 mv_X11_noLot rfl (by decide) (by decide) (c_X11_noLot q1 (by omega)) (by decide) rfl rfl (Nat.le_of_ble_eq_true rfl) (fun z9 τ9 h9 => ?_)
  obtain ⟨rfl, ⟨rfl, c1⟩ | ⟨rfl, c1⟩⟩ := h9
  · refine x_if_eq (E_X11_money_0 3 rfl) (by decide) (fun c9 => absurd c9 (by decide)) (fun _ => ?_)
    refine x_sipush (z := (-1001)) (E_X11_money_0 4 rfl) (by decide) ?_
    refine z_iret (E_X11_money_0 5 rfl) trivial ?_
    exact Or.inl ⟨by omega, rfl, rfl⟩
  · refine x_if_eq (E_X11_money_0 3 rfl) (by decide) (fun _ => ?_) (fun c9 => absurd (by decide) c9)
    refine x_iload_n (E_X11_money_0 6 rfl) rfl ?_
    refine x_i2l (E_X11_money_0 7 rfl) (by omega) ?_
    refine x_lconst (z := 0) (E_X11_money_0 8 rfl) rfl ?_
    refine x_ldc2 (z := 99999) (E_X11_money_0 9 rfl) kc_X11_428 (by decide) ?_
    refine z_callSi (E_X11_money_0 10 rfl) ml_X11_197 ms_X11_in (c_X11_in (by omega) (by omega) (by omega)) (by decide) rfl rfl (Nat.le_of_ble_eq_true rfl) (fun z9 τ9 h9 => ?_)
    obtain ⟨rfl, ⟨rfl, c2⟩ | ⟨rfl, c2⟩⟩ := h9
    · refine x_if_eq (E_X11_money_0 11 rfl) (by decide) (fun c9 => absurd c9 (by decide)) (fun _ => ?_)
      refine x_iload_n (E_X11_money_0 12 rfl) rfl ?_
      refine z_callSi (E_X11_money_0 13 rfl) ml_X11_326 ms_X11_isDay (c_X11_isDay (by omega)) (by decide) rfl rfl (Nat.le_of_ble_eq_true rfl) (fun z9 τ9 h9 => ?_)
      obtain ⟨rfl, ⟨rfl, c3⟩ | ⟨rfl, c3⟩⟩ := h9
      · refine x_if_eq (E_X11_money_0 14 rfl) (by decide) (fun c9 => absurd c9 (by decide)) (fun _ => ?_)
        refine x_iload (E_X11_money_0 15 rfl) rfl ?_
        refine x_i2l (E_X11_money_0 16 rfl) (by omega) ?_
        refine x_lconst (z := 0) (E_X11_money_0 17 rfl) rfl ?_
        refine x_ldc2 (z := 4) (E_X11_money_0 18 rfl) kc_X11_430 (by decide) ?_
        refine z_callSi (E_X11_money_0 19 rfl) ml_X11_197 ms_X11_in (c_X11_in (by omega) (by omega) (by omega)) (by decide) rfl rfl (Nat.le_of_ble_eq_true rfl) (fun z9 τ9 h9 => ?_)
        obtain ⟨rfl, ⟨rfl, c4⟩ | ⟨rfl, c4⟩⟩ := h9
        · refine x_if_ne (E_X11_money_0 20 rfl) (by decide) (fun _ => ?_) (fun c9 => absurd c9 (by decide))
          obtain ⟨dy, cl, cd, vl, tm, he⟩ := (hR.lm sc).2.2
          refine x_aload_n (E_X11_money_0 23 rfl) rfl ?_
          refine x_iload_n (E_X11_money_0 24 rfl) rfl ?_
          refine z_callVv (E_X11_money_0 25 rfl) ml_X11_341 mv_X11_findTerms rfl (by decide) (by decide) (c_X11_findTerms (by omega) tm) (by decide) rfl rfl (Nat.le_of_ble_eq_true rfl) (fun τ9 h9 => ?_)
          have kr := h9.2.1
          rw [he] at kr
          refine x_aload_n (E_X11_money_0 26 rfl) rfl ?_
          refine x_getIe (v := τ9 114 38) (E_X11_money_0 27 rfl) fl_X11_333 rfl (by decide) rfl ?_
          refine x_istore (E_X11_money_0 28 rfl) rfl ?_
          refine x_aload_n (E_X11_money_0 29 rfl) rfl ?_
          refine x_getIe (v := τ9 114 39) (E_X11_money_0 30 rfl) fl_X11_336 rfl (by decide) rfl ?_
          refine x_istore (E_X11_money_0 31 rfl) rfl ?_
          refine x_iload_n (E_X11_money_0 32 rfl) rfl ?_
          refine x_istore (E_X11_money_0 33 rfl) rfl ?_
          refine x_iconst (E_X11_money_0 34 rfl) ?_
          refine x_istore (E_X11_money_0 35 rfl) rfl ?_
          refine x_iconst (E_X11_money_0 36 rfl) ?_
          refine x_istore (E_X11_money_0 37 rfl) rfl ?_
          exact loop _ _ kr (by omega) (by omega) (τ9 114 39).toNat 0 _ _ _ none none none τ9 (by have := kr.1; omega) rfl rfl rfl h9.sd
        · refine x_if_ne (E_X11_money_0 20 rfl) (by decide) (fun c9 => absurd c9 (by decide)) (fun _ => ?_)
          refine x_sipush (z := (-1002)) (E_X11_money_0 21 rfl) (by decide) ?_
          refine z_iret (E_X11_money_0 22 rfl) trivial ?_
          exact Or.inr (Or.inl ⟨by omega, by omega, rfl, rfl⟩)
      · refine x_if_eq (E_X11_money_0 14 rfl) (by decide) (fun _ => ?_) (fun c9 => absurd (by decide) c9)
        refine x_sipush (z := (-1002)) (E_X11_money_0 21 rfl) (by decide) ?_
        refine z_iret (E_X11_money_0 22 rfl) trivial ?_
        exact Or.inr (Or.inl ⟨by omega, by omega, rfl, rfl⟩)
    · refine x_if_eq (E_X11_money_0 11 rfl) (by decide) (fun _ => ?_) (fun c9 => absurd (by decide) c9)
      refine x_sipush (z := (-1002)) (E_X11_money_0 21 rfl) (by decide) ?_
      refine z_iret (E_X11_money_0 22 rfl) trivial ?_
      exact Or.inr (Or.inl ⟨by omega, by omega, rfl, rfl⟩)
theorem mn_rg (hR : RR σ) {x m d q : Int} (hx : (0 ≤ x ∧ x < σ 1 5)) (hb : ((0 ≤ m ∧ m ≤ 99999) ∧ (0 ≤ d ∧ d ≤ 2000) ∧ 0 ≤ q ∧ q ≤ 4)) : rgi (mnZ (kyS (hdq σ d 9)) (wnS σ x d) m q) := by
  have lr : ∀ k, 0 ≤ lfS (kyS (hdq σ d 9)) (wnS σ x d) m k ∧ lfS (kyS (hdq σ d 9)) (wnS σ x d) m k ≤ m := fun k => lfS_rg (by omega) (fun key a x1 x2 => (wn_rg hR hx (by omega) (by omega)).1)
  have gr : ∀ k, 0 ≤ gtS (kyS (hdq σ d 9)) (wnS σ x d) m k ∧ gtS (kyS (hdq σ d 9)) (wnS σ x d) m k ≤ m := fun k => by
    have a := lr k
    have b := wn_rg hR (key := (kyS (hdq σ d 9)) k) (left := lfS (kyS (hdq σ d 9)) (wnS σ x d) m k) hx (d := d) (by omega) (by omega)
    unfold gtS
    omega
  have g0 := gr 0
  have g1 := gr 1
  have g2 := gr 2
  have g3 := gr 3
  have l4 := lr 4
  unfold mnZ
  repeat' split
  all_goals omega
theorem pair_money {x m d q : Int} (hR : RR σ) (q1 : rgi x) (q2 : rgi m) (q3 : rgi d) (q4 : rgi q) : Pair l G M_X10_money 6 M_X11_money 6 [vi x, vi m, vi d, vi q] σ := pair3 hR (c_X10_money hR q1 q2 q3 q4) (fun a b => mn_rg hR a b) (fun τ sc => c_X11_money hR sc q1 q2 q3 q4)

