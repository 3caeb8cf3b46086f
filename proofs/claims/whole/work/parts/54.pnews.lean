/-! news, rent -/
variable {l : Launch} {G : GC} {σ τ : Nat → Int → Int}

theorem nw_eq {n nl : Int} {ck : Int → Int} {y e : Nat → Int → Int} {w : Int} (hy : YOk n nl ck y) (he : YOk n nl ck e) : (if y 1 w = 1 ∧ e 1 w = 1 then (if y 5 w ≠ e 5 w ∨ y 6 w ≠ e 6 w then (1 : Int) else 0) else (if y 1 w ≠ e 1 w then 1 else 0)) = if (if y 1 w = 1 then y 5 w else -1) ≠ (if e 1 w = 1 then e 5 w else -1) ∨ (if y 1 w = 1 then y 6 w else -1) ≠ (if e 1 w = 1 then e 6 w else -1) then 1 else 0 := by
  have a := (hy.1 w).1
  have b := (he.1 w).1
  by_cases c : y 1 w = 1
  · have r := hy.2.1 w c
    by_cases f : e 1 w = 1
    · rw [if_pos ⟨c, f⟩, if_pos c, if_pos f, if_pos c, if_pos f]
    · rw [if_neg (fun h => f h.2), if_pos (by omega), if_pos c, if_neg f, if_pos (by omega)]
  · by_cases f : e 1 w = 1
    · have r := he.2.1 w f
      rw [if_neg (fun h => c h.1), if_pos (by omega), if_neg c, if_pos f, if_pos (by omega)]
    · rw [if_neg (fun h => c h.1), if_neg (by omega), if_neg c, if_neg f, if_neg c, if_neg f, if_neg (by omega)]
set_option maxHeartbeats 1000000 in
theorem c_X10_news {d a b : Int} (hR : RR σ) (q1 : rgi d) (q2 : rgi a) (q3 : rgi b) : CI l G M_X10_news 6 [vr 0, vi d, vi a, vi b] σ (fun z υ => (¬ True ∧ z = -1001 ∧ υ = σ) ∨ (True ∧ ¬ ((0 ≤ d ∧ d ≤ 2000) ∧ (0 ≤ a ∧ a ≤ σ 0 0) ∧ 0 ≤ b ∧ b ≤ σ 0 0) ∧ z = -1002 ∧ υ = σ) ∨ (True ∧ ((0 ≤ d ∧ d ≤ 2000) ∧ (0 ≤ a ∧ a ≤ σ 0 0) ∧ 0 ≤ b ∧ b ≤ σ 0 0) ∧ z = sumS (fun w => if (Yq σ d b) 1 w = 1 ∧ (Yq σ d a) 1 w = 1 then (if (Yq σ d b) 5 w ≠ (Yq σ d a) 5 w ∨ (Yq σ d b) 6 w ≠ (Yq σ d a) 6 w then 1 else 0) else (if (Yq σ d b) 1 w ≠ (Yq σ d a) 1 w then 1 else 0)) (nq σ) ∧ Sc σ υ ∧ RR υ)) := by
  have now := hR.now
  have nl12 := hR.lots
  have n120 := hR.n9
  refine Ct.of rfl (Nat.le_of_ble_eq_true rfl) ?_
  refine x_aload_n (E_X10_news_0 0 rfl) rfl ?_
  refine x_iload_n (E_X10_news_0 1 rfl) rfl ?_
  refine x_iload_n (E_X10_news_0 2 rfl) rfl ?_
  refine z_callVi (E_X10_news_0 3 rfl) ml_X10_235 mv_X10_isAsked rfl (by decide) (by decide) (c_X10_isAsked q1 (by omega) now) (by decide) rfl rfl (Nat.le_of_ble_eq_true rfl) (fun z9 τ9 h9 => ?_)
  obtain ⟨rfl, ⟨rfl, c1⟩ | ⟨rfl, c1⟩⟩ := h9
  · refine x_if_eq (E_X10_news_0 4 rfl) (by decide) (fun c9 => absurd c9 (by decide)) (fun _ => ?_)
    refine x_aload_n (E_X10_news_0 5 rfl) rfl ?_
    refine x_iload_n (E_X10_news_0 6 rfl) rfl ?_
    refine x_iload_n (E_X10_news_0 7 rfl) rfl ?_
    refine z_callVi (E_X10_news_0 8 rfl) ml_X10_235 mv_X10_isAsked rfl (by decide) (by decide) (c_X10_isAsked q1 (by omega) now) (by decide) rfl rfl (Nat.le_of_ble_eq_true rfl) (fun z9 τ9 h9 => ?_)
    obtain ⟨rfl, ⟨rfl, c2⟩ | ⟨rfl, c2⟩⟩ := h9
    · refine x_if_ne (E_X10_news_0 9 rfl) (by decide) (fun _ => ?_) (fun c9 => absurd c9 (by decide))
      refine x_aload_n (E_X10_news_0 12 rfl) rfl ?_
      refine x_getR (E_X10_news_0 13 rfl) fl_X10_50 rfl (by decide) rfl ?_
      refine x_iload_n (E_X10_news_0 14 rfl) rfl ?_
      refine x_iload_n (E_X10_news_0 15 rfl) rfl ?_
      refine z_callVv (E_X10_news_0 16 rfl) ml_X10_174 mv_X7_tell rfl (by decide) (by decide) (tE hR q1 q2) (by decide) rfl rfl (Nat.le_of_ble_eq_true rfl) (fun τ8 h8 => ?_)
      have r8 := h8.rr hR
      have y8 := Yq_sc h8.sc (d := d) (kn := b)
      refine x_aload_n (E_X10_news_0 17 rfl) rfl ?_
      refine x_getR (E_X10_news_0 18 rfl) fl_X10_46 rfl (by decide) rfl ?_
      refine x_iload_n (E_X10_news_0 19 rfl) rfl ?_
      refine x_iload_n (E_X10_news_0 20 rfl) rfl ?_
      refine z_callVv (E_X10_news_0 21 rfl) ml_X10_174 mv_X7_tell rfl (by decide) (by decide) (tC r8 q1 q3) (by decide) rfl rfl (Nat.le_of_ble_eq_true rfl) (fun τ9 h9 => ?_)
      have e15 : τ8 1 5 = σ 1 5 := h8.sc.2 (1, 5) (by decide)
      have y9 : SC 45 (nq τ8) (τ8 1 5) τ9 = (Yq σ d b) := h9.1.trans y8.1
      have z9 : SC 58 (nq τ8) (τ8 1 5) τ9 = (Yq σ d a) := by
        rw [show SC 58 (nq τ8) (τ8 1 5) τ9 = SC 58 (nq τ8) (τ8 1 5) τ8 from SC58_fr (fun k a b => h9.2.2.2.1 k (by simp; omega)), y8.2, e15]
        exact h8.1
      have e3 : dtq τ8 6 = σ 3 := h8.sc.1 3 (by decide)
      have un := c_X7_unlike (l := l) (G := G) h9.2.2.1 r8.dok (by rw [y9, y8.2, e15, e3]; exact hR.yok) (by rw [z9, y8.2, e15, e3]; exact hR.yok)
      rw [y9, z9, y8.2] at un
      refine x_aload_n (E_X10_news_0 22 rfl) rfl ?_
      refine x_getR (E_X10_news_0 23 rfl) fl_X10_46 rfl (by decide) rfl ?_
      refine x_aload_n (E_X10_news_0 24 rfl) rfl ?_
      refine x_getR (E_X10_news_0 25 rfl) fl_X10_50 rfl (by decide) rfl ?_
      refine z_callVi (E_X10_news_0 26 rfl) ml_X10_293 mv_X7_unlike rfl (by decide) (by decide) un (by decide) rfl rfl (Nat.le_of_ble_eq_true rfl) (fun z7_ τ7 k7 => ?_)
      obtain ⟨z7, rfl⟩ := k7
      refine z_iret (E_X10_news_0 27 rfl) trivial ?_
      exact Or.inr (Or.inr ⟨trivial, by omega, z7, h8.sc.trans h9.sc, h9.rr r8⟩)
    · refine x_if_ne (E_X10_news_0 9 rfl) (by decide) (fun c9 => absurd c9 (by decide)) (fun _ => ?_)
      refine x_sipush (z := (-1002)) (E_X10_news_0 10 rfl) (by decide) ?_
      refine z_iret (E_X10_news_0 11 rfl) trivial ?_
      exact Or.inr (Or.inl ⟨trivial, by omega, rfl, rfl⟩)
  · refine x_if_eq (E_X10_news_0 4 rfl) (by decide) (fun _ => ?_) (fun c9 => absurd (by decide) c9)
    refine x_sipush (z := (-1002)) (E_X10_news_0 10 rfl) (by decide) ?_
    refine z_iret (E_X10_news_0 11 rfl) trivial ?_
    exact Or.inr (Or.inl ⟨trivial, by omega, rfl, rfl⟩)
set_option maxHeartbeats 2000000 in
theorem c_X11_news {d a b : Int} (hR : RR σ) (sc : Sc σ τ) (q1 : rgi d) (q2 : rgi a) (q3 : rgi b) : CI l G M_X11_news 4 [vr 114, vi d, vi a, vi b] τ (fun z υ => (¬ True ∧ z = -1001 ∧ υ = τ) ∨ (True ∧ ¬ ((0 ≤ d ∧ d ≤ 2000) ∧ (0 ≤ a ∧ a ≤ σ 0 0) ∧ 0 ≤ b ∧ b ≤ σ 0 0) ∧ z = -1002 ∧ υ = τ) ∨ (True ∧ ((0 ≤ d ∧ d ≤ 2000) ∧ (0 ≤ a ∧ a ≤ σ 0 0) ∧ 0 ≤ b ∧ b ≤ σ 0 0) ∧ z = sumS (fun w => if (Yq σ d b) 1 w = 1 ∧ (Yq σ d a) 1 w = 1 then (if (Yq σ d b) 5 w ≠ (Yq σ d a) 5 w ∨ (Yq σ d b) 6 w ≠ (Yq σ d a) 6 w then 1 else 0) else (if (Yq σ d b) 1 w ≠ (Yq σ d a) 1 w then 1 else 0)) (nq σ) ∧ Sd τ υ)) := by
  have f0 : τ 114 0 = σ 0 0 := (sc.2 (114, 0) (by decide)).trans hR.1.1
  have f1 : τ 114 1 = σ 1 5 := (sc.2 (114, 1) (by decide)).trans hR.2.1.1
  have f9 : τ 114 9 = σ 7 9 := (sc.2 (114, 9) (by decide)).trans hR.2.2.2.1.1
  have f122 : τ 122 = σ 8 := (sc.1 122 (by decide)).trans hR.2.2.2.1.2.2.1.1
  have now := hR.now
  have nl12 := hR.lots
  have n120 := hR.n9
  have ya : YOk (nq σ) (σ 1 5) (σ 3) (Yq σ d a) := hR.yok
  have hy : YOk (nq σ) (σ 1 5) (σ 3) (Yq σ d b) := hR.yok
  refine Ct.of rfl (Nat.le_of_ble_eq_true rfl) ?_
  have loop2 : ∀ (υ : Nat → Int → Int), ((0 ≤ d ∧ d ≤ 2000) ∧ (0 ≤ a ∧ a ≤ σ 0 0) ∧ 0 ≤ b ∧ b ≤ σ 0 0) → SM (nq σ) (σ 1 5) υ = (Yq σ d b) → υ 114 9 = σ 7 9 → (∀ w, 0 ≤ w → w < σ 7 9 → υ 153 w = (if (Yq σ d a) 1 w = 1 then (Yq σ d a) 5 w else -1) ∧ υ 154 w = (if (Yq σ d a) 1 w = 1 then (Yq σ d a) 6 w else -1)) → Sd τ υ → ∀ (k : Nat) (i s : Int) (o6 o7 : Option AV), i = σ 7 9 - k → k ≤ (σ 7 9).toNat → s = sumS (fun w => if (Yq σ d b) 1 w = 1 ∧ (Yq σ d a) 1 w = 1 then (if (Yq σ d b) 5 w ≠ (Yq σ d a) 5 w ∨ (Yq σ d b) 6 w ≠ (Yq σ d a) 6 w then 1 else 0) else (if (Yq σ d b) 1 w ≠ (Yq σ d a) 1 w then 1 else 0)) i.toNat → XI l G M_X11_news 4 119 [some (vr 114), some (vi d), some (vi a), some (vi b), some (vi s), some (vi i), o6, o7] [] υ (fun z υ => (¬ True ∧ z = -1001 ∧ υ = τ) ∨ (True ∧ ¬ ((0 ≤ d ∧ d ≤ 2000) ∧ (0 ≤ a ∧ a ≤ σ 0 0) ∧ 0 ≤ b ∧ b ≤ σ 0 0) ∧ z = -1002 ∧ υ = τ) ∨ (True ∧ ((0 ≤ d ∧ d ≤ 2000) ∧ (0 ≤ a ∧ a ≤ σ 0 0) ∧ 0 ≤ b ∧ b ≤ σ 0 0) ∧ z = sumS (fun w => if (Yq σ d b) 1 w = 1 ∧ (Yq σ d a) 1 w = 1 then (if (Yq σ d b) 5 w ≠ (Yq σ d a) 5 w ∨ (Yq σ d b) 6 w ≠ (Yq σ d a) 6 w then 1 else 0) else (if (Yq σ d b) 1 w ≠ (Yq σ d a) 1 w then 1 else 0)) (nq σ) ∧ Sd τ υ)) := by
    intro υ bb y1 e9 hw sd k
    induction k using Nat.strongRecOn with
    | _ k ih =>
    intro i s o6 o7 hi hk hs
    have j174 : ∀ h t, h = (if (Yq σ d b) 1 i = 1 then (Yq σ d b) 5 i else -1) → t = (if (Yq σ d b) 1 i = 1 then (Yq σ d b) 6 i else -1) → 0 ≤ i → i < σ 7 9 → rgi h → rgi t → XI l G M_X11_news 4 174 [some (vr 114), some (vi d), some (vi a), some (vi b), some (vi s), some (vi i), some (vi h), some (vi t)] [] υ (fun z υ => (¬ True ∧ z = -1001 ∧ υ = τ) ∨ (True ∧ ¬ ((0 ≤ d ∧ d ≤ 2000) ∧ (0 ≤ a ∧ a ≤ σ 0 0) ∧ 0 ≤ b ∧ b ≤ σ 0 0) ∧ z = -1002 ∧ υ = τ) ∨ (True ∧ ((0 ≤ d ∧ d ≤ 2000) ∧ (0 ≤ a ∧ a ≤ σ 0 0) ∧ 0 ≤ b ∧ b ≤ σ 0 0) ∧ z = sumS (fun w => if (Yq σ d b) 1 w = 1 ∧ (Yq σ d a) 1 w = 1 then (if (Yq σ d b) 5 w ≠ (Yq σ d a) 5 w ∨ (Yq σ d b) 6 w ≠ (Yq σ d a) 6 w then 1 else 0) else (if (Yq σ d b) 1 w ≠ (Yq σ d a) 1 w then 1 else 0)) (nq σ) ∧ Sd τ υ)) := by
      intro h t hh ht i0 i1 rh rt
      obtain ⟨w1, w2⟩ := hw i i0 i1
      have nw := nw_eq (w := i) hy ya
      rw [← w1, ← w2, ← hh, ← ht] at nw
      have ra : (-1 ≤ υ 153 i ∧ υ 153 i ≤ 7) ∧ (-1 ≤ υ 154 i ∧ υ 154 i ≤ 7) := by
        rw [w1, w2]
        by_cases c : (Yq σ d a) 1 i = 1
        · have := ya.2.1 i c
          rw [if_pos c, if_pos c]; omega
        · rw [if_neg c, if_neg c]; omega
      refine x_iload (E_X11_news_1 31 rfl) rfl ?_
      refine x_iload (E_X11_news_1 32 rfl) rfl ?_
      refine x_aload_n (E_X11_news_1 33 rfl) rfl ?_
      refine x_getR (E_X11_news_1 34 rfl) fl_X11_129 rfl (by decide) rfl ?_
      refine x_iload (E_X11_news_1 35 rfl) rfl ?_
      refine x_ialde (f := υ 153) (E_X11_news_1 36 rfl) rfl (by decide) (by omega) rfl ?_
      refine x_icmp_ne (E_X11_news_1 37 rfl) (by omega) (by omega) (fun c1 => ?_) (fun c1 => ?_)
      · refine x_iconst (E_X11_news_1 44 rfl) ?_
        refine x_goto (E_X11_news_1 45 rfl) ?_
        refine z_callSi (E_X11_news_1 47 rfl) ml_X11_307 ms_X11_one (c_X11_one (by omega)) (by decide) rfl rfl (Nat.le_of_ble_eq_true rfl) (fun z9 τ9 h9 => ?_)
        obtain ⟨rfl, rfl⟩ := h9
        refine x_iadd (E_X11_news_1 48 rfl) ?_
        refine x_istore (E_X11_news_1 49 rfl) rfl ?_
        refine x_iinc (E_X11_news_1 50 rfl) rfl rfl ?_
        refine x_goto (E_X11_news_1 51 rfl) ?_
        refine ih (k - 1) (by omega) _ _ _ _ (by omega) (by omega) ?_
        rw [sumS_i (by omega), ← hs, nw]
        first | (rw [if_pos (by omega)]) | (rw [if_neg (by omega)])
      · refine x_iload (E_X11_news_1 38 rfl) rfl ?_
        refine x_aload_n (E_X11_news_1 39 rfl) rfl ?_
        refine x_getR (E_X11_news_1 40 rfl) fl_X11_132 rfl (by decide) rfl ?_
        refine x_iload (E_X11_news_1 41 rfl) rfl ?_
        refine x_ialde (f := υ 154) (E_X11_news_1 42 rfl) rfl (by decide) (by omega) rfl ?_
        refine x_icmp_eq (E_X11_news_1 43 rfl) (by omega) (by omega) (fun c2 => ?_) (fun c2 => ?_)
        · refine x_iconst (E_X11_news_1 46 rfl) ?_
          refine z_callSi (E_X11_news_1 47 rfl) ml_X11_307 ms_X11_one (c_X11_one (by omega)) (by decide) rfl rfl (Nat.le_of_ble_eq_true rfl) (fun z9 τ9 h9 => ?_)
          obtain ⟨rfl, rfl⟩ := h9
          refine x_iadd (E_X11_news_1 48 rfl) ?_
          refine x_istore (E_X11_news_1 49 rfl) rfl ?_
          refine x_iinc (E_X11_news_1 50 rfl) rfl rfl ?_
          refine x_goto (E_X11_news_1 51 rfl) ?_
          refine ih (k - 1) (by omega) _ _ _ _ (by omega) (by omega) ?_
          rw [sumS_i (by omega), ← hs, nw]
          first | (rw [if_pos (by omega)]) | (rw [if_neg (by omega)])
        · refine x_iconst (E_X11_news_1 44 rfl) ?_
          refine x_goto (E_X11_news_1 45 rfl) ?_
          refine z_callSi (E_X11_news_1 47 rfl) ml_X11_307 ms_X11_one (c_X11_one (by omega)) (by decide) rfl rfl (Nat.le_of_ble_eq_true rfl) (fun z9 τ9 h9 => ?_)
          obtain ⟨rfl, rfl⟩ := h9
          refine x_iadd (E_X11_news_1 48 rfl) ?_
          refine x_istore (E_X11_news_1 49 rfl) rfl ?_
          refine x_iinc (E_X11_news_1 50 rfl) rfl rfl ?_
          refine x_goto (E_X11_news_1 51 rfl) ?_
          refine ih (k - 1) (by omega) _ _ _ _ (by omega) (by omega) ?_
          rw [sumS_i (by omega), ← hs, nw]
          first | (rw [if_pos (by omega)]) | (rw [if_neg (by omega)])
    refine x_iload (E_X11_news_1 3 rfl) rfl ?_
    refine x_aload_n (E_X11_news_1 4 rfl) rfl ?_
    refine x_getIe (v := υ 114 9) (E_X11_news_1 5 rfl) fl_X11_227 rfl (by decide) rfl ?_
    refine x_icmp_ge (E_X11_news_1 6 rfl) (by omega) (by omega) (fun c1 => ?_) (fun c1 => ?_)
    · refine x_iload (E_X11_news_1 52 rfl) rfl ?_
      refine z_iret (E_X11_news_1 53 rfl) trivial ?_
      exact Or.inr (Or.inr ⟨trivial, bb, by rw [hs, show i = σ 7 9 by omega]; rfl, sd⟩)
    · have g1 : (Yq σ d b) 1 i = υ 142 i := by rw [← y1]; exact StG_1 (by omega)
      have g2 := (hy.1 i).1
      refine x_aload_n (E_X11_news_1 7 rfl) rfl ?_
      refine x_getR (E_X11_news_1 8 rfl) fl_X11_96 rfl (by decide) rfl ?_
      refine x_iload (E_X11_news_1 9 rfl) rfl ?_
      refine x_zalde (f := υ 142) (E_X11_news_1 10 rfl) rfl (by decide) (by omega) rfl ?_
      refine x_if_eq (E_X11_news_1 11 rfl) (by omega) (fun c2 => ?_) (fun c2 => ?_)
      · refine x_iconst (E_X11_news_1 17 rfl) ?_
        refine x_istore (E_X11_news_1 18 rfl) rfl ?_
        refine x_aload_n (E_X11_news_1 19 rfl) rfl ?_
        refine x_getR (E_X11_news_1 20 rfl) fl_X11_96 rfl (by decide) rfl ?_
        refine x_iload (E_X11_news_1 21 rfl) rfl ?_
        refine x_zalde (f := υ 142) (E_X11_news_1 22 rfl) rfl (by decide) (by omega) rfl ?_
        refine x_if_eq (E_X11_news_1 23 rfl) (by omega) (fun c3 => ?_) (fun c3 => ?_)
        · refine x_iconst (E_X11_news_1 29 rfl) ?_
          refine x_istore (E_X11_news_1 30 rfl) rfl ?_
          exact j174 (-1) (-1) (if_neg (by omega)).symm (if_neg (by omega)).symm (by omega) (by omega) (by omega) (by omega)
        · refine x_aload_n (E_X11_news_1 24 rfl) rfl ?_
          refine x_getR (E_X11_news_1 25 rfl) fl_X11_108 rfl (by decide) rfl ?_
          refine x_iload (E_X11_news_1 26 rfl) rfl ?_
          refine x_ialde (f := υ 146) (E_X11_news_1 27 rfl) rfl (by decide) (by omega) rfl ?_
          refine x_goto (E_X11_news_1 28 rfl) ?_
          refine x_istore (E_X11_news_1 30 rfl) rfl ?_
          exfalso; omega
      · refine x_aload_n (E_X11_news_1 12 rfl) rfl ?_
        refine x_getR (E_X11_news_1 13 rfl) fl_X11_105 rfl (by decide) rfl ?_
        refine x_iload (E_X11_news_1 14 rfl) rfl ?_
        refine x_ialde (f := υ 145) (E_X11_news_1 15 rfl) rfl (by decide) (by omega) rfl ?_
        refine x_goto (E_X11_news_1 16 rfl) ?_
        refine x_istore (E_X11_news_1 18 rfl) rfl ?_
        refine x_aload_n (E_X11_news_1 19 rfl) rfl ?_
        refine x_getR (E_X11_news_1 20 rfl) fl_X11_96 rfl (by decide) rfl ?_
        refine x_iload (E_X11_news_1 21 rfl) rfl ?_
        refine x_zalde (f := υ 142) (E_X11_news_1 22 rfl) rfl (by decide) (by omega) rfl ?_
        refine x_if_eq (E_X11_news_1 23 rfl) (by omega) (fun c4 => ?_) (fun c4 => ?_)
        · refine x_iconst (E_X11_news_1 29 rfl) ?_
          refine x_istore (E_X11_news_1 30 rfl) rfl ?_
          exfalso; omega
        · refine x_aload_n (E_X11_news_1 24 rfl) rfl ?_
          refine x_getR (E_X11_news_1 25 rfl) fl_X11_108 rfl (by decide) rfl ?_
          refine x_iload (E_X11_news_1 26 rfl) rfl ?_
          refine x_ialde (f := υ 146) (E_X11_news_1 27 rfl) rfl (by decide) (by omega) rfl ?_
          refine x_goto (E_X11_news_1 28 rfl) ?_
          refine x_istore (E_X11_news_1 30 rfl) rfl ?_
          have n9 := n120
          have th : (Yq σ d b) 1 i = 1 := by omega
          have yr := hy.2.1 i th
          obtain ⟨d1, d2, d3, d4, d5, d6, d7, d8, d9⟩ : (0 ≤ i ∧ i < ((nq σ : Nat) : Int)) ∧ υ 142 i = 1 ∧ (Yq σ d b) 3 i = υ 143 i ∧ (Yq σ d b) 4 i = υ 144 i ∧ (Yq σ d b) 5 i = υ 145 i ∧ (Yq σ d b) 6 i = υ 146 i ∧ (Yq σ d b) 7 i = υ 147 i ∧ (Yq σ d b) 8 i = υ 148 i ∧ (Yq σ d b) 9 i = υ 149 i := by
            have := StG_rd (show SM (nq σ) (σ 1 5) υ 1 i = 1 by rw [y1]; exact th)
            rw [← y1]
            exact this
          exact j174 _ _ (d5.symm.trans (if_pos th).symm) (d6.symm.trans (if_pos th).symm) (by omega) (by omega) (by omega) (by omega)
  have loop1 : ∀ (υ : Nat → Int → Int), ((0 ≤ d ∧ d ≤ 2000) ∧ (0 ≤ a ∧ a ≤ σ 0 0) ∧ 0 ≤ b ∧ b ≤ σ 0 0) → TmP σ d a τ υ → ∀ (k : Nat) (i : Int) (ω : Nat → Int → Int), i = σ 7 9 - k → k ≤ (σ 7 9).toNat → (∀ w, 0 ≤ w → w < i → ω 153 w = (if (Yq σ d a) 1 w = 1 then (Yq σ d a) 5 w else -1) ∧ ω 154 w = (if (Yq σ d a) 1 w = 1 then (Yq σ d a) 6 w else -1)) → Fr [153, 154] υ ω → XI l G M_X11_news 4 36 [some (vr 114), some (vi d), some (vi a), some (vi b), some (vi i), none, none, none] [] ω (fun z υ => (¬ True ∧ z = -1001 ∧ υ = τ) ∨ (True ∧ ¬ ((0 ≤ d ∧ d ≤ 2000) ∧ (0 ≤ a ∧ a ≤ σ 0 0) ∧ 0 ≤ b ∧ b ≤ σ 0 0) ∧ z = -1002 ∧ υ = τ) ∨ (True ∧ ((0 ≤ d ∧ d ≤ 2000) ∧ (0 ≤ a ∧ a ≤ σ 0 0) ∧ 0 ≤ b ∧ b ≤ σ 0 0) ∧ z = sumS (fun w => if (Yq σ d b) 1 w = 1 ∧ (Yq σ d a) 1 w = 1 then (if (Yq σ d b) 5 w ≠ (Yq σ d a) 5 w ∨ (Yq σ d b) 6 w ≠ (Yq σ d a) 6 w then 1 else 0) else (if (Yq σ d b) 1 w ≠ (Yq σ d a) 1 w then 1 else 0)) (nq σ) ∧ Sd τ υ)) := by
    intro υ bb h8 k
    have y1 := h8.1
    have e9 : υ 114 9 = σ 7 9 := (h8.2.2.2.2.2 9 (by decide)).trans f9
    induction k using Nat.strongRecOn with
    | _ k ih =>
    intro i ω hi hk hw hF
    have e9' := congrFun (hF 114 (by decide)) 9
    have e142 := congrFun (hF 142 (by decide)) i
    have e145 := congrFun (hF 145 (by decide)) i
    have e146 := congrFun (hF 146 (by decide)) i
    have sdw : Sc τ ω := h8.sd.1.trans ⟨List.forall_mem_cons.mpr ⟨hF 2 (by decide), List.forall_mem_cons.mpr ⟨hF 3 (by decide), List.forall_mem_cons.mpr ⟨hF 4 (by decide), List.forall_mem_cons.mpr ⟨hF 5 (by decide), List.forall_mem_cons.mpr ⟨hF 6 (by decide), List.forall_mem_cons.mpr ⟨hF 115 (by decide), List.forall_mem_cons.mpr ⟨hF 116 (by decide), List.forall_mem_cons.mpr ⟨hF 117 (by decide), List.forall_mem_cons.mpr ⟨hF 119 (by decide), List.forall_mem_cons.mpr ⟨hF 120 (by decide), List.forall_mem_cons.mpr ⟨hF 105 (by decide), List.forall_mem_cons.mpr ⟨hF 121 (by decide), List.forall_mem_cons.mpr ⟨hF 8 (by decide), List.forall_mem_cons.mpr ⟨hF 9 (by decide), List.forall_mem_cons.mpr ⟨hF 10 (by decide), List.forall_mem_cons.mpr ⟨hF 11 (by decide), List.forall_mem_cons.mpr ⟨hF 12 (by decide), List.forall_mem_cons.mpr ⟨hF 13 (by decide), List.forall_mem_cons.mpr ⟨hF 14 (by decide), List.forall_mem_cons.mpr ⟨hF 122 (by decide), List.forall_mem_cons.mpr ⟨hF 123 (by decide), List.forall_mem_cons.mpr ⟨hF 124 (by decide), List.forall_mem_cons.mpr ⟨hF 125 (by decide), List.forall_mem_cons.mpr ⟨hF 126 (by decide), List.forall_mem_cons.mpr ⟨hF 127 (by decide), List.forall_mem_cons.mpr ⟨hF 128 (by decide), List.forall_mem_cons.mpr ⟨hF 15 (by decide), List.forall_mem_cons.mpr ⟨hF 18 (by decide), List.forall_mem_cons.mpr ⟨hF 19 (by decide), List.forall_mem_cons.mpr ⟨hF 133 (by decide), List.forall_mem_cons.mpr ⟨hF 134 (by decide), List.forall_mem_cons.mpr ⟨hF 21 (by decide), List.forall_mem_cons.mpr ⟨hF 22 (by decide), List.forall_mem_cons.mpr ⟨hF 23 (by decide), List.forall_mem_cons.mpr ⟨hF 24 (by decide), List.forall_mem_cons.mpr ⟨hF 25 (by decide), List.forall_mem_cons.mpr ⟨hF 26 (by decide), List.forall_mem_cons.mpr ⟨hF 27 (by decide), List.forall_mem_cons.mpr ⟨hF 28 (by decide), List.forall_mem_cons.mpr ⟨hF 30 (by decide), List.forall_mem_cons.mpr ⟨hF 31 (by decide), List.forall_mem_cons.mpr ⟨hF 32 (by decide), List.forall_mem_cons.mpr ⟨hF 33 (by decide), List.forall_mem_cons.mpr ⟨hF 34 (by decide), List.forall_mem_cons.mpr ⟨hF 35 (by decide), List.forall_mem_cons.mpr ⟨hF 36 (by decide), List.forall_mem_cons.mpr ⟨hF 37 (by decide), List.forall_mem_cons.mpr ⟨hF 135 (by decide), List.forall_mem_cons.mpr ⟨hF 136 (by decide), List.forall_mem_cons.mpr ⟨hF 137 (by decide), List.forall_mem_cons.mpr ⟨hF 38 (by decide), List.forall_mem_cons.mpr ⟨hF 42 (by decide), List.forall_mem_cons.mpr ⟨hF 138 (by decide), List.forall_mem_cons.mpr ⟨hF 75 (by decide), List.forall_mem_cons.mpr ⟨hF 76 (by decide), List.forall_mem_cons.mpr ⟨hF 77 (by decide), List.forall_mem_cons.mpr ⟨hF 78 (by decide), List.forall_mem_cons.mpr ⟨hF 155 (by decide), List.forall_mem_cons.mpr ⟨hF 156 (by decide), List.forall_mem_cons.mpr ⟨hF 157 (by decide), List.forall_mem_cons.mpr ⟨hF 158 (by decide), List.forall_mem_cons.mpr ⟨hF 80 (by decide), List.forall_mem_cons.mpr ⟨hF 81 (by decide), List.forall_mem_cons.mpr ⟨hF 82 (by decide), List.forall_mem_cons.mpr ⟨hF 83 (by decide), List.forall_mem_cons.mpr ⟨hF 84 (by decide), List.forall_mem_cons.mpr ⟨hF 85 (by decide), List.forall_mem_cons.mpr ⟨hF 86 (by decide), List.forall_mem_cons.mpr ⟨hF 87 (by decide), List.forall_mem_cons.mpr ⟨hF 159 (by decide), List.forall_mem_cons.mpr ⟨hF 89 (by decide), List.forall_mem_cons.mpr ⟨hF 90 (by decide), List.forall_mem_cons.mpr ⟨hF 91 (by decide), List.forall_mem_cons.mpr ⟨hF 92 (by decide), List.forall_mem_cons.mpr ⟨hF 160 (by decide), List.forall_mem_cons.mpr ⟨hF 97 (by decide), List.forall_mem_cons.mpr ⟨hF 98 (by decide), List.forall_mem_cons.mpr ⟨hF 99 (by decide), List.forall_mem_cons.mpr ⟨hF 162 (by decide), List.forall_mem_cons.mpr ⟨hF 163 (by decide), List.forall_mem_cons.mpr ⟨hF 164 (by decide), List.forall_mem_cons.mpr ⟨hF 101 (by decide), List.forall_mem_cons.mpr ⟨hF 167 (by decide), List.forall_mem_cons.mpr ⟨hF 106 (by decide), List.forall_mem_cons.mpr ⟨hF 168 (by decide), fun _ h => nomatch h⟩⟩⟩⟩⟩⟩⟩⟩⟩⟩⟩⟩⟩⟩⟩⟩⟩⟩⟩⟩⟩⟩⟩⟩⟩⟩⟩⟩⟩⟩⟩⟩⟩⟩⟩⟩⟩⟩⟩⟩⟩⟩⟩⟩⟩⟩⟩⟩⟩⟩⟩⟩⟩⟩⟩⟩⟩⟩⟩⟩⟩⟩⟩⟩⟩⟩⟩⟩⟩⟩⟩⟩⟩⟩⟩⟩⟩⟩⟩⟩⟩⟩⟩⟩⟩, List.forall_mem_cons.mpr ⟨congrFun (hF 0 (by decide)) 0, List.forall_mem_cons.mpr ⟨congrFun (hF 114 (by decide)) 0, List.forall_mem_cons.mpr ⟨congrFun (hF 1 (by decide)) 5, List.forall_mem_cons.mpr ⟨congrFun (hF 114 (by decide)) 1, List.forall_mem_cons.mpr ⟨congrFun (hF 7 (by decide)) 9, List.forall_mem_cons.mpr ⟨congrFun (hF 114 (by decide)) 9, List.forall_mem_cons.mpr ⟨congrFun (hF 17 (by decide)) 8, List.forall_mem_cons.mpr ⟨congrFun (hF 114 (by decide)) 22, List.forall_mem_cons.mpr ⟨congrFun (hF 41 (by decide)) 1, List.forall_mem_cons.mpr ⟨congrFun (hF 114 (by decide)) 29, List.forall_mem_cons.mpr ⟨congrFun (hF 41 (by decide)) 6, List.forall_mem_cons.mpr ⟨congrFun (hF 114 (by decide)) 32, List.forall_mem_cons.mpr ⟨congrFun (hF 74 (by decide)) 4, List.forall_mem_cons.mpr ⟨congrFun (hF 114 (by decide)) 54, List.forall_mem_cons.mpr ⟨congrFun (hF 88 (by decide)) 7, List.forall_mem_cons.mpr ⟨congrFun (hF 114 (by decide)) 60, List.forall_mem_cons.mpr ⟨congrFun (hF 96 (by decide)) 4, List.forall_mem_cons.mpr ⟨congrFun (hF 114 (by decide)) 63, fun _ h => nomatch h⟩⟩⟩⟩⟩⟩⟩⟩⟩⟩⟩⟩⟩⟩⟩⟩⟩⟩⟩
    have sdd : Sd τ ω := ⟨sdw, (congrFun (hF 17 (by decide)) 7).trans h8.sd.2.1, (hF 40 (by decide)).trans h8.sd.2.2⟩
    have nx : ∀ ω', 0 ≤ i → i < σ 7 9 → ω' 153 = updI (ω 153) i (if (Yq σ d a) 1 i = 1 then (Yq σ d a) 5 i else -1) → ω' 154 = updI (ω 154) i (if (Yq σ d a) 1 i = 1 then (Yq σ d a) 6 i else -1) → Fr [153, 154] υ ω' → XI l G M_X11_news 4 101 [some (vr 114), some (vi d), some (vi a), some (vi b), some (vi i), none, none, none] [] ω' (fun z υ => (¬ True ∧ z = -1001 ∧ υ = τ) ∨ (True ∧ ¬ ((0 ≤ d ∧ d ≤ 2000) ∧ (0 ≤ a ∧ a ≤ σ 0 0) ∧ 0 ≤ b ∧ b ≤ σ 0 0) ∧ z = -1002 ∧ υ = τ) ∨ (True ∧ ((0 ≤ d ∧ d ≤ 2000) ∧ (0 ≤ a ∧ a ≤ σ 0 0) ∧ 0 ≤ b ∧ b ≤ σ 0 0) ∧ z = sumS (fun w => if (Yq σ d b) 1 w = 1 ∧ (Yq σ d a) 1 w = 1 then (if (Yq σ d b) 5 w ≠ (Yq σ d a) 5 w ∨ (Yq σ d b) 6 w ≠ (Yq σ d a) 6 w then 1 else 0) else (if (Yq σ d b) 1 w ≠ (Yq σ d a) 1 w then 1 else 0)) (nq σ) ∧ Sd τ υ)) := by
      intro ω' i0 i1 g1 g2 hF'
      refine x_iinc (E_X11_news_0 53 rfl) rfl rfl ?_
      refine x_goto (E_X11_news_0 54 rfl) ?_
      refine ih (k - 1) (by omega) _ _ (by omega) (by omega) (fun w x y => ?_) hF'
      rw [g1, g2]
      unfold updI
      by_cases e : w = i
      · rw [if_pos e, if_pos e, e]; exact ⟨rfl, rfl⟩
      · rw [if_neg e, if_neg e]; exact hw w x (by omega)
    refine x_iload (E_X11_news_0 19 rfl) rfl ?_
    refine x_aload_n (E_X11_news_0 20 rfl) rfl ?_
    refine x_getIe (v := ω 114 9) (E_X11_news_0 21 rfl) fl_X11_227 rfl (by decide) rfl ?_
    refine x_icmp_ge (E_X11_news_0 22 rfl) (by omega) (by omega) (fun c1 => ?_) (fun c1 => ?_)
    · refine x_aload_n (E_X11_news_0 55 rfl) rfl ?_
      refine x_iload_n (E_X11_news_0 56 rfl) rfl ?_
      refine x_iload_n (E_X11_news_0 57 rfl) rfl ?_
      refine z_callVv (E_X11_news_0 58 rfl) ml_X11_378 mv_X11_tell rfl (by decide) (by decide) (tM hR (sc.trans sdw) q1 q3) (by decide) rfl rfl (Nat.le_of_ble_eq_true rfl) (fun τ7 h7 => ?_)
      refine x_iconst (E_X11_news_0 59 rfl) ?_
      refine x_istore (E_X11_news_1 0 rfl) rfl ?_
      refine x_iconst (E_X11_news_1 1 rfl) ?_
      refine x_istore (E_X11_news_1 2 rfl) rfl ?_
      refine loop2 τ7 bb h7.1 (((h7.2.2.2.2.2 9 (by decide)).trans e9').trans e9) (fun w x y => ?_) ⟨sdw.trans h7.sd.1, h7.sd.2.1.trans sdd.2.1, h7.sd.2.2.trans sdd.2.2⟩ (σ 7 9).toNat 0 0 none none (by omega) (Nat.le_refl _) rfl
      rw [h7.2.2.2.2.1 153 (by decide), h7.2.2.2.2.1 154 (by decide)]
      exact hw w x (by omega)
    · have g1 : (Yq σ d a) 1 i = υ 142 i := by rw [← y1]; exact StG_1 (by omega)
      have g2 := (ya.1 i).1
      refine x_aload_n (E_X11_news_0 23 rfl) rfl ?_
      refine x_getR (E_X11_news_0 24 rfl) fl_X11_129 rfl (by decide) rfl ?_
      refine x_iload (E_X11_news_0 25 rfl) rfl ?_
      refine x_aload_n (E_X11_news_0 26 rfl) rfl ?_
      refine x_getR (E_X11_news_0 27 rfl) fl_X11_96 rfl (by decide) rfl ?_
      refine x_iload (E_X11_news_0 28 rfl) rfl ?_
      refine x_zalde (f := ω 142) (E_X11_news_0 29 rfl) rfl (by decide) (by omega) rfl ?_
      refine x_if_eq (E_X11_news_0 30 rfl) (by omega) (fun c2 => ?_) (fun c2 => ?_)
      · refine x_iconst (E_X11_news_0 36 rfl) ?_
        refine x_iast (E_X11_news_0 37 rfl) rfl (by decide) (by omega) ?_
        refine x_aload_n (E_X11_news_0 38 rfl) rfl ?_
        refine x_getR (E_X11_news_0 39 rfl) fl_X11_132 rfl (by decide) rfl ?_
        refine x_iload (E_X11_news_0 40 rfl) rfl ?_
        refine x_aload_n (E_X11_news_0 41 rfl) rfl ?_
        refine x_getR (E_X11_news_0 42 rfl) fl_X11_96 rfl (by decide) rfl ?_
        refine x_iload (E_X11_news_0 43 rfl) rfl ?_
        refine x_zalde (f := ω 142) (E_X11_news_0 44 rfl) rfl (by decide) (by omega) rfl ?_
        refine x_if_eq (E_X11_news_0 45 rfl) (by omega) (fun c3 => ?_) (fun c3 => ?_)
        · refine x_iconst (E_X11_news_0 51 rfl) ?_
          refine x_iast (E_X11_news_0 52 rfl) rfl (by decide) (by omega) ?_
          exact nx _ (by omega) (by omega) (by rw [if_neg (by omega)]; rfl) (by rw [if_neg (by omega)]; rfl) ((hF.up (by decide)).up (by decide))
        · refine x_aload_n (E_X11_news_0 46 rfl) rfl ?_
          refine x_getR (E_X11_news_0 47 rfl) fl_X11_108 rfl (by decide) rfl ?_
          refine x_iload (E_X11_news_0 48 rfl) rfl ?_
          refine x_ialde (f := ω 146) (E_X11_news_0 49 rfl) rfl (by decide) (by omega) rfl ?_
          refine x_goto (E_X11_news_0 50 rfl) ?_
          refine x_iast (E_X11_news_0 52 rfl) rfl (by decide) (by omega) ?_
          exfalso; omega
      · refine x_aload_n (E_X11_news_0 31 rfl) rfl ?_
        refine x_getR (E_X11_news_0 32 rfl) fl_X11_105 rfl (by decide) rfl ?_
        refine x_iload (E_X11_news_0 33 rfl) rfl ?_
        refine x_ialde (f := ω 145) (E_X11_news_0 34 rfl) rfl (by decide) (by omega) rfl ?_
        refine x_goto (E_X11_news_0 35 rfl) ?_
        refine x_iast (E_X11_news_0 37 rfl) rfl (by decide) (by omega) ?_
        refine x_aload_n (E_X11_news_0 38 rfl) rfl ?_
        refine x_getR (E_X11_news_0 39 rfl) fl_X11_132 rfl (by decide) rfl ?_
        refine x_iload (E_X11_news_0 40 rfl) rfl ?_
        refine x_aload_n (E_X11_news_0 41 rfl) rfl ?_
        refine x_getR (E_X11_news_0 42 rfl) fl_X11_96 rfl (by decide) rfl ?_
        refine x_iload (E_X11_news_0 43 rfl) rfl ?_
        refine x_zalde (f := ω 142) (E_X11_news_0 44 rfl) rfl (by decide) (by omega) rfl ?_
        refine x_if_eq (E_X11_news_0 45 rfl) (by omega) (fun c4 => ?_) (fun c4 => ?_)
        · refine x_iconst (E_X11_news_0 51 rfl) ?_
          refine x_iast (E_X11_news_0 52 rfl) rfl (by decide) (by omega) ?_
          exfalso; omega
        · refine x_aload_n (E_X11_news_0 46 rfl) rfl ?_
          refine x_getR (E_X11_news_0 47 rfl) fl_X11_108 rfl (by decide) rfl ?_
          refine x_iload (E_X11_news_0 48 rfl) rfl ?_
          refine x_ialde (f := ω 146) (E_X11_news_0 49 rfl) rfl (by decide) (by omega) rfl ?_
          refine x_goto (E_X11_news_0 50 rfl) ?_
          refine x_iast (E_X11_news_0 52 rfl) rfl (by decide) (by omega) ?_
          have n9 := n120
          have th : (Yq σ d a) 1 i = 1 := by omega
          have yr := ya.2.1 i th
          obtain ⟨d1, d2, d3, d4, d5, d6, d7, d8, d9⟩ : (0 ≤ i ∧ i < ((nq σ : Nat) : Int)) ∧ υ 142 i = 1 ∧ (Yq σ d a) 3 i = υ 143 i ∧ (Yq σ d a) 4 i = υ 144 i ∧ (Yq σ d a) 5 i = υ 145 i ∧ (Yq σ d a) 6 i = υ 146 i ∧ (Yq σ d a) 7 i = υ 147 i ∧ (Yq σ d a) 8 i = υ 148 i ∧ (Yq σ d a) 9 i = υ 149 i := by
            have := StG_rd (show SM (nq σ) (σ 1 5) υ 1 i = 1 by rw [y1]; exact th)
            rw [← y1]
            exact this
          exact nx _ (by omega) (by omega) (by rw [if_pos th, d5, ← e145]; rfl) (by rw [if_pos th, d6, ← e146]; rfl) ((hF.up (by decide)).up (by decide))
  refine x_iload_n (E_X11_news_0 0 rfl) rfl ?_
  refine z_callSi (E_X11_news_0 1 rfl) ml_X11_326 ms_X11_isDay (c_X11_isDay (by omega)) (by decide) rfl rfl (Nat.le_of_ble_eq_true rfl) (fun z9 τ9 h9 => ?_)
  obtain ⟨rfl, ⟨rfl, c1⟩ | ⟨rfl, c1⟩⟩ := h9
  · refine x_if_eq (E_X11_news_0 2 rfl) (by decide) (fun c9 => absurd c9 (by decide)) (fun _ => ?_)
    refine x_aload_n (E_X11_news_0 3 rfl) rfl ?_
    refine x_iload_n (E_X11_news_0 4 rfl) rfl ?_
    refine z_callVi (E_X11_news_0 5 rfl) ml_X11_245 mv_X11_isKnown rfl (by decide) (by decide) (c_X11_isKnown q2 (by omega)) (by decide) rfl rfl (Nat.le_of_ble_eq_true rfl) (fun z9 τ9 h9 => ?_)
    obtain ⟨rfl, ⟨rfl, c2⟩ | ⟨rfl, c2⟩⟩ := h9
    · refine x_if_eq (E_X11_news_0 6 rfl) (by decide) (fun c9 => absurd c9 (by decide)) (fun _ => ?_)
      refine x_aload_n (E_X11_news_0 7 rfl) rfl ?_
      refine x_iload_n (E_X11_news_0 8 rfl) rfl ?_
      refine z_callVi (E_X11_news_0 9 rfl) ml_X11_245 mv_X11_isKnown rfl (by decide) (by decide) (c_X11_isKnown q3 (by omega)) (by decide) rfl rfl (Nat.le_of_ble_eq_true rfl) (fun z9 τ9 h9 => ?_)
      obtain ⟨rfl, ⟨rfl, c3⟩ | ⟨rfl, c3⟩⟩ := h9
      · refine x_if_ne (E_X11_news_0 10 rfl) (by decide) (fun _ => ?_) (fun c9 => absurd c9 (by decide))
        refine x_aload_n (E_X11_news_0 13 rfl) rfl ?_
        refine x_iload_n (E_X11_news_0 14 rfl) rfl ?_
        refine x_iload_n (E_X11_news_0 15 rfl) rfl ?_
        refine z_callVv (E_X11_news_0 16 rfl) ml_X11_378 mv_X11_tell rfl (by decide) (by decide) (tM hR sc q1 q2) (by decide) rfl rfl (Nat.le_of_ble_eq_true rfl) (fun τ8 h8 => ?_)
        refine x_iconst (E_X11_news_0 17 rfl) ?_
        refine x_istore (E_X11_news_0 18 rfl) rfl ?_
        exact loop1 τ8 (by omega) h8 (σ 7 9).toNat 0 τ8 (by omega) (Nat.le_refl _) (fun w x y => absurd x (by omega)) Fr.rf
      · refine x_if_ne (E_X11_news_0 10 rfl) (by decide) (fun c9 => absurd c9 (by decide)) (fun _ => ?_)
        refine x_sipush (z := (-1002)) (E_X11_news_0 11 rfl) (by decide) ?_
        refine z_iret (E_X11_news_0 12 rfl) trivial ?_
        exact Or.inr (Or.inl ⟨trivial, by omega, rfl, rfl⟩)
    · refine x_if_eq (E_X11_news_0 6 rfl) (by decide) (fun _ => ?_) (fun c9 => absurd (by decide) c9)
      refine x_sipush (z := (-1002)) (E_X11_news_0 11 rfl) (by decide) ?_
      refine z_iret (E_X11_news_0 12 rfl) trivial ?_
      exact Or.inr (Or.inl ⟨trivial, by omega, rfl, rfl⟩)
  · refine x_if_eq (E_X11_news_0 2 rfl) (by decide) (fun _ => ?_) (fun c9 => absurd (by decide) c9)
    refine x_sipush (z := (-1002)) (E_X11_news_0 11 rfl) (by decide) ?_
    refine z_iret (E_X11_news_0 12 rfl) trivial ?_
    exact Or.inr (Or.inl ⟨trivial, by omega, rfl, rfl⟩)
theorem pair_news {d a b : Int} (hR : RR σ) (q1 : rgi d) (q2 : rgi a) (q3 : rgi b) : Pair l G M_X10_news 6 M_X11_news 4 [vi d, vi a, vi b] σ := by
  refine pair3 hR (c_X10_news hR q1 q2 q3) (fun _ _ => ?_) (fun τ sc => c_X11_news hR sc q1 q2 q3)
  have n9 := hR.n9
  have := sumS_rg (f := (fun w => if (Yq σ d b) 1 w = 1 ∧ (Yq σ d a) 1 w = 1 then (if (Yq σ d b) 5 w ≠ (Yq σ d a) 5 w ∨ (Yq σ d b) 6 w ≠ (Yq σ d a) 6 w then 1 else 0) else (if (Yq σ d b) 1 w ≠ (Yq σ d a) 1 w then 1 else 0))) (B := 1) (n := nq σ) (fun j _ _ => by
    repeat' split
    all_goals omega)
  omega

/-- rent -/
def rnZ (ck si : Int → Int) (hd : Int → Int → Int) (y : Nat → Int → Int) (x d : Int) : Int := if d < si x then 0 else thS ck y x * hd d 0 * ((d - si x) / 7 + 1)
theorem rn_rg {t h b : Int} (ht : 0 ≤ t ∧ t ≤ 200) (hh : 0 ≤ h ∧ h ≤ 4095) (hb : 0 ≤ b ∧ b ≤ 287) : (0 ≤ t * h ∧ t * h ≤ 200 * 4095) ∧ 0 ≤ t * h * b ∧ t * h * b ≤ 200 * 4095 * 287 := ⟨mul_rg ht hh, mul_rg (mul_rg ht hh) hb⟩
theorem RR.th (hR : RR σ) {d kn x : Int} (hx : 0 ≤ x ∧ x < σ 1 5) : 0 ≤ thS (σ 3) (Yq σ d kn) x ∧ thS (σ 3) (Yq σ d kn) x ≤ 200 := by
  have a : 1 ≤ σ 3 x ∧ σ 3 x ≤ 200 := hR.dok.2.2.2.1 x hx.1 hx.2
  have b := (hR.yok (d := d) (kn := kn)).2.2 x
  have b' := b.2.2 hx.1 hx.2
  unfold thS
  omega
theorem RR.since (hR : RR σ) {x : Int} (hx : 0 ≤ x ∧ x < σ 1 5) : 0 ≤ σ 6 x ∧ σ 6 x ≤ 2000 := by
  have := (hR.2.1.2.2.2 x hx.1 hx.2).2.2.2.2
  have n := hR.now
  omega
theorem c_X10_rentAsTold {x d kn : Int} (hR : RR σ) (h9 : TcP σ d kn τ) (hx : 0 ≤ x ∧ x < σ 1 5) (hd : 0 ≤ d ∧ d ≤ 2000) : CI l G M_X10_rentAsTold 3 [vr 0, vi x, vi d] τ (fun z υ => z = rnZ (σ 3) (σ 6) (hdq σ) (Yq σ d kn) x d ∧ (υ = τ ∨ HoldP d τ υ)) := by
  have y1 := h9.1
  have e6 := congrFun (h9.2.2.2.1 6 (by decide)) x
  have si := hR.since hx
  have th := hR.th (d := d) (kn := kn) hx
  have hh := hR.dok.2.2.2.2 d 0 (by decide) (by decide)
  have nl12 := hR.lots
  refine Ct.of rfl (Nat.le_of_ble_eq_true rfl) ?_
  refine x_iload_n (E_X10_rentAsTold_0 0 rfl) rfl ?_
  refine x_aload_n (E_X10_rentAsTold_0 1 rfl) rfl ?_
  refine x_getR (E_X10_rentAsTold_0 2 rfl) fl_X10_16 rfl (by decide) rfl ?_
  refine x_getR (E_X10_rentAsTold_0 3 rfl) fl_X10_382 rfl (by decide) rfl ?_
  refine x_iload_n (E_X10_rentAsTold_0 4 rfl) rfl ?_
  refine x_ialde (f := τ 6) (E_X10_rentAsTold_0 5 rfl) rfl (by decide) (by omega) rfl ?_
  refine x_icmp_ge (E_X10_rentAsTold_0 6 rfl) (by omega) (by omega) (fun c1 => ?_) (fun c1 => ?_)
  · refine x_iload_n (E_X10_rentAsTold_0 9 rfl) rfl ?_
    refine x_aload_n (E_X10_rentAsTold_0 10 rfl) rfl ?_
    refine x_getR (E_X10_rentAsTold_0 11 rfl) fl_X10_16 rfl (by decide) rfl ?_
    refine x_getR (E_X10_rentAsTold_0 12 rfl) fl_X10_382 rfl (by decide) rfl ?_
    refine x_iload_n (E_X10_rentAsTold_0 13 rfl) rfl ?_
    refine x_ialde (f := τ 6) (E_X10_rentAsTold_0 14 rfl) rfl (by decide) (by omega) rfl ?_
    refine x_isub (E_X10_rentAsTold_0 15 rfl) ?_
    refine x_bipush (z := 7) (E_X10_rentAsTold_0 16 rfl) (by decide) ?_
    refine x_idiv (E_X10_rentAsTold_0 17 rfl) (by omega) (by omega) ?_
    refine x_iconst (E_X10_rentAsTold_0 18 rfl) ?_
    refine x_iadd (E_X10_rentAsTold_0 19 rfl) ?_
    refine x_istore_n (E_X10_rentAsTold_0 20 rfl) rfl ?_
    refine x_aload_n (E_X10_rentAsTold_0 21 rfl) rfl ?_
    refine x_getR (E_X10_rentAsTold_0 22 rfl) fl_X10_46 rfl (by decide) rfl ?_
    refine x_iload_n (E_X10_rentAsTold_0 23 rfl) rfl ?_
    refine z_callVi (E_X10_rentAsTold_0 24 rfl) ml_X10_262 mv_X7_thereOf rfl (by decide) (by decide) (c_X7_thereOf_45 hx h9.2.2.1 hR.dok) (by decide) rfl rfl (Nat.le_of_ble_eq_true rfl) (fun v7 τ7 k7 => ?_)
    obtain ⟨z7, rfl⟩ := k7
    rw [y1] at z7
    refine x_aload_n (E_X10_rentAsTold_0 25 rfl) rfl ?_
    refine x_getR (E_X10_rentAsTold_0 26 rfl) fl_X10_30 rfl (by decide) rfl ?_
    refine x_iconst (E_X10_rentAsTold_0 27 rfl) ?_
    refine x_iload_n (E_X10_rentAsTold_0 28 rfl) rfl ?_
    refine z_callVi (E_X10_rentAsTold_0 29 rfl) ml_X10_222 mv_X8_on rfl (by decide) (by decide) (c_X8_on (by decide) hd h9.2.2.1.2.2.1 h9.2.2.1.2.2.2.1 h9.2.2.1.2.2.2.2.1) (by decide) rfl rfl (Nat.le_of_ble_eq_true rfl) (fun v8 τ8 k8 => ?_)
    obtain ⟨z8, k8⟩ := k8
    rw [h9.2.2.1.2.2.2.2.2] at z8
    refine x_imul (E_X10_rentAsTold_0 30 rfl) ?_
    refine x_iload_n (E_X10_rentAsTold_0 31 rfl) rfl ?_
    refine x_imul (E_X10_rentAsTold_0 32 rfl) ?_
    refine z_iret (E_X10_rentAsTold_0 33 rfl) trivial ?_
    refine ⟨?_, Or.inr k8⟩
    rw [z7, z8]
    unfold rnZ
    rw [if_neg (by omega), e6]
    rfl
  · refine x_iconst (E_X10_rentAsTold_0 7 rfl) ?_
    refine z_iret (E_X10_rentAsTold_0 8 rfl) trivial ?_
    exact ⟨(if_pos (by omega)).symm, Or.inl rfl⟩
theorem c_X10_rent {x d : Int} (hR : RR σ) (q1 : rgi x) (q2 : rgi d) : CI l G M_X10_rent 6 [vr 0, vi x, vi d] σ (fun z υ => (¬ (0 ≤ x ∧ x < σ 1 5) ∧ z = -1001 ∧ υ = σ) ∨ ((0 ≤ x ∧ x < σ 1 5) ∧ ¬ (0 ≤ d ∧ d ≤ 2000) ∧ z = -1002 ∧ υ = σ) ∨ ((0 ≤ x ∧ x < σ 1 5) ∧ (0 ≤ d ∧ d ≤ 2000) ∧ z = rnZ (σ 3) (σ 6) (hdq σ) (Yq σ d (σ 0 0)) x d ∧ Sc σ υ ∧ RR υ)) := by
  have now := hR.now
  have nl12 := hR.lots
  have n120 := hR.n9
  refine Ct.of rfl (Nat.le_of_ble_eq_true rfl) ?_
  refine x_aload_n (E_X10_rent_0 0 rfl) rfl ?_
  refine x_getR (E_X10_rent_0 1 rfl) fl_X10_16 rfl (by decide) rfl ?_
  refine x_iload_n (E_X10_rent_0 2 rfl) rfl ?_
  refine z_callVi (E_X10_rent_0 3 rfl) ml_X10_121 mv_X3_has rfl (by decide) (by decide) (c_X3_has q1 nl12) (by decide) rfl rfl (Nat.le_of_ble_eq_true rfl) (fun z9 τ9 h9 => ?_)
  obtain ⟨rfl, ⟨rfl, c1⟩ | ⟨rfl, c1⟩⟩ := h9
  · refine x_if_ne (E_X10_rent_0 4 rfl) (by decide) (fun _ => ?_) (fun c9 => absurd c9 (by decide))
    refine x_iload_n (E_X10_rent_0 7 rfl) rfl ?_
    refine z_callSi (E_X10_rent_0 8 rfl) ml_X10_207 ms_X10_isDay (c_X10_isDay (by omega)) (by decide) rfl rfl (Nat.le_of_ble_eq_true rfl) (fun z9 τ9 h9 => ?_)
    obtain ⟨rfl, ⟨rfl, c2⟩ | ⟨rfl, c2⟩⟩ := h9
    · refine x_if_ne (E_X10_rent_0 9 rfl) (by decide) (fun _ => ?_) (fun c9 => absurd c9 (by decide))
      refine x_aload_n (E_X10_rent_0 12 rfl) rfl ?_
      refine x_getR (E_X10_rent_0 13 rfl) fl_X10_46 rfl (by decide) rfl ?_
      refine x_iload_n (E_X10_rent_0 14 rfl) rfl ?_
      refine x_aload_n (E_X10_rent_0 15 rfl) rfl ?_
      refine x_getIe (v := σ 0 0) (E_X10_rent_0 16 rfl) fl_X10_7 rfl (by decide) rfl ?_
      refine z_callVv (E_X10_rent_0 17 rfl) ml_X10_174 mv_X7_tell rfl (by decide) (by decide) (tC hR q2 (by omega)) (by decide) rfl rfl (Nat.le_of_ble_eq_true rfl) (fun τ9 h9 => ?_)
      refine x_aload_n (E_X10_rent_0 18 rfl) rfl ?_
      refine x_iload_n (E_X10_rent_0 19 rfl) rfl ?_
      refine x_iload_n (E_X10_rent_0 20 rfl) rfl ?_
      refine z_callVi (E_X10_rent_0 21 rfl) ml_X10_297 mv_X10_rentAsTold rfl (by decide) (by decide) (c_X10_rentAsTold hR h9 (by omega) (by omega)) (by decide) rfl rfl (Nat.le_of_ble_eq_true rfl) (fun v8 τ8 k8 => ?_)
      obtain ⟨z8, k8⟩ := k8
      refine z_iret (E_X10_rent_0 22 rfl) trivial ?_
      rcases k8 with rfl | k8
      · exact Or.inr (Or.inr ⟨by omega, by omega, z8, h9.sc, h9.rr hR⟩)
      · exact Or.inr (Or.inr ⟨by omega, by omega, z8, h9.sc.trans k8.sc, k8.rr (by omega) (h9.rr hR)⟩)
    · refine x_if_ne (E_X10_rent_0 9 rfl) (by decide) (fun c9 => absurd c9 (by decide)) (fun _ => ?_)
      refine x_sipush (z := (-1002)) (E_X10_rent_0 10 rfl) (by decide) ?_
      refine z_iret (E_X10_rent_0 11 rfl) trivial ?_
      exact Or.inr (Or.inl ⟨by omega, by omega, rfl, rfl⟩)
  · refine x_if_ne (E_X10_rent_0 4 rfl) (by decide) (fun c9 => absurd c9 (by decide)) (fun _ => ?_)
    refine x_sipush (z := (-1001)) (E_X10_rent_0 5 rfl) (by decide) ?_
    refine z_iret (E_X10_rent_0 6 rfl) trivial ?_
    exact Or.inl ⟨by omega, rfl, rfl⟩
set_option maxHeartbeats 1000000 in
theorem c_X11_rentOf {x d : Int} (hR : RR σ) (sc : Sc σ τ) (hx : 0 ≤ x ∧ x < σ 1 5) (hd : 0 ≤ d ∧ d ≤ 2000) : CI l G M_X11_rentOf 4 [vr 114, vi x, vi d] τ (fun z υ => z = rnZ (σ 3) (σ 6) (hdq σ) (Yq σ d (σ 0 0)) x d ∧ Sd τ υ) := by
  have f0 : τ 114 0 = σ 0 0 := (sc.2 (114, 0) (by decide)).trans hR.1.1
  have f1 : τ 114 1 = σ 1 5 := (sc.2 (114, 1) (by decide)).trans hR.2.1.1
  have f9 : τ 114 9 = σ 7 9 := (sc.2 (114, 9) (by decide)).trans hR.2.2.2.1.1
  have f122 : τ 122 = σ 8 := (sc.1 122 (by decide)).trans hR.2.2.2.1.2.2.1.1
  have now := hR.now
  have nl12 := hR.lots
  have n120 := hR.n9
  have f120 : τ 120 = σ 6 := (sc.1 120 (by decide)).trans hR.2.1.2.2.1.2.2.2.2
  have e120 := congrFun f120 x
  have si := hR.since hx
  have th := hR.th (d := d) (kn := σ 0 0) hx
  have hh := hR.dok.2.2.2.2 d 0 (by decide) (by decide)
  refine Ct.of rfl (Nat.le_of_ble_eq_true rfl) ?_
  refine x_iload_n (E_X11_rentOf_0 0 rfl) rfl ?_
  refine x_aload_n (E_X11_rentOf_0 1 rfl) rfl ?_
  refine x_getR (E_X11_rentOf_0 2 rfl) fl_X11_25 rfl (by decide) rfl ?_
  refine x_iload_n (E_X11_rentOf_0 3 rfl) rfl ?_
  refine x_ialde (f := τ 120) (E_X11_rentOf_0 4 rfl) rfl (by decide) (by omega) rfl ?_
  refine x_icmp_ge (E_X11_rentOf_0 5 rfl) (by omega) (by omega) (fun c1 => ?_) (fun c1 => ?_)
  · refine x_aload_n (E_X11_rentOf_0 8 rfl) rfl ?_
    refine x_aload_n (E_X11_rentOf_0 9 rfl) rfl ?_
    refine x_getIe (v := τ 114 0) (E_X11_rentOf_0 10 rfl) fl_X11_205 rfl (by decide) rfl ?_
    refine x_iload_n (E_X11_rentOf_0 11 rfl) rfl ?_
    rw [f0]
    refine z_callVv (E_X11_rentOf_0 12 rfl) ml_X11_378 mv_X11_tell rfl (by decide) (by decide) (tM hR sc (by omega) (by omega)) (by decide) rfl rfl (Nat.le_of_ble_eq_true rfl) (fun τ9 h9 => ?_)
    obtain ⟨dy, cl, cd, vl, tm, he⟩ := h9.2.2.2.1.2.2
    refine x_aload_n (E_X11_rentOf_0 13 rfl) rfl ?_
    refine x_iload_n (E_X11_rentOf_0 14 rfl) rfl ?_
    refine z_callVv (E_X11_rentOf_0 15 rfl) ml_X11_341 mv_X11_findTerms rfl (by decide) (by decide) (c_X11_findTerms (by omega) tm) (by decide) rfl rfl (Nat.le_of_ble_eq_true rfl) (fun τ8 h8 => ?_)
    have t0 : τ8 141 0 = hdq σ d 0 := (h8.1 0 (by decide) (by decide)).trans (by rw [he])
    have m8 : LM (dtq σ) (hdq σ) (nq σ) (σ 1 5) τ8 := h9.2.2.2.1.low (fun k hk => h8.2.2.1 k (by simp at hk ⊢; omega)) (fun j hj => h8.2.2.2 j (by simp at hj ⊢; omega))
    have y8 : SM (nq σ) (σ 1 5) τ8 = (Yq σ d (σ 0 0)) := (SM_fr (fun k hk => h8.2.2.1 k (by simp at hk ⊢; omega))).trans h9.1
    have g120 : τ8 120 x = τ 120 x := (congrFun (h8.2.2.1 120 (by decide)) x).trans (congrFun (h9.2.2.2.2.1 120 (by decide)) x)
    refine x_aload_n (E_X11_rentOf_0 16 rfl) rfl ?_
    refine x_iload_n (E_X11_rentOf_0 17 rfl) rfl ?_
    refine z_callVi (E_X11_rentOf_0 18 rfl) ml_X11_348 mv_X11_there rfl (by decide) (by decide) (c_X11_there hx m8 hR.dok) (by decide) rfl rfl (Nat.le_of_ble_eq_true rfl) (fun v7 τ7 k7 => ?_)
    obtain ⟨z7, rfl⟩ := k7
    rw [y8] at z7
    refine x_aload_n (E_X11_rentOf_0 19 rfl) rfl ?_
    refine x_getR (E_X11_rentOf_0 20 rfl) fl_X11_93 rfl (by decide) rfl ?_
    refine x_iconst (E_X11_rentOf_0 21 rfl) ?_
    refine x_ialde (f := τ8 141) (E_X11_rentOf_0 22 rfl) rfl (by decide) (by omega) rfl ?_
    refine x_imul (E_X11_rentOf_0 23 rfl) ?_
    refine x_iload_n (E_X11_rentOf_0 24 rfl) rfl ?_
    refine x_aload_n (E_X11_rentOf_0 25 rfl) rfl ?_
    refine x_getR (E_X11_rentOf_0 26 rfl) fl_X11_25 rfl (by decide) rfl ?_
    refine x_iload_n (E_X11_rentOf_0 27 rfl) rfl ?_
    refine x_ialde (f := τ8 120) (E_X11_rentOf_0 28 rfl) rfl (by decide) (by omega) rfl ?_
    refine x_isub (E_X11_rentOf_0 29 rfl) ?_
    refine x_bipush (z := 7) (E_X11_rentOf_0 30 rfl) (by decide) ?_
    refine x_idiv (E_X11_rentOf_0 31 rfl) (by omega) (by omega) ?_
    refine x_iconst (E_X11_rentOf_0 32 rfl) ?_
    refine x_iadd (E_X11_rentOf_0 33 rfl) ?_
    refine x_imul (E_X11_rentOf_0 34 rfl) ?_
    refine z_iret (E_X11_rentOf_0 35 rfl) trivial ?_
    refine ⟨?_, h9.sd.trans h8.sd⟩
    rw [z7]
    unfold rnZ
    rw [if_neg (by omega), t0, ← e120, g120]
    rfl
  · refine x_iconst (E_X11_rentOf_0 6 rfl) ?_
    refine z_iret (E_X11_rentOf_0 7 rfl) trivial ?_
    exact ⟨(if_pos (by omega)).symm, ⟨⟨fun _ _ => rfl, fun _ _ => rfl⟩, rfl, rfl⟩⟩
theorem c_X11_rent {x d : Int} (hR : RR σ) (sc : Sc σ τ) (q1 : rgi x) (q2 : rgi d) : CI l G M_X11_rent 5 [vr 114, vi x, vi d] τ (fun z υ => (¬ (0 ≤ x ∧ x < σ 1 5) ∧ z = -1001 ∧ υ = τ) ∨ ((0 ≤ x ∧ x < σ 1 5) ∧ ¬ (0 ≤ d ∧ d ≤ 2000) ∧ z = -1002 ∧ υ = τ) ∨ ((0 ≤ x ∧ x < σ 1 5) ∧ (0 ≤ d ∧ d ≤ 2000) ∧ z = rnZ (σ 3) (σ 6) (hdq σ) (Yq σ d (σ 0 0)) x d ∧ Sd τ υ)) := by
  have f0 : τ 114 0 = σ 0 0 := (sc.2 (114, 0) (by decide)).trans hR.1.1
  have f1 : τ 114 1 = σ 1 5 := (sc.2 (114, 1) (by decide)).trans hR.2.1.1
  have f9 : τ 114 9 = σ 7 9 := (sc.2 (114, 9) (by decide)).trans hR.2.2.2.1.1
  have f122 : τ 122 = σ 8 := (sc.1 122 (by decide)).trans hR.2.2.2.1.2.2.1.1
  have now := hR.now
  have nl12 := hR.lots
  have n120 := hR.n9
  refine Ct.of rfl (Nat.le_of_ble_eq_true rfl) ?_
  refine x_aload_n (E_X11_rent_0 0 rfl) rfl ?_
  refine x_iload_n (E_X11_rent_0 1 rfl) rfl ?_
  refine z_callVi (E_X11_rent_0 2 rfl) ml_X11_224 mv_X11_noLot rfl (by decide) (by decide) (c_X11_noLot q1 (by omega)) (by decide) rfl rfl (Nat.le_of_ble_eq_true rfl) (fun z9 τ9 h9 => ?_)
  obtain ⟨rfl, ⟨rfl, c1⟩ | ⟨rfl, c1⟩⟩ := h9
  · refine x_if_eq (E_X11_rent_0 3 rfl) (by decide) (fun c9 => absurd c9 (by decide)) (fun _ => ?_)
    refine x_sipush (z := (-1001)) (E_X11_rent_0 4 rfl) (by decide) ?_
    refine z_iret (E_X11_rent_0 5 rfl) trivial ?_
    exact Or.inl ⟨by omega, rfl, rfl⟩
  · refine x_if_eq (E_X11_rent_0 3 rfl) (by decide) (fun _ => ?_) (fun c9 => absurd (by decide) c9)
    refine x_iload_n (E_X11_rent_0 6 rfl) rfl ?_
    refine z_callSi (E_X11_rent_0 7 rfl) ml_X11_326 ms_X11_isDay (c_X11_isDay (by omega)) (by decide) rfl rfl (Nat.le_of_ble_eq_true rfl) (fun z9 τ9 h9 => ?_)
    obtain ⟨rfl, ⟨rfl, c2⟩ | ⟨rfl, c2⟩⟩ := h9
    · refine x_if_eq (E_X11_rent_0 8 rfl) (by decide) (fun c9 => absurd c9 (by decide)) (fun _ => ?_)
      refine x_aload_n (E_X11_rent_0 9 rfl) rfl ?_
      refine x_iload_n (E_X11_rent_0 10 rfl) rfl ?_
      refine x_iload_n (E_X11_rent_0 11 rfl) rfl ?_
      refine z_callVi (E_X11_rent_0 12 rfl) ml_X11_413 mv_X11_rentOf rfl (by decide) (by decide) (c_X11_rentOf hR sc (by omega) (by omega)) (by decide) rfl rfl (Nat.le_of_ble_eq_true rfl) (fun v8 τ8 k8 => ?_)
      obtain ⟨z8, k8⟩ := k8
      refine x_goto (E_X11_rent_0 13 rfl) ?_
      refine z_iret (E_X11_rent_0 15 rfl) trivial ?_
      exact Or.inr (Or.inr ⟨by omega, by omega, z8, k8⟩)
    · refine x_if_eq (E_X11_rent_0 8 rfl) (by decide) (fun _ => ?_) (fun c9 => absurd (by decide) c9)
      refine x_sipush (z := (-1002)) (E_X11_rent_0 14 rfl) (by decide) ?_
      refine z_iret (E_X11_rent_0 15 rfl) trivial ?_
      exact Or.inr (Or.inl ⟨by omega, by omega, rfl, rfl⟩)
theorem rnZ_rg (hR : RR σ) {x d kn : Int} (hx : 0 ≤ x ∧ x < σ 1 5) (hd : 0 ≤ d ∧ d ≤ 2000) : 0 ≤ rnZ (σ 3) (σ 6) (hdq σ) (Yq σ d kn) x d ∧ rnZ (σ 3) (σ 6) (hdq σ) (Yq σ d kn) x d ≤ 200 * 4095 * 287 := by
  have si := hR.since hx
  have th := hR.th (d := d) (kn := kn) hx
  have hh := hR.dok.2.2.2.2 d 0 (by decide) (by decide)
  unfold rnZ
  split
  · omega
  · exact (rn_rg th hh (by omega)).2
theorem pair_rent {x d : Int} (hR : RR σ) (q1 : rgi x) (q2 : rgi d) : Pair l G M_X10_rent 6 M_X11_rent 5 [vi x, vi d] σ := pair3 hR (c_X10_rent hR q1 q2) (fun a b => by have := rnZ_rg hR (kn := σ 0 0) a b; omega) (fun τ sc => c_X11_rent hR sc q1 q2)

