/-! feed -/
variable {l : Launch} {G : GC} {σ : Nat → Int → Int}

/-- the text behind j of n bytes -/
def feedF (tx : Int → Int) (len b : Int) (n : Nat) : Nat → Int → Int
  | 0 => tx
  | j + 1 => fun i => if i = len + j then b / 2 ^ (8 * (n - 1 - j)) % 256 else feedF tx len b n j i
theorem c_X5_add {b : Int} (h0 : 0 ≤ σ 41 1 ∧ σ 41 1 < 160) : CV l G M_X5_add 0 [vr 41, vi b] σ (fun τ => τ = upq (upq σ 42 (σ 41 1) b) 41 1 (σ 41 1 + 1)) := by
  refine Ct.of rfl (Nat.le_of_ble_eq_true rfl) ?_
  refine x_aload_n (E_X5_add_0 0 rfl) rfl ?_
  refine x_getIe (v := σ 41 1) (E_X5_add_0 1 rfl) fl_X5_25 rfl (by decide) rfl ?_
  refine x_sipush (z := 160) (E_X5_add_0 2 rfl) (by decide) ?_
  refine x_icmp_ge (E_X5_add_0 3 rfl) (by omega) (by decide) (fun c1 => ?_) (fun c1 => ?_)
  · refine z_vret (E_X5_add_0 16 rfl) trivial ?_
    first | rfl | omega
  · refine x_aload_n (E_X5_add_0 4 rfl) rfl ?_
    refine x_getR (E_X5_add_0 5 rfl) fl_X5_11 rfl (by decide) rfl ?_
    refine x_aload_n (E_X5_add_0 6 rfl) rfl ?_
    refine x_getIe (v := σ 41 1) (E_X5_add_0 7 rfl) fl_X5_25 rfl (by decide) rfl ?_
    refine x_iload_n (E_X5_add_0 8 rfl) rfl ?_
    refine x_iast (E_X5_add_0 9 rfl) rfl (by decide) (by omega) ?_
    refine x_aload_n (E_X5_add_0 10 rfl) rfl ?_
    refine x_dupr (E_X5_add_0 11 rfl) ?_
    refine x_getIe (v := σ 41 1) (E_X5_add_0 12 rfl) fl_X5_25 rfl (by decide) rfl ?_
    refine x_iconst (E_X5_add_0 13 rfl) ?_
    refine x_iadd (E_X5_add_0 14 rfl) ?_
    refine x_putI (E_X5_add_0 15 rfl) fl_X5_25 rfl (by decide) ?_
    refine z_vret (E_X5_add_0 16 rfl) trivial ?_
    first | rfl | omega

theorem c_X10_feed {n b : Int} (hn : rgi n) (hb : rgl b) (h0 : 0 ≤ σ 41 1 ∧ σ 41 1 ≤ 160) : CI l G M_X10_feed 1 [vr 0, vi n, vl b] σ (fun z τ => z = (if ¬ (1 ≤ n ∧ n ≤ 8) then -1002 else if 160 < σ 41 1 + n then -1004 else σ 41 1 + n) ∧ (¬ ((1 ≤ n ∧ n ≤ 8) ∧ σ 41 1 + n ≤ 160) → τ = σ) ∧ (((1 ≤ n ∧ n ≤ 8) ∧ σ 41 1 + n ≤ 160) → τ 42 = feedF (σ 42) (σ 41 1) b n.toNat n.toNat ∧ τ 41 1 = σ 41 1 + n ∧ Fr [41, 42] σ τ ∧ Fo 41 [1] σ τ)) := by
  refine Ct.of rfl (Nat.le_of_ble_eq_true rfl) ?_
  have loop : ((1 ≤ n ∧ n ≤ 8) ∧ σ 41 1 + n ≤ 160) → ∀ (m : Nat) (k : Int) (τ : Nat → Int → Int), k = (m : Int) - 1 → m ≤ n.toNat → τ 42 = feedF (σ 42) (σ 41 1) b n.toNat (n.toNat - m) → τ 41 1 = σ 41 1 + (n - m) → Fr [41, 42] σ τ → Fo 41 [1] σ τ → XI l G M_X10_feed 1 38 [some (vr 0), some (vi n), some (vl b), none, some (vi k)] [] τ (fun z τ => z = (if ¬ (1 ≤ n ∧ n ≤ 8) then -1002 else if 160 < σ 41 1 + n then -1004 else σ 41 1 + n) ∧ (¬ ((1 ≤ n ∧ n ≤ 8) ∧ σ 41 1 + n ≤ 160) → τ = σ) ∧ (((1 ≤ n ∧ n ≤ 8) ∧ σ 41 1 + n ≤ 160) → τ 42 = feedF (σ 42) (σ 41 1) b n.toNat n.toNat ∧ τ 41 1 = σ 41 1 + n ∧ Fr [41, 42] σ τ ∧ Fo 41 [1] σ τ)) := by
    intro hacc m
    induction m using Nat.strongRecOn with
    | _ m ih =>
    intro k τ hk hm hT hL hF hO
    refine x_iload (E_X10_feed_0 20 rfl) rfl ?_
    refine x_if_lt (E_X10_feed_0 21 rfl) (by omega) (fun c1 => ?_) (fun c1 => ?_)
    · refine x_aload_n (E_X10_feed_0 35 rfl) rfl ?_
      refine x_getR (E_X10_feed_0 36 rfl) fl_X10_37 rfl (by decide) rfl ?_
      refine x_getIe (v := τ 41 1) (E_X10_feed_0 37 rfl) fl_X10_201 rfl (by decide) rfl ?_
      refine z_iret (E_X10_feed_0 38 rfl) trivial ?_
      have e0 : m = 0 := by omega
      subst e0
      refine ⟨?_, fun q => absurd (by omega) q, fun _ => ⟨?_, ?_, hF, hO⟩⟩
      · rw [if_n (by omega) (if_n (by omega) rfl)]
        omega
      · rw [hT]
        rfl
      · omega
    · refine x_aload_n (E_X10_feed_0 22 rfl) rfl ?_
      refine x_getR (E_X10_feed_0 23 rfl) fl_X10_37 rfl (by decide) rfl ?_
      refine x_lload_n (E_X10_feed_0 24 rfl) rfl ?_
      refine x_bipush (z := 8) (E_X10_feed_0 25 rfl) (by decide) ?_
      refine x_iload (E_X10_feed_0 26 rfl) rfl ?_
      refine x_imul (E_X10_feed_0 27 rfl) ?_
      refine x_lushr (E_X10_feed_0 28 rfl) ?_
      refine x_l2i (E_X10_feed_0 29 rfl) ?_
      refine x_sipush (z := 255) (E_X10_feed_0 30 rfl) (by decide) ?_
      refine x_iand (E_X10_feed_0 31 rfl) ?_
      refine z_callVv (E_X10_feed_0 32 rfl) ml_X10_205 mv_X5_add rfl (by decide) (by decide) (c_X5_add (by omega)) (by decide) rfl rfl (Nat.le_of_ble_eq_true rfl) (fun τ9 h9 => ?_)
      subst h9
      have hby := byte_u (k := m - 1) hb (by omega)
      rw [show 8 * (((m - 1 : Nat)) : Int) = 8 * k by omega] at hby
      rw [hby]
      refine x_iinc (E_X10_feed_0 33 rfl) rfl rfl ?_
      refine x_goto (E_X10_feed_0 34 rfl) ?_
      refine ih (m - 1) (by omega) _ _ (by omega) (by omega) ?_ ?_ ((hF.up (by decide)).up (by decide)) ((hO.un (by decide)).up (by decide))
      · show (fun i => if i = τ 41 1 then _ else τ 42 i) = _
        rw [hT, hL, show n.toNat - (m - 1) = (n.toNat - m) + 1 by omega]
        show _ = fun i => if i = σ 41 1 + ((n.toNat - m : Nat) : Int) then b / 2 ^ (8 * (n.toNat - 1 - (n.toNat - m))) % 256 else _
        rw [show n.toNat - 1 - (n.toNat - m) = m - 1 by omega, show σ 41 1 + (n - m) = σ 41 1 + ((n.toNat - m : Nat) : Int) by omega]
      · show τ 41 1 + 1 = _
        omega
  refine x_iload_n (E_X10_feed_0 0 rfl) rfl ?_
  refine x_iconst (E_X10_feed_0 1 rfl) ?_
  refine x_bipush (z := 8) (E_X10_feed_0 2 rfl) (by decide) ?_
  refine z_callSi (E_X10_feed_0 3 rfl) ml_X10_100 ms_X10_within (c_X10_within (by omega) (by omega) (by omega)) (by decide) rfl rfl (Nat.le_of_ble_eq_true rfl) (fun z9 τ9 h9 => ?_)
  obtain ⟨rfl, ⟨rfl, c1⟩ | ⟨rfl, c1⟩⟩ := h9
  · refine x_if_ne (E_X10_feed_0 4 rfl) (by decide) (fun _ => ?_) (fun c9 => absurd c9 (by decide))
    refine x_aload_n (E_X10_feed_0 7 rfl) rfl ?_
    refine x_getR (E_X10_feed_0 8 rfl) fl_X10_37 rfl (by decide) rfl ?_
    refine x_getIe (v := σ 41 1) (E_X10_feed_0 9 rfl) fl_X10_201 rfl (by decide) rfl ?_
    refine x_iload_n (E_X10_feed_0 10 rfl) rfl ?_
    refine x_iadd (E_X10_feed_0 11 rfl) ?_
    refine x_sipush (z := 160) (E_X10_feed_0 12 rfl) (by decide) ?_
    refine x_icmp_le (E_X10_feed_0 13 rfl) (by omega) (by decide) (fun c2 => ?_) (fun c2 => ?_)
    · refine x_iload_n (E_X10_feed_0 16 rfl) rfl ?_
      refine x_iconst (E_X10_feed_0 17 rfl) ?_
      refine x_isub (E_X10_feed_0 18 rfl) ?_
      refine x_istore (E_X10_feed_0 19 rfl) rfl ?_
      exact loop (by omega) n.toNat _ σ (by omega) (Nat.le_refl _) (by rw [Nat.sub_self]; rfl) (by omega) Fr.rf Fo.rf
    · refine x_sipush (z := (-1004)) (E_X10_feed_0 14 rfl) (by decide) ?_
      refine z_iret (E_X10_feed_0 15 rfl) trivial ?_
      exact ⟨(if_n (by omega) (if_p (by omega) rfl)).symm, fun _ => rfl, fun q => absurd q (by omega)⟩
  · refine x_if_ne (E_X10_feed_0 4 rfl) (by decide) (fun c9 => absurd c9 (by decide)) (fun _ => ?_)
    refine x_sipush (z := (-1002)) (E_X10_feed_0 5 rfl) (by decide) ?_
    refine z_iret (E_X10_feed_0 6 rfl) trivial ?_
    exact ⟨(if_p (by omega) rfl).symm, fun _ => rfl, fun q => absurd q (by omega)⟩

theorem c_X11_feed {n b : Int} (hn : rgi n) (hb : rgl b) (h0 : 0 ≤ σ 114 29 ∧ σ 114 29 ≤ 160) : CI l G M_X11_feed 1 [vr 114, vi n, vl b] σ (fun z τ => z = (if ¬ (1 ≤ n ∧ n ≤ 8) then -1002 else if 160 < σ 114 29 + n then -1004 else σ 114 29 + n) ∧ (¬ ((1 ≤ n ∧ n ≤ 8) ∧ σ 114 29 + n ≤ 160) → τ = σ) ∧ (((1 ≤ n ∧ n ≤ 8) ∧ σ 114 29 + n ≤ 160) → τ 138 = feedF (σ 138) (σ 114 29) b n.toNat n.toNat ∧ τ 114 29 = σ 114 29 + n ∧ Fr [114, 138] σ τ ∧ Fo 114 [29] σ τ)) := by
  refine Ct.of rfl (Nat.le_of_ble_eq_true rfl) ?_
  have loop : ((1 ≤ n ∧ n ≤ 8) ∧ σ 114 29 + n ≤ 160) → ∀ (m : Nat) (k : Int) (τ : Nat → Int → Int), k = (m : Int) - 1 → m ≤ n.toNat → τ 138 = feedF (σ 138) (σ 114 29) b n.toNat (n.toNat - m) → τ 114 29 = σ 114 29 + (n - m) → Fr [114, 138] σ τ → Fo 114 [29] σ τ → XI l G M_X11_feed 1 37 [some (vr 114), some (vi n), some (vl b), none, some (vi k)] [] τ (fun z τ => z = (if ¬ (1 ≤ n ∧ n ≤ 8) then -1002 else if 160 < σ 114 29 + n then -1004 else σ 114 29 + n) ∧ (¬ ((1 ≤ n ∧ n ≤ 8) ∧ σ 114 29 + n ≤ 160) → τ = σ) ∧ (((1 ≤ n ∧ n ≤ 8) ∧ σ 114 29 + n ≤ 160) → τ 138 = feedF (σ 138) (σ 114 29) b n.toNat n.toNat ∧ τ 114 29 = σ 114 29 + n ∧ Fr [114, 138] σ τ ∧ Fo 114 [29] σ τ)) := by
    intro hacc m
    induction m using Nat.strongRecOn with
    | _ m ih =>
    intro k τ hk hm hT hL hF hO
    refine x_iload (E_X11_feed_0 20 rfl) rfl ?_
    refine x_if_lt (E_X11_feed_0 21 rfl) (by omega) (fun c1 => ?_) (fun c1 => ?_)
    · refine x_aload_n (E_X11_feed_0 43 rfl) rfl ?_
      refine x_getIe (v := τ 114 29) (E_X11_feed_0 44 rfl) fl_X11_264 rfl (by decide) rfl ?_
      refine z_iret (E_X11_feed_0 45 rfl) trivial ?_
      have e0 : m = 0 := by omega
      subst e0
      refine ⟨?_, fun q => absurd (by omega) q, fun _ => ⟨?_, ?_, hF, hO⟩⟩
      · rw [if_n (by omega) (if_n (by omega) rfl)]
        omega
      · rw [hT]
        rfl
      · omega
    · refine x_aload_n (E_X11_feed_0 22 rfl) rfl ?_
      refine x_getR (E_X11_feed_0 23 rfl) fl_X11_80 rfl (by decide) rfl ?_
      refine x_aload_n (E_X11_feed_0 24 rfl) rfl ?_
      refine x_getIe (v := τ 114 29) (E_X11_feed_0 25 rfl) fl_X11_264 rfl (by decide) rfl ?_
      refine x_lload_n (E_X11_feed_0 26 rfl) rfl ?_
      refine x_bipush (z := 8) (E_X11_feed_0 27 rfl) (by decide) ?_
      refine x_iload (E_X11_feed_0 28 rfl) rfl ?_
      refine x_imul (E_X11_feed_0 29 rfl) ?_
      refine x_lshr (E_X11_feed_0 30 rfl) ?_
      refine x_ldc2 (z := 255) (E_X11_feed_0 31 rfl) kc_X11_267 (by decide) ?_
      refine x_land (E_X11_feed_0 32 rfl) ?_
      refine x_l2i (E_X11_feed_0 33 rfl) ?_
      have hby := byte_s (k := m - 1) hb (by omega)
      rw [show 8 * (((m - 1 : Nat)) : Int) = 8 * k by omega] at hby
      rw [hby]
      refine x_iast (E_X11_feed_0 34 rfl) rfl (by decide) (by omega) ?_
      refine x_aload_n (E_X11_feed_0 35 rfl) rfl ?_
      refine x_dupr (E_X11_feed_0 36 rfl) ?_
      refine x_getIe (v := τ 114 29) (E_X11_feed_0 37 rfl) fl_X11_264 rfl (by decide) rfl ?_
      refine x_iconst (E_X11_feed_0 38 rfl) ?_
      refine x_iadd (E_X11_feed_0 39 rfl) ?_
      refine x_putI (E_X11_feed_0 40 rfl) fl_X11_264 rfl (by decide) ?_
      refine x_iinc (E_X11_feed_0 41 rfl) rfl rfl ?_
      refine x_goto (E_X11_feed_0 42 rfl) ?_
      refine ih (m - 1) (by omega) _ _ (by omega) (by omega) ?_ ?_ ((hF.up (by decide)).up (by decide)) ((hO.un (by decide)).up (by decide))
      · show (fun i => if i = τ 114 29 then _ else τ 138 i) = _
        rw [hT, hL, show n.toNat - (m - 1) = (n.toNat - m) + 1 by omega]
        show _ = fun i => if i = σ 114 29 + ((n.toNat - m : Nat) : Int) then b / 2 ^ (8 * (n.toNat - 1 - (n.toNat - m))) % 256 else _
        rw [show n.toNat - 1 - (n.toNat - m) = m - 1 by omega, show σ 114 29 + (n - m) = σ 114 29 + ((n.toNat - m : Nat) : Int) by omega]
      · show τ 114 29 + 1 = _
        omega
  refine x_iload_n (E_X11_feed_0 0 rfl) rfl ?_
  refine x_i2l (E_X11_feed_0 1 rfl) (by omega) ?_
  refine x_lconst (z := 1) (E_X11_feed_0 2 rfl) rfl ?_
  refine x_ldc2 (z := 8) (E_X11_feed_0 3 rfl) kc_X11_262 (by decide) ?_
  refine z_callSi (E_X11_feed_0 4 rfl) ml_X11_197 ms_X11_in (c_X11_in (by omega) (by omega) (by omega)) (by decide) rfl rfl (Nat.le_of_ble_eq_true rfl) (fun z9 τ9 h9 => ?_)
  obtain ⟨rfl, ⟨rfl, c1⟩ | ⟨rfl, c1⟩⟩ := h9
  · refine x_if_ne (E_X11_feed_0 5 rfl) (by decide) (fun _ => ?_) (fun c9 => absurd c9 (by decide))
    refine x_aload_n (E_X11_feed_0 8 rfl) rfl ?_
    refine x_getIe (v := σ 114 29) (E_X11_feed_0 9 rfl) fl_X11_264 rfl (by decide) rfl ?_
    refine x_iload_n (E_X11_feed_0 10 rfl) rfl ?_
    refine x_iadd (E_X11_feed_0 11 rfl) ?_
    refine x_sipush (z := 160) (E_X11_feed_0 12 rfl) (by decide) ?_
    refine x_icmp_le (E_X11_feed_0 13 rfl) (by omega) (by decide) (fun c2 => ?_) (fun c2 => ?_)
    · refine x_iload_n (E_X11_feed_0 16 rfl) rfl ?_
      refine x_iconst (E_X11_feed_0 17 rfl) ?_
      refine x_isub (E_X11_feed_0 18 rfl) ?_
      refine x_istore (E_X11_feed_0 19 rfl) rfl ?_
      exact loop (by omega) n.toNat _ σ (by omega) (Nat.le_refl _) (by rw [Nat.sub_self]; rfl) (by omega) Fr.rf Fo.rf
    · refine x_sipush (z := (-1004)) (E_X11_feed_0 14 rfl) (by decide) ?_
      refine z_iret (E_X11_feed_0 15 rfl) trivial ?_
      exact ⟨(if_n (by omega) (if_p (by omega) rfl)).symm, fun _ => rfl, fun q => absurd q (by omega)⟩
  · refine x_if_ne (E_X11_feed_0 5 rfl) (by decide) (fun c9 => absurd c9 (by decide)) (fun _ => ?_)
    refine x_sipush (z := (-1002)) (E_X11_feed_0 6 rfl) (by decide) ?_
    refine z_iret (E_X11_feed_0 7 rfl) trivial ?_
    exact ⟨(if_p (by omega) rfl).symm, fun _ => rfl, fun q => absurd q (by omega)⟩

theorem feedF_rg {tx : Int → Int} {len b : Int} {n : Nat} (h : ∀ i, 0 ≤ i → i < 160 → 0 ≤ tx i ∧ tx i ≤ 255) : ∀ (j : Nat) (i : Int), 0 ≤ i → i < 160 → 0 ≤ feedF tx len b n j i ∧ feedF tx len b n j i ≤ 255
  | 0, i, a, c => h i a c
  | j + 1, i, a, c => by
    have := feedF_rg (len := len) (b := b) (n := n) h j i a c
    unfold feedF
    split
    · omega
    · exact this
theorem pair_feed {n b : Int} (hR : RR σ) (hn : rgi n) (hb : rgl b) : Pair l G M_X10_feed 1 M_X11_feed 1 [vi n, vl b] σ := by
  have hR0 := hR
  obtain ⟨r1, r2, r3, r4, r5, ⟨t1, t2, t3, t4, t5⟩, r7⟩ := hR
  refine ⟨_, c_X10_feed hn hb t2, fun z τ q => ?_⟩
  obtain ⟨rfl, qn, qa⟩ := q
  refine ⟨by omega, ?_⟩
  by_cases a : (1 ≤ n ∧ n ≤ 8) ∧ σ 41 1 + n ≤ 160
  · obtain ⟨a1, a2, a3, a4⟩ := qa a
    have e1 : τ 114 = σ 114 := a3 114 (by decide)
    have e2 : τ 138 = σ 138 := a3 138 (by decide)
    refine CI_mono (c_X11_feed hn hb (by rw [e1]; omega)) (fun z υ q => ?_)
    rw [e1, e2, t1, t3] at q
    obtain ⟨rfl, -, q2⟩ := q
    obtain ⟨b1, b2, b3, b4⟩ := q2 a
    refine ⟨rfl, ?_⟩
    have hS : RR (upq (upq (setc (setc σ 42 (feedF (σ 42) (σ 41 1) b n.toNat n.toNat)) 138 (feedF (σ 42) (σ 41 1) b n.toNat n.toNat)) 41 1 (σ 41 1 + n)) 114 29 (σ 41 1 + n)) := by
      refine ⟨r1, r2, r3, r4, r5, ⟨rfl, show 0 ≤ σ 41 1 + n ∧ σ 41 1 + n ≤ 160 by omega, rfl, feedF_rg t4 _, t5⟩, r7⟩
    have c1 : υ 17 = σ 17 := by rw [b3 17 (by decide), a3 17 (by decide)]
    have c2 : υ 40 = σ 40 := by rw [b3 40 (by decide), a3 40 (by decide)]
    refine RR_of hS (fun k hk => ?_) (fun q hq => ?_) ?_
    · by_cases k1 : k = 138
      · subst k1; exact b1
      · by_cases k2 : k = 42
        · subst k2
          rw [b3 42 (by decide)]
          exact a1
        · have k3 : k ≠ 41 := (by decide : ∀ k ∈ PCa, k ≠ 41) k hk
          have k4 : k ≠ 114 := (by decide : ∀ k ∈ PCa, k ≠ 114) k hk
          rw [b3 k (by simp [k1, k4]), a3 k (by simp [k2, k3]), upq_ne k4, upq_ne k3, setc_ne k1, setc_ne k2]
    · by_cases k1 : q.1 = 114
      · by_cases k2 : q.2 = 29
        · rw [k1, k2, b2]; rfl
        · rw [k1, b4 _ (by simp [k2]), a3 114 (by decide), upq_eq, if_neg k2]; rfl
      · rw [b3 q.1 (by simp [k1, (by decide : ∀ q ∈ PCo, q.1 ≠ 138) q hq]), upq_ne k1]
        by_cases k3 : q.1 = 41
        · by_cases k2 : q.2 = 1
          · rw [k3, k2, a2]; rfl
          · rw [k3, a4 _ (by simp [k2]), upq_eq, if_neg k2]; rfl
        · rw [a3 q.1 (by simp [k3, (by decide : ∀ q ∈ PCo, q.1 ≠ 42) q hq]), upq_ne k3, setc_ne ((by decide : ∀ q ∈ PCo, q.1 ≠ 138) q hq), setc_ne ((by decide : ∀ q ∈ PCo, q.1 ≠ 42) q hq)]
    · rw [c1, c2]
      exact hR0.2.2.2.2.2.2.2.2.2.2.2
  · rw [qn a]
    refine CI_mono (c_X11_feed hn hb (by omega)) (fun z υ q => ?_)
    rw [t1] at q
    obtain ⟨rfl, q2, -⟩ := q
    rw [q2 a]
    exact ⟨rfl, hR0⟩

