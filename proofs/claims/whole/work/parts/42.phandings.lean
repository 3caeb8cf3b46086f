/-! handings of the model; the pair -/
variable {l : Launch} {G : GC} {σ : Nat → Int → Int}

/-- the set of those that are not 0 -/
def usF (x : Int → Int) : Nat → Nat
  | 0 => 0
  | n + 1 => if x n = 0 then usF x n else usF x n + 2 ^ n
theorem usF_lt {x : Int → Int} : ∀ {n : Nat}, usF x n < 2 ^ n
  | 0 => Nat.lt_of_lt_of_le Nat.zero_lt_one (Nat.le_refl _)
  | n + 1 => by
    have := usF_lt (x := x) (n := n)
    show (if x n = 0 then usF x n else usF x n + 2 ^ n) < _
    rw [Nat.pow_succ]
    split <;> omega
theorem usF_tb {x : Int → Int} : ∀ {n j : Nat}, j < n → (usF x n).testBit j = decide (x j ≠ 0)
  | 0, j, h => absurd h (by omega)
  | n + 1, j, h => by
    have lt := usF_lt (x := x) (n := n)
    show (if x n = 0 then usF x n else usF x n + 2 ^ n).testBit j = _
    by_cases e : j = n
    · subst e
      have z : (usF x j).testBit j = false := Nat.testBit_lt_two_pow lt
      by_cases q : x j = 0
      · rw [if_pos q, z]; simp [q]
      · rw [if_neg q, Nat.add_comm, Nat.testBit_two_pow_add_eq, z]; simp [q]
    · have ih := usF_tb (x := x) (n := n) (j := j) (by omega)
      by_cases q : x n = 0
      · rw [if_pos q]; exact ih
      · rw [if_neg q, Nat.add_comm, Nat.testBit_two_pow_add_gt (by omega)]; exact ih
theorem vF_nz {x : Int → Int} {u : Nat} : ∀ {n : Nat}, (∀ j : Nat, j < n → u.testBit j = decide (x j ≠ 0)) → vF x u n 0 = nzF x n
  | 0, _ => rfl
  | n + 1, h => by
    have a := h n (by omega)
    have b := vF_nz (n := n) (fun j q => h j (by omega))
    show _ = (if x n = 0 then nzF x n else nzF x n ++ [x n])
    by_cases q : x n = 0
    · rw [if_pos q, vF_off (by rw [a]; simp [q]), b]
    · rw [if_neg q, vF_on (by rw [a]; simp [q]), b]
theorem or_all : ∀ h, h < 8 → ∀ u, u < 256 → u < 2 ^ h → bOr (u : Nat) (bShl 1 (h : Nat)) = ((u + 2 ^ h : Nat) : Int) ∧ bOr (u : Nat) (bShl 0 (h : Nat)) = ((u : Nat) : Int) := by decide +kernel
def gM (x : Int → Int) (u a : Nat) : Int := if a &&& u = a then gV x 8 a else 0
theorem gM_rg {x : Int → Int} {u a : Nat} : 0 ≤ gM x u a ∧ gM x u a ≤ 8 := by
  have := gV_rg (x := x) (m := 8) (s := a)
  unfold gM
  split <;> omega
theorem gM_x {x : Int → Int} {u a h : Nat} (hs : a &&& u = a) (hb : a.testBit h = true) : gM x u (a ^^^ 2 ^ h) = gV x 8 (a ^^^ 2 ^ h) := if_pos (sbS_and.mpr (sbS_x (sbS_and.mp hs) hb))
set_option maxHeartbeats 2000000 in
theorem c_X11_handings {so : Int} (hso : rgi so) (hx : (0 ≤ so ∧ so ≤ 3) → ∀ j : Nat, j < 8 → -2400 ≤ σ 160 (8 * so + j) ∧ σ 160 (8 * so + j) ≤ 2400) : CI l G M_X11_handings 1 [vr 114, vi so] σ (fun z τ => (¬ (0 ≤ so ∧ so ≤ 3) ∧ z = -1002 ∧ τ = σ) ∨ ((0 ≤ so ∧ so ≤ 3) ∧ z = hndS (fun h => σ 160 (8 * so + h)) ∧ Fr [161] σ τ)) := by
  refine Ct.of rfl (Nat.le_of_ble_eq_true rfl) ?_
  have loop3 : ∀ (k h u : Nat) (n i : Int) (o5 o6 o7 : Option AV) (τ : Nat → Int → Int), h + k = 8 → u = usF (fun h => σ 160 (8 * so + h)) 8 → τ 161 u = gV (fun h => σ 160 (8 * so + h)) 8 u → Fr [161] σ τ → (0 ≤ so ∧ so ≤ 3) → n = (vF (fun h => σ 160 (8 * so + h)) u h 0).length → i = h → XI l G M_X11_handings 1 212 [some (vr 114), some (vi so), some (vi (u : Int)), some (vi n), some (vi i), o5, o6, o7] [] τ (fun z τ => (¬ (0 ≤ so ∧ so ≤ 3) ∧ z = -1002 ∧ τ = σ) ∨ ((0 ≤ so ∧ so ≤ 3) ∧ z = hndS (fun h => σ 160 (8 * so + h)) ∧ Fr [161] σ τ)) := by
    intro k
    induction k using Nat.strongRecOn with
    | _ k ih =>
    intro h u n i o5 o6 o7 τ hk hu hg hF h3 hn hi
    subst hi
    have u8 : u < 256 := by rw [hu]; exact usF_lt (n := 8)
    refine x_iload (E_X11_handings_2 2 rfl) rfl ?_
    refine x_bipush (z := 8) (E_X11_handings_2 3 rfl) (by decide) ?_
    refine x_icmp_ge (E_X11_handings_2 4 rfl) (by omega) (by decide) (fun c1 => ?_) (fun c1 => ?_)
    · refine x_iload_n (E_X11_handings_2 15 rfl) rfl ?_
      refine x_aload_n (E_X11_handings_2 16 rfl) rfl ?_
      refine x_getR (E_X11_handings_2 17 rfl) fl_X11_153 rfl (by decide) rfl ?_
      refine x_iload_n (E_X11_handings_2 18 rfl) rfl ?_
      refine x_ialde (f := τ 161) (E_X11_handings_2 19 rfl) rfl (by decide) (by omega) rfl ?_
      refine x_isub (E_X11_handings_2 20 rfl) ?_
      refine z_iret (E_X11_handings_2 21 rfl) trivial ?_
      refine Or.inr ⟨h3, ?_, hF⟩
      have e : vF (fun h => σ 160 (8 * so + h)) u 8 0 = nzF (fun h => σ 160 (8 * so + h)) 8 := vF_nz (fun j q => by rw [hu]; exact usF_tb q)
      rw [hg, hn, show h = 8 by omega]
      unfold gV
      rw [e]
      rfl
    · have b9 := bt_all u (by omega) h (by omega)
      refine x_iload_n (E_X11_handings_2 5 rfl) rfl ?_
      refine x_iload_n (E_X11_handings_2 6 rfl) rfl ?_
      refine x_iload (E_X11_handings_2 7 rfl) rfl ?_
      refine x_ishr (E_X11_handings_2 8 rfl) ?_
      refine x_iconst (E_X11_handings_2 9 rfl) ?_
      refine x_iand (E_X11_handings_2 10 rfl) ?_
      refine x_iadd (E_X11_handings_2 11 rfl) ?_
      refine x_istore_n (E_X11_handings_2 12 rfl) rfl ?_
      refine x_iinc (E_X11_handings_2 13 rfl) rfl rfl ?_
      refine x_goto (E_X11_handings_2 14 rfl) ?_
      refine ih (k - 1) (by omega) (h + 1) u _ _ _ _ _ _ (by omega) hu hg hF h3 ?_ (by omega)
      rcases b9 with b9 | b9
      · rw [b9.2.1, vF_on b9.1, List.length_append, hn]; simp
      · rw [b9.2, vF_off b9.1, hn]; omega
  have loop2 : ∀ (k s u : Nat) (i : Int) (o5 o6 o7 : Option AV) (τ : Nat → Int → Int), s + k = 256 → u = usF (fun h => σ 160 (8 * so + h)) 8 → (∀ a : Nat, a < s → τ 161 a = gM (fun h => σ 160 (8 * so + h)) u a) → Fr [161] σ τ → (0 ≤ so ∧ so ≤ 3) → i = s → XI l G M_X11_handings 1 64 [some (vr 114), some (vi so), some (vi (u : Int)), some (vi 0), some (vi i), o5, o6, o7] [] τ (fun z τ => (¬ (0 ≤ so ∧ so ≤ 3) ∧ z = -1002 ∧ τ = σ) ∨ ((0 ≤ so ∧ so ≤ 3) ∧ z = hndS (fun h => σ 160 (8 * so + h)) ∧ Fr [161] σ τ)) := by
    intro k
    induction k using Nat.strongRecOn with
    | _ k ih =>
    intro s u i o5 o6 o7 τ hk hu hA hF h3 hi
    subst hi
    have u8 : u < 256 := by rw [hu]; exact usF_lt (n := 8)
    have e160 : τ 160 = σ 160 := hF 160 (by decide)
    have inner : s < 256 → ∀ (q h : Nat) (su b j : Int), h + q = 8 → su = (vF (fun h => σ 160 (8 * so + h)) s h 0).sum → (0 ≤ b ∧ b ≤ 8) → (s &&& u = s → max b (bsR (fun h => σ 160 (8 * so + h)) 8 s h) = bsR (fun h => σ 160 (8 * so + h)) 8 s 0) → j = h → XI l G M_X11_handings 1 81 [some (vr 114), some (vi so), some (vi (u : Int)), some (vi 0), some (vi (s : Int)), some (vi su), some (vi b), some (vi j)] [] τ (fun z τ => (¬ (0 ≤ so ∧ so ≤ 3) ∧ z = -1002 ∧ τ = σ) ∨ ((0 ≤ so ∧ so ≤ 3) ∧ z = hndS (fun h => σ 160 (8 * so + h)) ∧ Fr [161] σ τ)) := by
      intro s8 q
      induction q using Nat.strongRecOn with
      | _ q ihI =>
      intro h su b j hq hsu hb2 hb hj
      subst hj
      refine x_iload (E_X11_handings_0 48 rfl) rfl ?_
      refine x_bipush (z := 8) (E_X11_handings_0 49 rfl) (by decide) ?_
      refine x_icmp_ge (E_X11_handings_0 50 rfl) (by omega) (by decide) (fun c1 => ?_) (fun c1 => ?_)
      · have hh : h = 8 := by omega
        have sb9 := sb_all s s8 u u8
        rw [hh] at hsu
        rw [hh, bsR_end] at hb
        have rg := vF_sum (x := (fun h => σ 160 (8 * so + h))) (s := s) (B := 2400) (by decide) (n := 8) (h := 0) (fun j _ w => hx h3 j (by omega))
        have gv : s ≠ 0 → gV (fun h => σ 160 (8 * so + h)) 8 s = bsR (fun h => σ 160 (8 * so + h)) 8 s 0 + (if (vF (fun h => σ 160 (8 * so + h)) s 8 0).sum = 0 then 1 else 0) := fun h => by
          obtain ⟨h8, w1, w2⟩ := tb_ex (s := s) (m := 8) h s8
          exact gV_bs (vF_some w1 w2)
        have gz : s = 0 → gV (fun h => σ 160 (8 * so + h)) 8 s = 0 ∧ bsR (fun h => σ 160 (8 * so + h)) 8 s 0 = 0 := fun h => by
          have e0 : vF (fun h => σ 160 (8 * so + h)) s 8 0 = [] := vF_nil (fun j _ _ => by rw [h]; exact Nat.zero_testBit j)
          refine ⟨gV_0 e0, ?_⟩
          unfold bsR
          rw [Nat.sub_zero, e0]
          rfl
        refine x_aload_n (E_X11_handings_1 36 rfl) rfl ?_
        refine x_getR (E_X11_handings_1 37 rfl) fl_X11_153 rfl (by decide) rfl ?_
        refine x_iload (E_X11_handings_1 38 rfl) rfl ?_
        refine x_iload (E_X11_handings_1 39 rfl) rfl ?_
        refine x_iload_n (E_X11_handings_1 40 rfl) rfl ?_
        refine x_iconst (E_X11_handings_1 41 rfl) ?_
        refine x_ixor (E_X11_handings_1 42 rfl) ?_
        refine x_iand (E_X11_handings_1 43 rfl) ?_
        refine x_if_eq (E_X11_handings_1 44 rfl) (by omega) (fun c2 => ?_) (fun c2 => ?_)
        · refine x_iload (E_X11_handings_1 47 rfl) rfl ?_
          refine x_iload (E_X11_handings_1 48 rfl) rfl ?_
          refine x_if_eq (E_X11_handings_1 49 rfl) (by omega) (fun c3 => ?_) (fun c3 => ?_)
          · refine x_iconst (E_X11_handings_1 54 rfl) ?_
            refine z_callSi (E_X11_handings_1 55 rfl) ml_X11_307 ms_X11_one (c_X11_one (by omega)) (by decide) rfl rfl (Nat.le_of_ble_eq_true rfl) (fun z9 τ9 h9 => ?_)
            obtain ⟨rfl, rfl⟩ := h9
            refine x_iadd (E_X11_handings_1 56 rfl) ?_
            refine x_iast (E_X11_handings_1 57 rfl) rfl (by decide) (by omega) ?_
            refine x_iinc (E_X11_handings_1 58 rfl) rfl rfl ?_
            refine x_goto (E_X11_handings_1 59 rfl) ?_
            refine ih (k - 1) (by omega) (s + 1) u _ _ _ _ _ (by omega) hu (fun a ha => ?_) (hF.up (by decide)) h3 (by omega)
            refine (show (if (a : Int) = s then _ else τ 161 a) = _ from ?_)
            by_cases e : a = s
            · subst e
              rw [if_pos rfl]
              unfold gM
              have sub : a &&& u = a := (sb9.resolve_right (fun h => by have := h.1; omega)).2
              have hb := hb sub
              rw [if_pos sub]
              have := gz (by omega)
              omega
            · rw [if_neg (by omega)]; exact hA a (by omega)
          · refine x_iload (E_X11_handings_1 50 rfl) rfl ?_
            refine x_if_ne (E_X11_handings_1 51 rfl) (by omega) (fun c4 => ?_) (fun c4 => ?_)
            · refine x_iconst (E_X11_handings_1 54 rfl) ?_
              refine z_callSi (E_X11_handings_1 55 rfl) ml_X11_307 ms_X11_one (c_X11_one (by omega)) (by decide) rfl rfl (Nat.le_of_ble_eq_true rfl) (fun z9 τ9 h9 => ?_)
              obtain ⟨rfl, rfl⟩ := h9
              refine x_iadd (E_X11_handings_1 56 rfl) ?_
              refine x_iast (E_X11_handings_1 57 rfl) rfl (by decide) (by omega) ?_
              refine x_iinc (E_X11_handings_1 58 rfl) rfl rfl ?_
              refine x_goto (E_X11_handings_1 59 rfl) ?_
              refine ih (k - 1) (by omega) (s + 1) u _ _ _ _ _ (by omega) hu (fun a ha => ?_) (hF.up (by decide)) h3 (by omega)
              refine (show (if (a : Int) = s then _ else τ 161 a) = _ from ?_)
              by_cases e : a = s
              · subst e
                rw [if_pos rfl]
                unfold gM
                have sub : a &&& u = a := (sb9.resolve_right (fun h => by have := h.1; omega)).2
                have hb := hb sub
                rw [if_pos sub]
                rw [gv (by omega), ← hsu, if_neg (by omega)]
                omega
              · rw [if_neg (by omega)]; exact hA a (by omega)
            · refine x_iconst (E_X11_handings_1 52 rfl) ?_
              refine x_goto (E_X11_handings_1 53 rfl) ?_
              refine z_callSi (E_X11_handings_1 55 rfl) ml_X11_307 ms_X11_one (c_X11_one (by omega)) (by decide) rfl rfl (Nat.le_of_ble_eq_true rfl) (fun z9 τ9 h9 => ?_)
              obtain ⟨rfl, rfl⟩ := h9
              refine x_iadd (E_X11_handings_1 56 rfl) ?_
              refine x_iast (E_X11_handings_1 57 rfl) rfl (by decide) (by omega) ?_
              refine x_iinc (E_X11_handings_1 58 rfl) rfl rfl ?_
              refine x_goto (E_X11_handings_1 59 rfl) ?_
              refine ih (k - 1) (by omega) (s + 1) u _ _ _ _ _ (by omega) hu (fun a ha => ?_) (hF.up (by decide)) h3 (by omega)
              refine (show (if (a : Int) = s then _ else τ 161 a) = _ from ?_)
              by_cases e : a = s
              · subst e
                rw [if_pos rfl]
                unfold gM
                have sub : a &&& u = a := (sb9.resolve_right (fun h => by have := h.1; omega)).2
                have hb := hb sub
                rw [if_pos sub]
                rw [gv (by omega), ← hsu, if_pos (by omega)]
                omega
              · rw [if_neg (by omega)]; exact hA a (by omega)
        · refine x_iconst (E_X11_handings_1 45 rfl) ?_
          refine x_goto (E_X11_handings_1 46 rfl) ?_
          refine x_iast (E_X11_handings_1 57 rfl) rfl (by decide) (by omega) ?_
          refine x_iinc (E_X11_handings_1 58 rfl) rfl rfl ?_
          refine x_goto (E_X11_handings_1 59 rfl) ?_
          refine ih (k - 1) (by omega) (s + 1) u _ _ _ _ _ (by omega) hu (fun a ha => ?_) (hF.up (by decide)) h3 (by omega)
          refine (show (if (a : Int) = s then _ else τ 161 a) = _ from ?_)
          by_cases e : a = s
          · subst e
            rw [if_pos rfl]
            unfold gM
            rw [if_neg (sb9.resolve_left (fun h => by have := h.1; omega)).2.2]
          · rw [if_neg (by omega)]; exact hA a (by omega)
      · have b9 := bt_all s (by omega) h (by omega)
        have x9 := hx h3 h (by omega)
        refine x_iload (E_X11_handings_0 51 rfl) rfl ?_
        refine x_iload (E_X11_handings_0 52 rfl) rfl ?_
        refine x_ishr (E_X11_handings_0 53 rfl) ?_
        refine x_iconst (E_X11_handings_0 54 rfl) ?_
        refine x_iand (E_X11_handings_0 55 rfl) ?_
        refine x_iconst (E_X11_handings_0 56 rfl) ?_
        refine x_icmp_ne (E_X11_handings_0 57 rfl) (by omega) (by decide) (fun c5 => ?_) (fun c5 => ?_)
        · refine x_iinc (E_X11_handings_1 34 rfl) rfl rfl ?_
          refine x_goto (E_X11_handings_1 35 rfl) ?_
          have b8 : s.testBit h = false := by
            rcases b9 with h | h
            · have := h.2.1; omega
            · exact h.1
          refine ihI (q - 1) (by omega) (h + 1) _ _ _ (by omega) ?_ hb2 (fun c => ?_) (by omega)
          · rw [vF_off b8]; exact hsu
          · have hb := hb c
            rw [bsR_off (by omega) b8] at hb
            exact hb
        · obtain ⟨b1, b2, b3, -, b4⟩ := b9.resolve_right (fun h => by have := h.2; omega)
          have a9 := hA _ b3
          have g9 := gM_rg (x := (fun h => σ 160 (8 * so + h))) (u := u) (a := s ^^^ 2 ^ h)
          refine x_iload (E_X11_handings_0 58 rfl) rfl ?_
          refine x_aload_n (E_X11_handings_0 59 rfl) rfl ?_
          refine x_getR (E_X11_handings_1 0 rfl) fl_X11_150 rfl (by decide) rfl ?_
          refine x_bipush (z := 8) (E_X11_handings_1 1 rfl) (by decide) ?_
          refine x_iload_n (E_X11_handings_1 2 rfl) rfl ?_
          refine x_imul (E_X11_handings_1 3 rfl) ?_
          refine x_iload (E_X11_handings_1 4 rfl) rfl ?_
          refine x_iadd (E_X11_handings_1 5 rfl) ?_
          refine x_ialde (f := τ 160) (E_X11_handings_1 6 rfl) rfl (by decide) (by omega) rfl ?_
          refine x_iadd (E_X11_handings_1 7 rfl) ?_
          refine x_istore (E_X11_handings_1 8 rfl) rfl ?_
          refine x_aload_n (E_X11_handings_1 9 rfl) rfl ?_
          refine x_getR (E_X11_handings_1 10 rfl) fl_X11_153 rfl (by decide) rfl ?_
          refine x_iload (E_X11_handings_1 11 rfl) rfl ?_
          refine x_iconst (E_X11_handings_1 12 rfl) ?_
          refine x_iload (E_X11_handings_1 13 rfl) rfl ?_
          refine x_ishl (E_X11_handings_1 14 rfl) ?_
          refine x_iconst (E_X11_handings_1 15 rfl) ?_
          refine x_ixor (E_X11_handings_1 16 rfl) ?_
          refine x_iand (E_X11_handings_1 17 rfl) ?_
          rw [b4]
          refine x_ialde (f := τ 161) (E_X11_handings_1 18 rfl) rfl (by decide) (by omega) rfl ?_
          refine x_iload (E_X11_handings_1 19 rfl) rfl ?_
          refine x_icmp_le (E_X11_handings_1 20 rfl) (by omega) (by omega) (fun c6 => ?_) (fun c6 => ?_)
          · refine x_iload (E_X11_handings_1 32 rfl) rfl ?_
            refine x_istore (E_X11_handings_1 33 rfl) rfl ?_
            refine x_iinc (E_X11_handings_1 34 rfl) rfl rfl ?_
            refine x_goto (E_X11_handings_1 35 rfl) ?_
            refine ihI (q - 1) (by omega) (h + 1) _ _ _ (by omega) ?_ (by omega) (fun c => ?_) (by omega)
            · rw [vF_on b1, List.sum_append, ← hsu, e160]
              simp
            · have hb := hb c
              have := bsR_on (x := (fun h => σ 160 (8 * so + h))) (m := 8) (s := s) (h := h) (by omega) b1
              rw [gM_x c b1] at a9
              omega
          · refine x_aload_n (E_X11_handings_1 21 rfl) rfl ?_
            refine x_getR (E_X11_handings_1 22 rfl) fl_X11_153 rfl (by decide) rfl ?_
            refine x_iload (E_X11_handings_1 23 rfl) rfl ?_
            refine x_iconst (E_X11_handings_1 24 rfl) ?_
            refine x_iload (E_X11_handings_1 25 rfl) rfl ?_
            refine x_ishl (E_X11_handings_1 26 rfl) ?_
            refine x_iconst (E_X11_handings_1 27 rfl) ?_
            refine x_ixor (E_X11_handings_1 28 rfl) ?_
            refine x_iand (E_X11_handings_1 29 rfl) ?_
            rw [b4]
            refine x_ialde (f := τ 161) (E_X11_handings_1 30 rfl) rfl (by decide) (by omega) rfl ?_
            refine x_goto (E_X11_handings_1 31 rfl) ?_
            refine x_istore (E_X11_handings_1 33 rfl) rfl ?_
            refine x_iinc (E_X11_handings_1 34 rfl) rfl rfl ?_
            refine x_goto (E_X11_handings_1 35 rfl) ?_
            refine ihI (q - 1) (by omega) (h + 1) _ _ _ (by omega) ?_ (by omega) (fun c => ?_) (by omega)
            · rw [vF_on b1, List.sum_append, ← hsu, e160]
              simp
            · have hb := hb c
              have := bsR_on (x := (fun h => σ 160 (8 * so + h))) (m := 8) (s := s) (h := h) (by omega) b1
              rw [gM_x c b1] at a9
              omega
    refine x_iload (E_X11_handings_0 39 rfl) rfl ?_
    refine x_sipush (z := 256) (E_X11_handings_0 40 rfl) (by decide) ?_
    refine x_icmp_ge (E_X11_handings_0 41 rfl) (by omega) (by decide) (fun c1 => ?_) (fun c1 => ?_)
    · refine x_iconst (E_X11_handings_2 0 rfl) ?_
      refine x_istore (E_X11_handings_2 1 rfl) rfl ?_
      refine loop3 8 0 u _ _ _ _ _ τ (by omega) hu ?_ hF h3 rfl (by omega)
      rw [hA u (by omega)]
      exact if_pos (Nat.and_self u)
    · refine x_iconst (E_X11_handings_0 42 rfl) ?_
      refine x_istore (E_X11_handings_0 43 rfl) rfl ?_
      refine x_iconst (E_X11_handings_0 44 rfl) ?_
      refine x_istore (E_X11_handings_0 45 rfl) rfl ?_
      refine x_iconst (E_X11_handings_0 46 rfl) ?_
      refine x_istore (E_X11_handings_0 47 rfl) rfl ?_
      refine inner (by omega) 8 0 _ _ _ (by omega) rfl (by omega) (fun _ => ?_) (by omega)
      have := bsR_0 (x := (fun h => σ 160 (8 * so + h))) (m := 8) (s := s) (h := 0)
      omega
  have loop1 : ∀ (k h u : Nat) (i : Int), h + k = 8 → u = usF (fun h => σ 160 (8 * so + h)) h → (0 ≤ so ∧ so ≤ 3) → i = h → XI l G M_X11_handings 1 20 [some (vr 114), some (vi so), some (vi (u : Int)), some (vi i), none, none, none, none] [] σ (fun z τ => (¬ (0 ≤ so ∧ so ≤ 3) ∧ z = -1002 ∧ τ = σ) ∨ ((0 ≤ so ∧ so ≤ 3) ∧ z = hndS (fun h => σ 160 (8 * so + h)) ∧ Fr [161] σ τ)) := by
    intro k
    induction k using Nat.strongRecOn with
    | _ k ih =>
    intro h u i hk hu h3 hi
    subst hi
    have ul : u < 2 ^ h := by rw [hu]; exact usF_lt
    have u8 : u < 256 := Nat.lt_of_lt_of_le ul (Nat.pow_le_pow_right (n := 2) (by decide) (show h ≤ 8 by omega))
    refine x_iload_n (E_X11_handings_0 12 rfl) rfl ?_
    refine x_bipush (z := 8) (E_X11_handings_0 13 rfl) (by decide) ?_
    refine x_icmp_ge (E_X11_handings_0 14 rfl) (by omega) (by decide) (fun c1 => ?_) (fun c1 => ?_)
    · refine x_iconst (E_X11_handings_0 35 rfl) ?_
      refine x_istore_n (E_X11_handings_0 36 rfl) rfl ?_
      refine x_iconst (E_X11_handings_0 37 rfl) ?_
      refine x_istore (E_X11_handings_0 38 rfl) rfl ?_
      exact loop2 256 0 u _ _ _ _ σ (by omega) (by rw [hu, show h = 8 by omega]) (fun a h => absurd h (by omega)) Fr.rf h3 (by omega)
    · have x9 := hx h3 h (by omega)
      have o9 := or_all h (by omega) u u8 ul
      refine x_iload_n (E_X11_handings_0 15 rfl) rfl ?_
      refine x_aload_n (E_X11_handings_0 16 rfl) rfl ?_
      refine x_getR (E_X11_handings_0 17 rfl) fl_X11_150 rfl (by decide) rfl ?_
      refine x_bipush (z := 8) (E_X11_handings_0 18 rfl) (by decide) ?_
      refine x_iload_n (E_X11_handings_0 19 rfl) rfl ?_
      refine x_imul (E_X11_handings_0 20 rfl) ?_
      refine x_iload_n (E_X11_handings_0 21 rfl) rfl ?_
      refine x_iadd (E_X11_handings_0 22 rfl) ?_
      refine x_ialde (f := σ 160) (E_X11_handings_0 23 rfl) rfl (by decide) (by omega) rfl ?_
      refine x_if_eq (E_X11_handings_0 24 rfl) (by omega) (fun c2 => ?_) (fun c2 => ?_)
      · refine x_iconst (E_X11_handings_0 27 rfl) ?_
        refine z_callSi (E_X11_handings_0 28 rfl) ml_X11_307 ms_X11_one (c_X11_one (by omega)) (by decide) rfl rfl (Nat.le_of_ble_eq_true rfl) (fun z9 τ9 h9 => ?_)
        obtain ⟨rfl, rfl⟩ := h9
        refine x_iload_n (E_X11_handings_0 29 rfl) rfl ?_
        refine x_ishl (E_X11_handings_0 30 rfl) ?_
        refine x_ior (E_X11_handings_0 31 rfl) ?_
        refine x_istore_n (E_X11_handings_0 32 rfl) rfl ?_
        refine x_iinc (E_X11_handings_0 33 rfl) rfl rfl ?_
        refine x_goto (E_X11_handings_0 34 rfl) ?_
        rw [o9.2]
        refine ih (k - 1) (by omega) (h + 1) u _ (by omega) ?_ h3 (by omega)
        rw [hu]
        exact (if_pos (by omega)).symm
      · refine x_iconst (E_X11_handings_0 25 rfl) ?_
        refine x_goto (E_X11_handings_0 26 rfl) ?_
        refine z_callSi (E_X11_handings_0 28 rfl) ml_X11_307 ms_X11_one (c_X11_one (by omega)) (by decide) rfl rfl (Nat.le_of_ble_eq_true rfl) (fun z9 τ9 h9 => ?_)
        obtain ⟨rfl, rfl⟩ := h9
        refine x_iload_n (E_X11_handings_0 29 rfl) rfl ?_
        refine x_ishl (E_X11_handings_0 30 rfl) ?_
        refine x_ior (E_X11_handings_0 31 rfl) ?_
        refine x_istore_n (E_X11_handings_0 32 rfl) rfl ?_
        refine x_iinc (E_X11_handings_0 33 rfl) rfl rfl ?_
        refine x_goto (E_X11_handings_0 34 rfl) ?_
        rw [o9.1]
        refine ih (k - 1) (by omega) (h + 1) (u + 2 ^ h) _ (by omega) ?_ h3 (by omega)
        rw [hu]
        exact (if_neg (by omega)).symm
  refine x_iload_n (E_X11_handings_0 0 rfl) rfl ?_
  refine x_i2l (E_X11_handings_0 1 rfl) (by omega) ?_
  refine x_lconst (z := 0) (E_X11_handings_0 2 rfl) rfl ?_
  refine x_ldc2 (z := 3) (E_X11_handings_0 3 rfl) kc_X11_220 (by decide) ?_
  refine z_callSi (E_X11_handings_0 4 rfl) ml_X11_197 ms_X11_in (c_X11_in (by omega) (by omega) (by omega)) (by decide) rfl rfl (Nat.le_of_ble_eq_true rfl) (fun z9 τ9 h9 => ?_)
  obtain ⟨rfl, ⟨rfl, c1⟩ | ⟨rfl, c1⟩⟩ := h9
  · refine x_if_ne (E_X11_handings_0 5 rfl) (by decide) (fun _ => ?_) (fun c9 => absurd c9 (by decide))
    refine x_iconst (E_X11_handings_0 8 rfl) ?_
    refine x_istore_n (E_X11_handings_0 9 rfl) rfl ?_
    refine x_iconst (E_X11_handings_0 10 rfl) ?_
    refine x_istore_n (E_X11_handings_0 11 rfl) rfl ?_
    exact loop1 8 0 0 _ (by omega) rfl (by omega) (by omega)
  · refine x_if_ne (E_X11_handings_0 5 rfl) (by decide) (fun c9 => absurd c9 (by decide)) (fun _ => ?_)
    refine x_sipush (z := (-1002)) (E_X11_handings_0 6 rfl) (by decide) ?_
    refine z_iret (E_X11_handings_0 7 rfl) trivial ?_
    exact Or.inl ⟨by omega, rfl, rfl⟩

theorem hnd_rg {x : Int → Int} : 0 ≤ hndS x ∧ hndS x ≤ 8 := by
  have a := gF_rg (n := (nzF x 8).length) (L := nzF x 8)
  have b := nzF_len (x := x) (n := 8)
  unfold hndS
  omega
set_option maxRecDepth 100000 in
theorem pair_handings {so : Int} (hR : RR σ) (hso : rgi so) : Pair l G M_X10_handings 3 M_X11_handings 1 [vi so] σ := by
  have hR0 := hR
  obtain ⟨-, -, -, -, -, -, -, -, ⟨e1, h1, ok, hm⟩, -⟩ := hR
  refine ⟨_, c_X10_handings hso h1 ok, fun z τ q => ?_⟩
  have hrg : ∀ h, -2400 ≤ netS (σ 89) (σ 90) (σ 91) (σ 92) h so (σ 88 7).toNat ∧ netS (σ 89) (σ 90) (σ 91) (σ 92) h so (σ 88 7).toNat ≤ 2400 := fun h => by
    have := netS_rg (sl := σ 89) (by9 := σ 90) (so9 := σ 91) (ck := σ 92) (h := h) (so := so) (n := (σ 88 7).toNat) (fun i a b => (ok i a (by omega)).2.2.2)
    omega
  have mod : ∀ τ, τ 160 = σ 160 → CI l G M_X11_handings 1 [vr 114, vi so] τ (fun z υ => (¬ (0 ≤ so ∧ so ≤ 3) ∧ z = -1002 ∧ υ = τ) ∨ ((0 ≤ so ∧ so ≤ 3) ∧ z = hndS (fun h => netS (σ 89) (σ 90) (σ 91) (σ 92) h so (σ 88 7).toNat) ∧ Fr [161] τ υ)) := by
    intro τ e
    refine CI_mono (c_X11_handings hso (fun h3 j hj => ?_)) (fun z υ c => ?_)
    · rw [e, hm j so (by omega) (by omega) (by omega) (by omega)]; exact hrg j
    · rcases c with c | ⟨c1, c2, c3⟩
      · exact Or.inl c
      · refine Or.inr ⟨c1, ?_, c3⟩
        rw [c2]
        unfold hndS
        rw [nzF_cong (y := fun h => netS (σ 89) (σ 90) (σ 91) (σ 92) h so (σ 88 7).toNat) (fun j hj => by rw [e, hm j so (by omega) (by omega) (by omega) (by omega)])]
  rcases q with ⟨a, rfl, rfl⟩ | ⟨a, rfl, hF⟩
  · refine ⟨by omega, CI_mono (mod τ rfl) (fun z υ c => ?_)⟩
    rcases c with ⟨_, rfl, rfl⟩ | ⟨c, -⟩
    · exact ⟨rfl, hR0⟩
    · exact absurd c a
  · refine ⟨by have := hnd_rg (x := fun h => netS (σ 89) (σ 90) (σ 91) (σ 92) h so (σ 88 7).toNat); omega, CI_mono (mod τ (hF 160 (by decide))) (fun z υ c => ?_)⟩
    rcases c with ⟨c, -⟩ | ⟨_, rfl, hF2⟩
    · exact absurd a c
    · refine ⟨rfl, ?_⟩
      have hF3 : Fr [93, 94, 95, 161] σ υ := Fr.trans hF hF2 (by decide) (by decide)
      have hS : Sd σ υ := ⟨⟨List.forall_mem_cons.mpr ⟨hF3 2 (by decide), List.forall_mem_cons.mpr ⟨hF3 3 (by decide), List.forall_mem_cons.mpr ⟨hF3 4 (by decide), List.forall_mem_cons.mpr ⟨hF3 5 (by decide), List.forall_mem_cons.mpr ⟨hF3 6 (by decide), List.forall_mem_cons.mpr ⟨hF3 115 (by decide), List.forall_mem_cons.mpr ⟨hF3 116 (by decide), List.forall_mem_cons.mpr ⟨hF3 117 (by decide), List.forall_mem_cons.mpr ⟨hF3 119 (by decide), List.forall_mem_cons.mpr ⟨hF3 120 (by decide), List.forall_mem_cons.mpr ⟨hF3 105 (by decide), List.forall_mem_cons.mpr ⟨hF3 121 (by decide), List.forall_mem_cons.mpr ⟨hF3 8 (by decide), List.forall_mem_cons.mpr ⟨hF3 9 (by decide), List.forall_mem_cons.mpr ⟨hF3 10 (by decide), List.forall_mem_cons.mpr ⟨hF3 11 (by decide), List.forall_mem_cons.mpr ⟨hF3 12 (by decide), List.forall_mem_cons.mpr ⟨hF3 13 (by decide), List.forall_mem_cons.mpr ⟨hF3 14 (by decide), List.forall_mem_cons.mpr ⟨hF3 122 (by decide), List.forall_mem_cons.mpr ⟨hF3 123 (by decide), List.forall_mem_cons.mpr ⟨hF3 124 (by decide), List.forall_mem_cons.mpr ⟨hF3 125 (by decide), List.forall_mem_cons.mpr ⟨hF3 126 (by decide), List.forall_mem_cons.mpr ⟨hF3 127 (by decide), List.forall_mem_cons.mpr ⟨hF3 128 (by decide), List.forall_mem_cons.mpr ⟨hF3 15 (by decide), List.forall_mem_cons.mpr ⟨hF3 18 (by decide), List.forall_mem_cons.mpr ⟨hF3 19 (by decide), List.forall_mem_cons.mpr ⟨hF3 133 (by decide), List.forall_mem_cons.mpr ⟨hF3 134 (by decide), List.forall_mem_cons.mpr ⟨hF3 21 (by decide), List.forall_mem_cons.mpr ⟨hF3 22 (by decide), List.forall_mem_cons.mpr ⟨hF3 23 (by decide), List.forall_mem_cons.mpr ⟨hF3 24 (by decide), List.forall_mem_cons.mpr ⟨hF3 25 (by decide), List.forall_mem_cons.mpr ⟨hF3 26 (by decide), List.forall_mem_cons.mpr ⟨hF3 27 (by decide), List.forall_mem_cons.mpr ⟨hF3 28 (by decide), List.forall_mem_cons.mpr ⟨hF3 30 (by decide), List.forall_mem_cons.mpr ⟨hF3 31 (by decide), List.forall_mem_cons.mpr ⟨hF3 32 (by decide), List.forall_mem_cons.mpr ⟨hF3 33 (by decide), List.forall_mem_cons.mpr ⟨hF3 34 (by decide), List.forall_mem_cons.mpr ⟨hF3 35 (by decide), List.forall_mem_cons.mpr ⟨hF3 36 (by decide), List.forall_mem_cons.mpr ⟨hF3 37 (by decide), List.forall_mem_cons.mpr ⟨hF3 135 (by decide), List.forall_mem_cons.mpr ⟨hF3 136 (by decide), List.forall_mem_cons.mpr ⟨hF3 137 (by decide), List.forall_mem_cons.mpr ⟨hF3 38 (by decide), List.forall_mem_cons.mpr ⟨hF3 42 (by decide), List.forall_mem_cons.mpr ⟨hF3 138 (by decide), List.forall_mem_cons.mpr ⟨hF3 75 (by decide), List.forall_mem_cons.mpr ⟨hF3 76 (by decide), List.forall_mem_cons.mpr ⟨hF3 77 (by decide), List.forall_mem_cons.mpr ⟨hF3 78 (by decide), List.forall_mem_cons.mpr ⟨hF3 155 (by decide), List.forall_mem_cons.mpr ⟨hF3 156 (by decide), List.forall_mem_cons.mpr ⟨hF3 157 (by decide), List.forall_mem_cons.mpr ⟨hF3 158 (by decide), List.forall_mem_cons.mpr ⟨hF3 80 (by decide), List.forall_mem_cons.mpr ⟨hF3 81 (by decide), List.forall_mem_cons.mpr ⟨hF3 82 (by decide), List.forall_mem_cons.mpr ⟨hF3 83 (by decide), List.forall_mem_cons.mpr ⟨hF3 84 (by decide), List.forall_mem_cons.mpr ⟨hF3 85 (by decide), List.forall_mem_cons.mpr ⟨hF3 86 (by decide), List.forall_mem_cons.mpr ⟨hF3 87 (by decide), List.forall_mem_cons.mpr ⟨hF3 159 (by decide), List.forall_mem_cons.mpr ⟨hF3 89 (by decide), List.forall_mem_cons.mpr ⟨hF3 90 (by decide), List.forall_mem_cons.mpr ⟨hF3 91 (by decide), List.forall_mem_cons.mpr ⟨hF3 92 (by decide), List.forall_mem_cons.mpr ⟨hF3 160 (by decide), List.forall_mem_cons.mpr ⟨hF3 97 (by decide), List.forall_mem_cons.mpr ⟨hF3 98 (by decide), List.forall_mem_cons.mpr ⟨hF3 99 (by decide), List.forall_mem_cons.mpr ⟨hF3 162 (by decide), List.forall_mem_cons.mpr ⟨hF3 163 (by decide), List.forall_mem_cons.mpr ⟨hF3 164 (by decide), List.forall_mem_cons.mpr ⟨hF3 101 (by decide), List.forall_mem_cons.mpr ⟨hF3 167 (by decide), List.forall_mem_cons.mpr ⟨hF3 106 (by decide), List.forall_mem_cons.mpr ⟨hF3 168 (by decide), fun _ h => nomatch h⟩⟩⟩⟩⟩⟩⟩⟩⟩⟩⟩⟩⟩⟩⟩⟩⟩⟩⟩⟩⟩⟩⟩⟩⟩⟩⟩⟩⟩⟩⟩⟩⟩⟩⟩⟩⟩⟩⟩⟩⟩⟩⟩⟩⟩⟩⟩⟩⟩⟩⟩⟩⟩⟩⟩⟩⟩⟩⟩⟩⟩⟩⟩⟩⟩⟩⟩⟩⟩⟩⟩⟩⟩⟩⟩⟩⟩⟩⟩⟩⟩⟩⟩⟩⟩, List.forall_mem_cons.mpr ⟨congrFun (hF3 0 (by decide)) 0, List.forall_mem_cons.mpr ⟨congrFun (hF3 114 (by decide)) 0, List.forall_mem_cons.mpr ⟨congrFun (hF3 1 (by decide)) 5, List.forall_mem_cons.mpr ⟨congrFun (hF3 114 (by decide)) 1, List.forall_mem_cons.mpr ⟨congrFun (hF3 7 (by decide)) 9, List.forall_mem_cons.mpr ⟨congrFun (hF3 114 (by decide)) 9, List.forall_mem_cons.mpr ⟨congrFun (hF3 17 (by decide)) 8, List.forall_mem_cons.mpr ⟨congrFun (hF3 114 (by decide)) 22, List.forall_mem_cons.mpr ⟨congrFun (hF3 41 (by decide)) 1, List.forall_mem_cons.mpr ⟨congrFun (hF3 114 (by decide)) 29, List.forall_mem_cons.mpr ⟨congrFun (hF3 41 (by decide)) 6, List.forall_mem_cons.mpr ⟨congrFun (hF3 114 (by decide)) 32, List.forall_mem_cons.mpr ⟨congrFun (hF3 74 (by decide)) 4, List.forall_mem_cons.mpr ⟨congrFun (hF3 114 (by decide)) 54, List.forall_mem_cons.mpr ⟨congrFun (hF3 88 (by decide)) 7, List.forall_mem_cons.mpr ⟨congrFun (hF3 114 (by decide)) 60, List.forall_mem_cons.mpr ⟨congrFun (hF3 96 (by decide)) 4, List.forall_mem_cons.mpr ⟨congrFun (hF3 114 (by decide)) 63, fun _ h => nomatch h⟩⟩⟩⟩⟩⟩⟩⟩⟩⟩⟩⟩⟩⟩⟩⟩⟩⟩⟩, congrFun (hF3 17 (by decide)) 7, hF3 40 (by decide)⟩
      exact hS.rr hR0

