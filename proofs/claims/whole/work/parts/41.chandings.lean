/-! handings of the class -/
variable {l : Launch} {G : GC} {σ : Nat → Int → Int}

theorem vF_sum {x : Int → Int} {s : Nat} {B : Int} (hB : 0 ≤ B) : ∀ {n h : Nat}, (∀ j : Nat, h ≤ j → j < h + n → -B ≤ x j ∧ x j ≤ B) → -(n * B) ≤ (vF x s n h).sum ∧ (vF x s n h).sum ≤ n * B
  | 0, _, _ => by simp [vF]
  | n + 1, h, q => by
    have a := vF_sum hB (x := x) (s := s) (n := n) (h := h + 1) (fun j a b => q j (by omega) (by omega))
    have b := q h (by omega) (by omega)
    have c : ((n + 1 : Nat) : Int) * B = n * B + B := by rw [Int.natCast_add, Int.add_mul]; omega
    show -(((n + 1 : Nat) : Int) * B) ≤ (if s.testBit h = true then x h :: vF x s n (h + 1) else vF x s n (h + 1)).sum ∧ (if s.testBit h = true then x h :: vF x s n (h + 1) else vF x s n (h + 1)).sum ≤ ((n + 1 : Nat) : Int) * B
    rw [c]
    split
    · rw [List.sum_cons]; omega
    · omega
set_option maxHeartbeats 2000000 in
theorem c_X6_mostGroups {m : Nat} (hm : m ≤ 8) (hx : ∀ j : Nat, j < m → -2400 ≤ σ 93 j ∧ σ 93 j ≤ 2400) : CI l G M_X6_mostGroups 1 [vr 88, vi (m : Int)] σ (fun z τ => z = gV (σ 93) m (2 ^ m - 1) ∧ Fr [94, 95] σ τ) := by
  obtain ⟨S, hS⟩ : ∃ S, S = 2 ^ m := ⟨_, rfl⟩
  have hS8 : S ≤ 256 := by rw [hS]; exact Nat.pow_le_pow_right (by decide) hm
  have hS1 : 1 ≤ S := by rw [hS]; exact Nat.one_le_two_pow
  have hsh : bShl 1 (m : Int) = (S : Int) := by
    have := bShl_n (a := 1) (k := m) (by omega) (by omega)
    rw [hS]
    rw [Nat.one_mul] at this
    exact this
  rw [← hS]
  refine Ct.of rfl (Nat.le_of_ble_eq_true rfl) ?_
  have loop : ∀ (k s : Nat) (o4 o5 o6 : Option AV) (τ : Nat → Int → Int), s + k = S → 1 ≤ s → (∀ a : Nat, a < s → τ 94 a = (vF (σ 93) a m 0).sum ∧ τ 95 a = gV (σ 93) m a) → Fr [94, 95] σ τ → ∀ i : Int, i = s → XI l G M_X6_mostGroups 1 20 [some (vr 88), some (vi (m : Int)), some (vi (S : Int)), some (vi i), o4, o5, o6] [] τ (fun z τ => z = gV (σ 93) m (S - 1) ∧ Fr [94, 95] σ τ) := by
    intro k
    induction k using Nat.strongRecOn with
    | _ k ih =>
    intro s o4 o5 o6 τ hk hs1 hA hF i hi
    subst hi
    have e93 : τ 93 = σ 93 := hF 93 (by decide)
    have inner : s < S → ∀ (q h : Nat) (b su : Int) (j : Int), h + q = m → max b (bsR (σ 93) m s h) = bsR (σ 93) m s 0 → (0 ≤ b ∧ b ≤ 8) → su = (if vF (σ 93) s h 0 = [] then 0 else (vF (σ 93) s m 0).sum) → j = h → XI l G M_X6_mostGroups 1 34 [some (vr 88), some (vi (m : Int)), some (vi (S : Int)), some (vi (s : Int)), some (vi b), some (vi su), some (vi j)] [] τ (fun z τ => z = gV (σ 93) m (S - 1) ∧ Fr [94, 95] σ τ) := by
      intro hsS q
      induction q using Nat.strongRecOn with
      | _ q ihI =>
      intro h b su j hq hb hb2 hsu hj
      subst hj
      refine x_iload (E_X6_mostGroups_0 25 rfl) rfl ?_
      refine x_iload_n (E_X6_mostGroups_0 26 rfl) rfl ?_
      refine x_icmp_ge (E_X6_mostGroups_0 27 rfl) (by omega) (by omega) (fun c1 => ?_) (fun c1 => ?_)
      · have hh : h = m := by omega
        have ne : vF (σ 93) s m 0 ≠ [] := by
          obtain ⟨h8, w1, w2⟩ := tb_ex (s := s) (m := m) (by omega) (by rw [← hS]; exact hsS)
          exact vF_some w1 w2
        have gv := gV_bs ne
        rw [hh, if_neg ne] at hsu
        rw [hh, bsR_end] at hb
        have rg := vF_sum (x := σ 93) (s := s) (B := 2400) (by decide) (n := m) (h := 0) (fun j _ w => hx j (by omega))
        refine x_aload_n (E_X6_mostGroups_1 2 rfl) rfl ?_
        refine x_getR (E_X6_mostGroups_1 3 rfl) fl_X6_27 rfl (by decide) rfl ?_
        refine x_iload_n (E_X6_mostGroups_1 4 rfl) rfl ?_
        refine x_iload (E_X6_mostGroups_1 5 rfl) rfl ?_
        refine x_iast (E_X6_mostGroups_1 6 rfl) rfl (by decide) (by omega) ?_
        refine x_aload_n (E_X6_mostGroups_1 7 rfl) rfl ?_
        refine x_getR (E_X6_mostGroups_1 8 rfl) fl_X6_30 rfl (by decide) rfl ?_
        refine x_iload_n (E_X6_mostGroups_1 9 rfl) rfl ?_
        refine x_iload (E_X6_mostGroups_1 10 rfl) rfl ?_
        refine x_iload (E_X6_mostGroups_1 11 rfl) rfl ?_
        refine x_if_ne (E_X6_mostGroups_1 12 rfl) (by omega) (fun c2 => ?_) (fun c2 => ?_)
        · refine x_iconst (E_X6_mostGroups_1 15 rfl) ?_
          refine x_iadd (E_X6_mostGroups_1 16 rfl) ?_
          refine x_iast (E_X6_mostGroups_1 17 rfl) rfl (by decide) (by omega) ?_
          refine x_iinc (E_X6_mostGroups_1 18 rfl) rfl rfl ?_
          refine x_goto (E_X6_mostGroups_1 19 rfl) ?_
          refine ih (k - 1) (by omega) (s + 1) _ _ _ _ (by omega) (by omega) (fun a ha => ?_) ((hF.up (by decide)).up (by decide)) _ (by omega)
          refine (show ((if (a : Int) = s then su else τ 94 a) = _ ∧ (if (a : Int) = s then _ else τ 95 a) = _) from ?_)
          by_cases e : a = s
          · subst e
            rw [if_pos rfl, if_pos rfl, gv]
            refine ⟨hsu, ?_⟩
            rw [← hsu]
            first | (rw [if_neg (by omega)]; omega) | (rw [if_pos (by omega)]; omega)
          · rw [if_neg (by omega), if_neg (by omega)]; exact hA a (by omega)
        · refine x_iconst (E_X6_mostGroups_1 13 rfl) ?_
          refine x_goto (E_X6_mostGroups_1 14 rfl) ?_
          refine x_iadd (E_X6_mostGroups_1 16 rfl) ?_
          refine x_iast (E_X6_mostGroups_1 17 rfl) rfl (by decide) (by omega) ?_
          refine x_iinc (E_X6_mostGroups_1 18 rfl) rfl rfl ?_
          refine x_goto (E_X6_mostGroups_1 19 rfl) ?_
          refine ih (k - 1) (by omega) (s + 1) _ _ _ _ (by omega) (by omega) (fun a ha => ?_) ((hF.up (by decide)).up (by decide)) _ (by omega)
          refine (show ((if (a : Int) = s then su else τ 94 a) = _ ∧ (if (a : Int) = s then _ else τ 95 a) = _) from ?_)
          by_cases e : a = s
          · subst e
            rw [if_pos rfl, if_pos rfl, gv]
            refine ⟨hsu, ?_⟩
            rw [← hsu]
            first | (rw [if_neg (by omega)]; omega) | (rw [if_pos (by omega)]; omega)
          · rw [if_neg (by omega), if_neg (by omega)]; exact hA a (by omega)
      · have b9 := bt_all s (by omega) h (by omega)
        refine x_iload_n (E_X6_mostGroups_0 28 rfl) rfl ?_
        refine x_iload (E_X6_mostGroups_0 29 rfl) rfl ?_
        refine x_ishr (E_X6_mostGroups_0 30 rfl) ?_
        refine x_iconst (E_X6_mostGroups_0 31 rfl) ?_
        refine x_iand (E_X6_mostGroups_0 32 rfl) ?_
        refine x_iconst (E_X6_mostGroups_0 33 rfl) ?_
        refine x_icmp_ne (E_X6_mostGroups_0 34 rfl) (by omega) (by decide) (fun c3 => ?_) (fun c3 => ?_)
        · refine x_iinc (E_X6_mostGroups_1 0 rfl) rfl rfl ?_
          refine x_goto (E_X6_mostGroups_1 1 rfl) ?_
          have b8 : s.testBit h = false := by
            rcases b9 with h | h
            · have := h.2.1; omega
            · exact h.1
          refine ihI (q - 1) (by omega) (h + 1) _ _ _ (by omega) ?_ hb2 ?_ (by omega)
          · rw [bsR_off (by omega) b8] at hb; exact hb
          · rw [vF_off b8]; exact hsu
        · obtain ⟨b1, b2, b3, b4, -⟩ := b9.resolve_right (fun h => by have := h.2; omega)
          have a9 := hA _ b3
          have g9 := gV_rg (x := σ 93) (m := m) (s := s ^^^ 2 ^ h)
          refine x_aload_n (E_X6_mostGroups_0 35 rfl) rfl ?_
          refine x_getR (E_X6_mostGroups_0 36 rfl) fl_X6_27 rfl (by decide) rfl ?_
          refine x_iload_n (E_X6_mostGroups_0 37 rfl) rfl ?_
          refine x_iconst (E_X6_mostGroups_0 38 rfl) ?_
          refine x_iload (E_X6_mostGroups_0 39 rfl) rfl ?_
          refine x_ishl (E_X6_mostGroups_0 40 rfl) ?_
          refine x_ixor (E_X6_mostGroups_0 41 rfl) ?_
          rw [b4]
          refine x_ialde (f := τ 94) (E_X6_mostGroups_0 42 rfl) rfl (by decide) (by omega) rfl ?_
          refine x_aload_n (E_X6_mostGroups_0 43 rfl) rfl ?_
          refine x_getR (E_X6_mostGroups_0 44 rfl) fl_X6_24 rfl (by decide) rfl ?_
          refine x_iload (E_X6_mostGroups_0 45 rfl) rfl ?_
          refine x_ialde (f := τ 93) (E_X6_mostGroups_0 46 rfl) rfl (by decide) (by omega) rfl ?_
          refine x_iadd (E_X6_mostGroups_0 47 rfl) ?_
          refine x_istore (E_X6_mostGroups_0 48 rfl) rfl ?_
          refine x_iload (E_X6_mostGroups_0 49 rfl) rfl ?_
          refine x_aload_n (E_X6_mostGroups_0 50 rfl) rfl ?_
          refine x_getR (E_X6_mostGroups_0 51 rfl) fl_X6_30 rfl (by decide) rfl ?_
          refine x_iload_n (E_X6_mostGroups_0 52 rfl) rfl ?_
          refine x_iconst (E_X6_mostGroups_0 53 rfl) ?_
          refine x_iload (E_X6_mostGroups_0 54 rfl) rfl ?_
          refine x_ishl (E_X6_mostGroups_0 55 rfl) ?_
          refine x_ixor (E_X6_mostGroups_0 56 rfl) ?_
          rw [b4]
          refine x_ialde (f := τ 95) (E_X6_mostGroups_0 57 rfl) rfl (by decide) (by omega) rfl ?_
          refine x_mmax (E_X6_mostGroups_0 58 rfl) ml_X6_45 (by omega) (by omega) (by decide) ?_
          refine x_istore (E_X6_mostGroups_0 59 rfl) rfl ?_
          refine x_iinc (E_X6_mostGroups_1 0 rfl) rfl rfl ?_
          refine x_goto (E_X6_mostGroups_1 1 rfl) ?_
          refine ihI (q - 1) (by omega) (h + 1) _ _ _ (by omega) ?_ (by omega) ?_ (by omega)
          · have := bsR_on (x := σ 93) (m := m) (s := s) (h := h) (by omega) b1
            omega
          · rw [if_neg (by rw [vF_on b1]; simp), a9.1, e93, vF_drop (by omega) b1, vF_all (m := m) (h := h) (by omega) b1, List.sum_append, List.sum_append, List.sum_cons]
            omega
    refine x_iload_n (E_X6_mostGroups_0 16 rfl) rfl ?_
    refine x_iload_n (E_X6_mostGroups_0 17 rfl) rfl ?_
    refine x_icmp_ge (E_X6_mostGroups_0 18 rfl) (by omega) (by omega) (fun c1 => ?_) (fun c1 => ?_)
    · refine x_aload_n (E_X6_mostGroups_1 20 rfl) rfl ?_
      refine x_getR (E_X6_mostGroups_1 21 rfl) fl_X6_30 rfl (by decide) rfl ?_
      refine x_iload_n (E_X6_mostGroups_1 22 rfl) rfl ?_
      refine x_iconst (E_X6_mostGroups_1 23 rfl) ?_
      refine x_isub (E_X6_mostGroups_1 24 rfl) ?_
      refine x_ialde (f := τ 95) (E_X6_mostGroups_1 25 rfl) rfl (by decide) (by omega) rfl ?_
      refine z_iret (E_X6_mostGroups_1 26 rfl) trivial ?_
      have a9 := hA (S - 1) (by omega)
      rw [show ((S - 1 : Nat) : Int) = (S : Int) - 1 by omega] at a9
      exact ⟨a9.2, hF⟩
    · refine x_iconst (E_X6_mostGroups_0 19 rfl) ?_
      refine x_istore (E_X6_mostGroups_0 20 rfl) rfl ?_
      refine x_iconst (E_X6_mostGroups_0 21 rfl) ?_
      refine x_istore (E_X6_mostGroups_0 22 rfl) rfl ?_
      refine x_iconst (E_X6_mostGroups_0 23 rfl) ?_
      refine x_istore (E_X6_mostGroups_0 24 rfl) rfl ?_
      refine inner (by omega) m 0 _ _ _ (by omega) ?_ (by omega) ?_ (by omega)
      · have := bsR_0 (x := σ 93) (m := m) (s := s) (h := 0)
        omega
      · exact (if_pos rfl).symm
  refine x_iconst (E_X6_mostGroups_0 0 rfl) ?_
  refine x_iload_n (E_X6_mostGroups_0 1 rfl) rfl ?_
  refine x_ishl (E_X6_mostGroups_0 2 rfl) ?_
  rw [hsh]
  refine x_istore_n (E_X6_mostGroups_0 3 rfl) rfl ?_
  refine x_aload_n (E_X6_mostGroups_0 4 rfl) rfl ?_
  refine x_getR (E_X6_mostGroups_0 5 rfl) fl_X6_27 rfl (by decide) rfl ?_
  refine x_iconst (E_X6_mostGroups_0 6 rfl) ?_
  refine x_iconst (E_X6_mostGroups_0 7 rfl) ?_
  refine x_iast (E_X6_mostGroups_0 8 rfl) rfl (by decide) (by omega) ?_
  refine x_aload_n (E_X6_mostGroups_0 9 rfl) rfl ?_
  refine x_getR (E_X6_mostGroups_0 10 rfl) fl_X6_30 rfl (by decide) rfl ?_
  refine x_iconst (E_X6_mostGroups_0 11 rfl) ?_
  refine x_iconst (E_X6_mostGroups_0 12 rfl) ?_
  refine x_iast (E_X6_mostGroups_0 13 rfl) rfl (by decide) (by omega) ?_
  refine x_iconst (E_X6_mostGroups_0 14 rfl) ?_
  refine x_istore_n (E_X6_mostGroups_0 15 rfl) rfl ?_
  refine loop (S - 1) 1 none none none _ (by omega) (by omega) (fun a ha => ?_) ((Fr.rf.up (by decide)).up (by decide)) _ (by omega)
  obtain rfl : a = 0 := by omega
  have e0 : vF (σ 93) 0 m 0 = [] := vF_nil (fun j _ _ => Nat.zero_testBit j)
  rw [gV_0 e0, e0]
  exact ⟨rfl, rfl⟩

/-- those that are not 0 -/
def nzF (x : Int → Int) : Nat → List Int
  | 0 => []
  | n + 1 => if x n = 0 then nzF x n else nzF x n ++ [x n]
theorem nzF_len {x : Int → Int} : ∀ {n : Nat}, (nzF x n).length ≤ n
  | 0 => Nat.le_refl _
  | n + 1 => by
    have := nzF_len (x := x) (n := n)
    show (if x n = 0 then nzF x n else nzF x n ++ [x n]).length ≤ _
    split
    · omega
    · rw [List.length_append]; simp; omega
theorem nzF_mem {x : Int → Int} {z : Int} : ∀ {n : Nat}, z ∈ nzF x n → ∃ j : Nat, j < n ∧ z = x j
  | 0, h => by cases h
  | n + 1, h => by
    have h : z ∈ (if x n = 0 then nzF x n else nzF x n ++ [x n]) := h
    split at h
    · obtain ⟨j, a, b⟩ := nzF_mem h; exact ⟨j, by omega, b⟩
    · rcases List.mem_append.mp h with h | h
      · obtain ⟨j, a, b⟩ := nzF_mem h; exact ⟨j, by omega, b⟩
      · exact ⟨n, by omega, List.mem_singleton.mp h⟩
theorem nzF_cong {x y : Int → Int} : ∀ {n : Nat}, (∀ j : Nat, j < n → x j = y j) → nzF x n = nzF y n
  | 0, _ => rfl
  | n + 1, h => by
    show (if x n = 0 then nzF x n else nzF x n ++ [x n]) = (if y n = 0 then nzF y n else nzF y n ++ [y n])
    rw [nzF_cong (n := n) (fun j a => h j (by omega)), h n (by omega)]
/-- all bits: all values -/
theorem vF_list {f : Int → Int} {s : Nat} : ∀ {L : List Int} {h : Nat}, (∀ k : Nat, k < L.length → s.testBit (h + k) = true ∧ L[k]? = some (f ((h + k : Nat) : Int))) → vF f s L.length h = L
  | [], _, _ => rfl
  | x :: r, h, q => by
    have q0 := q 0 (by simp)
    rw [Nat.add_zero] at q0
    show (if s.testBit h = true then f h :: vF f s r.length (h + 1) else _) = _
    rw [if_pos q0.1, vF_list (L := r) (h := h + 1) (fun k hk => ?_)]
    · have := q0.2
      simp at this
      rw [this]
    · have := q (k + 1) (by simp; omega)
      rw [show h + 1 + k = h + (k + 1) by omega]
      refine ⟨this.1, ?_⟩
      have t := this.2
      rw [List.getElem?_cons_succ] at t
      exact t
theorem gV_rep {f : Int → Int} {L : List Int} (hL : RepL f L) : gV f L.length (2 ^ L.length - 1) = gF L.length L := by
  have e : vF f (2 ^ L.length - 1) L.length 0 = L := vF_list (fun k hk => by
    rw [Nat.zero_add]
    refine ⟨by rw [Nat.testBit_two_pow_sub_one]; exact decide_eq_true hk, ?_⟩
    have := hL k _ (List.getElem?_eq_getElem hk)
    rw [this]
    exact List.getElem?_eq_getElem hk)
  unfold gV
  rw [e]
/-- handings by a list of nets -/
def hndS (x : Int → Int) : Int := (nzF x 8).length - gF (nzF x 8).length (nzF x 8)
set_option maxHeartbeats 1000000 in
theorem c_X6_fewestHandings {so : Int} (hso : rgi so) (hn : 0 ≤ σ 88 7 ∧ σ 88 7 ≤ 24) (ok : ∀ i, 0 ≤ i → i < σ 88 7 → (0 ≤ σ 89 i ∧ σ 89 i ≤ 7) ∧ (0 ≤ σ 90 i ∧ σ 90 i ≤ 7) ∧ (0 ≤ σ 91 i ∧ σ 91 i ≤ 3) ∧ (1 ≤ σ 92 i ∧ σ 92 i ≤ 99)) : CI l G M_X6_fewestHandings 2 [vr 88, vi so] σ (fun z τ => z = hndS (fun h => netS (σ 89) (σ 90) (σ 91) (σ 92) h so (σ 88 7).toNat) ∧ Fr [93, 94, 95] σ τ) := by
  have hx : ∀ h, -2400 ≤ netS (σ 89) (σ 90) (σ 91) (σ 92) h so (σ 88 7).toNat ∧ netS (σ 89) (σ 90) (σ 91) (σ 92) h so (σ 88 7).toNat ≤ 2400 := fun h => by
    have := netS_rg (sl := σ 89) (by9 := σ 90) (so9 := σ 91) (ck := σ 92) (h := h) (so := so) (n := (σ 88 7).toNat) (fun i a b => (ok i a (by omega)).2.2.2)
    omega
  refine Ct.of rfl (Nat.le_of_ble_eq_true rfl) ?_
  have loop : ∀ (k h : Nat) (L : List Int) (o : Option AV) (τ : Nat → Int → Int) (i j : Int), h + k = 8 → L = nzF (fun h => netS (σ 89) (σ 90) (σ 91) (σ 92) h so (σ 88 7).toNat) h → RepL (τ 93) L → Fr [93] σ τ → i = h → j = L.length → XI l G M_X6_fewestHandings 2 4 [some (vr 88), some (vi so), some (vi j), some (vi i), o] [] τ (fun z τ => z = hndS (fun h => netS (σ 89) (σ 90) (σ 91) (σ 92) h so (σ 88 7).toNat) ∧ Fr [93, 94, 95] σ τ) := by
    intro k
    induction k using Nat.strongRecOn with
    | _ k ih =>
    intro h L o τ i j hk hL hR hF hi hj
    have hlen : L.length ≤ h := by rw [hL]; exact nzF_len
    have e88 := congrFun (hF 88 (by decide)) 7
    have e89 : τ 89 = σ 89 := hF 89 (by decide)
    have e90 : τ 90 = σ 90 := hF 90 (by decide)
    have e91 : τ 91 = σ 91 := hF 91 (by decide)
    have e92 : τ 92 = σ 92 := hF 92 (by decide)
    have cn := c_X6_netOf (l := l) (G := G) (σ := τ) (h := i) (so := so) (by omega) hso (by rw [e88]; exact hn) (by rw [e88, e89, e90, e91, e92]; exact ok)
    rw [e88, e89, e90, e91, e92] at cn
    have x9 := hx i
    refine x_iload_n (E_X6_fewestHandings_0 4 rfl) rfl ?_
    refine x_bipush (z := 8) (E_X6_fewestHandings_0 5 rfl) (by decide) ?_
    refine x_icmp_ge (E_X6_fewestHandings_0 6 rfl) (by omega) (by decide) (fun c1 => ?_) (fun c1 => ?_)
    · have mg := c_X6_mostGroups (l := l) (G := G) (σ := τ) (m := L.length) (by omega) (fun k hk => by
        have w := hR k _ (List.getElem?_eq_getElem hk)
        rw [w]
        have u : L[k] ∈ nzF (fun h => netS (σ 89) (σ 90) (σ 91) (σ 92) h so (σ 88 7).toNat) h := by rw [← hL]; exact List.getElem_mem hk
        obtain ⟨j9, -, u2⟩ := nzF_mem u
        rw [u2]
        exact hx j9)
      rw [← hj] at mg
      refine x_iload_n (E_X6_fewestHandings_0 22 rfl) rfl ?_
      refine x_aload_n (E_X6_fewestHandings_0 23 rfl) rfl ?_
      refine x_iload_n (E_X6_fewestHandings_0 24 rfl) rfl ?_
      refine z_callVi (E_X6_fewestHandings_0 25 rfl) ml_X6_41 mv_X6_mostGroups rfl (by decide) (by decide) mg (by decide) rfl rfl (Nat.le_of_ble_eq_true rfl) (fun z9 τ9 h9 => ?_)
      obtain ⟨e9, f9⟩ := h9
      have e9 : j - z9 = hndS (fun h => netS (σ 89) (σ 90) (σ 91) (σ 92) h so (σ 88 7).toNat) := by
        rw [e9, gV_rep hR, hj, hL, show h = 8 by omega]
        rfl
      have r9 : Fr [93, 94, 95] σ τ9 := Fr.trans hF f9 (by decide) (by decide)
      refine x_isub (E_X6_fewestHandings_0 26 rfl) ?_
      refine z_iret (E_X6_fewestHandings_0 27 rfl) trivial ?_
      exact ⟨e9, r9⟩
    · refine x_aload_n (E_X6_fewestHandings_0 7 rfl) rfl ?_
      refine x_iload_n (E_X6_fewestHandings_0 8 rfl) rfl ?_
      refine x_iload_n (E_X6_fewestHandings_0 9 rfl) rfl ?_
      refine z_callVi (E_X6_fewestHandings_0 10 rfl) ml_X6_37 mv_X6_netOf rfl (by decide) (by decide) cn (by decide) rfl rfl (Nat.le_of_ble_eq_true rfl) (fun z9 τ9 h9 => ?_)
      obtain ⟨n9, rfl⟩ := h9
      refine x_istore (E_X6_fewestHandings_0 11 rfl) rfl ?_
      refine x_iload (E_X6_fewestHandings_0 12 rfl) rfl ?_
      refine x_if_eq (E_X6_fewestHandings_0 13 rfl) (by omega) (fun c2 => ?_) (fun c2 => ?_)
      · refine x_iinc (E_X6_fewestHandings_0 20 rfl) rfl rfl ?_
        refine x_goto (E_X6_fewestHandings_0 21 rfl) ?_
        refine ih (k - 1) (by omega) (h + 1) L _ _ _ _ (by omega) ?_ hR hF (by omega) hj
        rw [hL]
        exact (if_pos (by rw [← hi]; show netS (σ 89) (σ 90) (σ 91) (σ 92) i so (σ 88 7).toNat = 0; rw [← n9]; omega)).symm
      · refine x_aload_n (E_X6_fewestHandings_0 14 rfl) rfl ?_
        refine x_getR (E_X6_fewestHandings_0 15 rfl) fl_X6_24 rfl (by decide) rfl ?_
        refine x_iload_n (E_X6_fewestHandings_0 16 rfl) rfl ?_
        refine x_iload (E_X6_fewestHandings_0 17 rfl) rfl ?_
        refine x_iast (E_X6_fewestHandings_0 18 rfl) rfl (by decide) (by omega) ?_
        refine x_iinc (E_X6_fewestHandings_0 19 rfl) rfl rfl ?_
        refine x_iinc (E_X6_fewestHandings_0 20 rfl) rfl rfl ?_
        refine x_goto (E_X6_fewestHandings_0 21 rfl) ?_
        refine ih (k - 1) (by omega) (h + 1) (L ++ [z9]) _ _ _ _ (by omega) ?_ ?_ (hF.up (by decide)) (by omega) (by rw [List.length_append]; simp; omega)
        · rw [hL, n9, hi]
          exact (if_neg (by rw [← hi]; show ¬ netS (σ 89) (σ 90) (σ 91) (σ 92) i so (σ 88 7).toNat = 0; rw [← n9]; omega)).symm
        · intro q x hq
          show (if (q : Int) = j then z9 else τ 93 q) = x
          by_cases e : q < L.length
          · rw [if_neg (by omega)]
            rw [List.getElem?_append_left e] at hq
            exact hR q x hq
          · have eq : q = L.length := by
              have := (List.getElem?_eq_some_iff.mp hq).1
              rw [List.length_append] at this
              simp at this
              omega
            rw [if_pos (by omega)]
            rw [eq] at hq
            simpa using hq
  refine x_iconst (E_X6_fewestHandings_0 0 rfl) ?_
  refine x_istore_n (E_X6_fewestHandings_0 1 rfl) rfl ?_
  refine x_iconst (E_X6_fewestHandings_0 2 rfl) ?_
  refine x_istore_n (E_X6_fewestHandings_0 3 rfl) rfl ?_
  exact loop 8 0 [] none σ _ _ (by omega) rfl (fun k x h => by cases h) Fr.rf (by omega) (by simp)
theorem c_X10_handings {so : Int} (hso : rgi so) (hn : 0 ≤ σ 88 7 ∧ σ 88 7 ≤ 24) (ok : ∀ i, 0 ≤ i → i < σ 88 7 → (0 ≤ σ 89 i ∧ σ 89 i ≤ 7) ∧ (0 ≤ σ 90 i ∧ σ 90 i ≤ 7) ∧ (0 ≤ σ 91 i ∧ σ 91 i ≤ 3) ∧ (1 ≤ σ 92 i ∧ σ 92 i ≤ 99)) : CI l G M_X10_handings 3 [vr 0, vi so] σ (fun z τ => (¬ (0 ≤ so ∧ so ≤ 3) ∧ z = -1002 ∧ τ = σ) ∨ ((0 ≤ so ∧ so ≤ 3) ∧ z = hndS (fun h => netS (σ 89) (σ 90) (σ 91) (σ 92) h so (σ 88 7).toNat) ∧ Fr [93, 94, 95] σ τ)) := by
  refine Ct.of rfl (Nat.le_of_ble_eq_true rfl) ?_
  refine x_iload_n (E_X10_handings_0 0 rfl) rfl ?_
  refine z_callSi (E_X10_handings_0 1 rfl) ml_X10_111 ms_X10_isSort (c_X10_isSort (by omega)) (by decide) rfl rfl (Nat.le_of_ble_eq_true rfl) (fun z9 τ9 h9 => ?_)
  obtain ⟨rfl, ⟨rfl, c1⟩ | ⟨rfl, c1⟩⟩ := h9
  · refine x_if_eq (E_X10_handings_0 2 rfl) (by decide) (fun c9 => absurd c9 (by decide)) (fun _ => ?_)
    refine x_aload_n (E_X10_handings_0 3 rfl) rfl ?_
    refine x_getR (E_X10_handings_0 4 rfl) fl_X10_75 rfl (by decide) rfl ?_
    refine x_iload_n (E_X10_handings_0 5 rfl) rfl ?_
    refine z_callVi (E_X10_handings_0 6 rfl) ml_X10_331 mv_X6_fewestHandings rfl (by decide) (by decide) (c_X6_fewestHandings hso hn ok) (by decide) rfl rfl (Nat.le_of_ble_eq_true rfl) (fun z9 τ9 h9 => ?_)
    obtain ⟨e9, f9⟩ := h9
    refine x_goto (E_X10_handings_0 7 rfl) ?_
    refine z_iret (E_X10_handings_0 9 rfl) trivial ?_
    exact Or.inr ⟨by omega, e9, f9⟩
  · refine x_if_eq (E_X10_handings_0 2 rfl) (by decide) (fun _ => ?_) (fun c9 => absurd (by decide) c9)
    refine x_sipush (z := (-1002)) (E_X10_handings_0 8 rfl) (by decide) ?_
    refine z_iret (E_X10_handings_0 9 rfl) trivial ?_
    exact Or.inl ⟨by omega, rfl, rfl⟩

