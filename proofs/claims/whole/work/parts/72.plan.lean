/-! plan: the words; the class chooses and gathers -/
variable {l : Launch} {G : GC} {σ : Nat → Int → Int}

/-- the sum of g over the bits of s below k -/
def csF (g : Nat → Int) : Nat → Int → Int
  | 0, _ => 0
  | k + 1, s => csF g k s + if s / 2 ^ k % 2 = 1 then g k else 0
/-- the bits of the sorts -/
def srF (g : Nat → Int) : Nat → Int → Int
  | 0, _ => 0
  | k + 1, s => if s / 2 ^ k % 2 = 1 then bOr (srF g k s) (bShl 1 (g k)) else srF g k s
theorem p2_pos {k : Nat} : (0 : Int) < 2 ^ k := Int.pow_pos (by decide)
theorem bq_add {s : Int} {i k : Nat} (h : i < k) : (s + 2 ^ k) / 2 ^ i % 2 = s / 2 ^ i % 2 := by
  have e : (2 : Int) ^ k = 2 ^ i * (2 * 2 ^ (k - i - 1)) := by
    obtain ⟨j, rfl⟩ : ∃ j, k = i + (j + 1) := ⟨k - i - 1, by omega⟩
    rw [Int.pow_add, Int.pow_succ, show i + (j + 1) - i - 1 = j by omega, Int.mul_comm 2]
  rw [e, Int.add_mul_ediv_left _ _ (by have := @p2_pos i; omega)]
  generalize (2 : Int) ^ (k - i - 1) = m
  omega
theorem bq_top {s : Int} {k : Nat} (h : 0 ≤ s ∧ s < 2 ^ k) : (s + 2 ^ k) / 2 ^ k % 2 = 1 := by
  have e : s + 2 ^ k = s + 2 ^ k * 1 := by omega
  rw [e, Int.add_mul_ediv_left _ _ (by have := @p2_pos k; omega), Int.ediv_eq_zero_of_lt h.1 h.2]
  rfl
theorem bq_low {s : Int} {k : Nat} (h : 0 ≤ s ∧ s < 2 ^ k) : s / 2 ^ k % 2 = 0 := by
  rw [Int.ediv_eq_zero_of_lt h.1 h.2]; rfl
theorem csF_add {g : Nat → Int} {s : Int} {k : Nat} : ∀ {i : Nat}, i ≤ k → csF g i (s + 2 ^ k) = csF g i s
  | 0, _ => rfl
  | i + 1, h => by
    unfold csF
    rw [csF_add (by omega), bq_add (by omega)]
theorem srF_add {g : Nat → Int} {s : Int} {k : Nat} : ∀ {i : Nat}, i ≤ k → srF g i (s + 2 ^ k) = srF g i s
  | 0, _ => rfl
  | i + 1, h => by
    unfold srF
    rw [srF_add (by omega), bq_add (by omega)]
theorem csF_top {g : Nat → Int} {s : Int} {k : Nat} (h : 0 ≤ s ∧ s < 2 ^ k) : csF g (k + 1) (s + 2 ^ k) = csF g k s + g k := by
  show csF g k (s + 2 ^ k) + (if (s + 2 ^ k) / 2 ^ k % 2 = 1 then g k else 0) = _
  rw [csF_add (Nat.le_refl _), if_pos (bq_top h)]
theorem csF_low {g : Nat → Int} {s : Int} {k : Nat} (h : 0 ≤ s ∧ s < 2 ^ k) : csF g (k + 1) s = csF g k s := by
  show csF g k s + (if s / 2 ^ k % 2 = 1 then g k else 0) = _
  rw [bq_low h, if_neg (by decide)]
  omega
theorem srF_top {g : Nat → Int} {s : Int} {k : Nat} (h : 0 ≤ s ∧ s < 2 ^ k) : srF g (k + 1) (s + 2 ^ k) = bOr (srF g k s) (bShl 1 (g k)) := by
  show (if (s + 2 ^ k) / 2 ^ k % 2 = 1 then bOr (srF g k (s + 2 ^ k)) (bShl 1 (g k)) else _) = _
  rw [srF_add (Nat.le_refl _), if_pos (bq_top h)]
theorem srF_low {g : Nat → Int} {s : Int} {k : Nat} (h : 0 ≤ s ∧ s < 2 ^ k) : srF g (k + 1) s = srF g k s := by
  show (if s / 2 ^ k % 2 = 1 then _ else srF g k s) = _
  rw [bq_low h, if_neg (by decide)]
theorem p2_rg {k : Nat} (h : k ≤ 8) : (1 : Int) ≤ 2 ^ k ∧ (2 : Int) ^ k ≤ 256 := (by decide : ∀ k : Nat, k ≤ 8 → (1 : Int) ≤ 2 ^ k ∧ (2 : Int) ^ k ≤ 256) k h
theorem p2_sh {k : Nat} (h : k ≤ 8) : bShl 1 ((k : Nat) : Int) = 2 ^ k := (by decide : ∀ k : Nat, k ≤ 8 → bShl 1 ((k : Nat) : Int) = 2 ^ k) k h
theorem p2_or {s : Int} {k : Nat} (h : k ≤ 7) (hs : 0 ≤ s ∧ s < 2 ^ k) : bOr s (bShl 1 ((k : Nat) : Int)) = s + 2 ^ k := by
  rw [p2_sh (by omega)]
  obtain ⟨s', rfl⟩ := Int.eq_ofNat_of_zero_le hs.1
  have e : (2 : Int) ^ k = ((2 ^ k : Nat) : Int) := by push_cast; rfl
  have p := p2_rg (k := k) (by omega)
  rw [e] at hs p ⊢
  have lt : s' < 2 ^ k := by have := hs.2; omega
  have or1 : s' ||| 2 ^ k = s' + 2 ^ k := by
    have := Nat.two_pow_add_eq_or_of_lt lt 1
    rw [Nat.mul_one] at this
    rw [Nat.or_comm, ← this, Nat.add_comm]
  have := bOr_n (a := s') (b := 2 ^ k) (by omega)
  rw [or1] at this
  exact this.trans (by push_cast; rfl)
/-- chosen lots, in the order of their numbers -/
def cqS (set : Int) : Nat → Nat
  | 0 => 0
  | n + 1 => cqS set n + if set / 2 ^ n % 2 = 1 then 1 else 0
theorem cqS_mono {set : Int} {a : Nat} : ∀ {b : Nat}, a ≤ b → cqS set a ≤ cqS set b
  | 0, h => by rw [show a = 0 by omega]; exact Nat.le_refl _
  | b + 1, h => by
    by_cases e : a = b + 1
    · rw [e]; exact Nat.le_refl _
    · exact Nat.le_trans (cqS_mono (by omega)) (Nat.le_add_right _ _)
/-- what choose leaves: each chosen lot has its place, and it lies there -/
def ChP (set : Int) (n : Nat) (τ : Nat → Int → Int) : Prop := τ 107 2 = (cqS set n : Nat) ∧ ∀ x : Nat, x < n → (set / 2 ^ x % 2 = 1 → τ 108 x = (cqS set x : Nat) ∧ τ 109 (cqS set x : Nat) = x) ∧ (¬ set / 2 ^ x % 2 = 1 → τ 108 x = -1)
set_option maxHeartbeats 1000000 in
theorem c_X4_choose {set : Int} {nl : Nat} (hs : 0 ≤ set ∧ set < 4096) (hn : nl ≤ 12) (hc : cqS set nl ≤ 8) : CV l G M_X4_choose 0 [vr 107, vi set, vi nl] σ (fun τ => ChP set nl τ ∧ Fr [107, 108, 109] σ τ ∧ Fo 107 [2] σ τ) := by
  refine Ct.of rfl (Nat.le_of_ble_eq_true rfl) ?_
  have loop : ∀ (m n : Nat) (τ : Nat → Int → Int), n + m = nl → ChP set n τ → Fr [107, 108, 109] σ τ → Fo 107 [2] σ τ → XV l G M_X4_choose 0 7 [some (vr 107), some (vi set), some (vi nl), some (vi n)] [] τ (fun τ => ChP set nl τ ∧ Fr [107, 108, 109] σ τ ∧ Fo 107 [2] σ τ) := by
    intro m
    induction m with
    | zero =>
      intro n τ hm hP hF hO
      obtain rfl : n = nl := by omega
      refine x_iload_n (E_X4_choose_0 5 rfl) rfl ?_
      refine x_iload_n (E_X4_choose_0 6 rfl) rfl ?_
      refine x_icmp_ge (E_X4_choose_0 7 rfl) (by omega) (by omega) (fun c1 => ?_) (fun c1 => ?_)
      · refine z_vret (E_X4_choose_0 44 rfl) trivial ?_
        exact ⟨hP, hF, hO⟩
      · exfalso; omega
    | succ m ih =>
      intro n τ hm hP hF hO
      have hb : bAnd (bShr set n) 1 = set / 2 ^ n % 2 := by
        rw [bShr_i (by omega) (by omega), bAnd_1 (by
          have a : 0 ≤ set / 2 ^ ((n : Nat) : Int).toNat := Int.ediv_nonneg hs.1 (by have := @p2_pos ((n : Nat) : Int).toNat; omega)
          have b : set / 2 ^ ((n : Nat) : Int).toNat ≤ set := Int.ediv_le_self _ hs.1
          omega)]
        rfl
      have hb2 : set / 2 ^ n % 2 = 0 ∨ set / 2 ^ n % 2 = 1 := by omega
      have c8 : cqS set (n + 1) ≤ 8 := Nat.le_trans (cqS_mono (by omega)) hc
      have c9 : cqS set (n + 1) = cqS set n + if set / 2 ^ n % 2 = 1 then 1 else 0 := rfl
      have hk := hP.1
      refine x_iload_n (E_X4_choose_0 5 rfl) rfl ?_
      refine x_iload_n (E_X4_choose_0 6 rfl) rfl ?_
      refine x_icmp_ge (E_X4_choose_0 7 rfl) (by omega) (by omega) (fun c1 => ?_) (fun c1 => ?_)
      · exfalso; omega
      · refine x_aload_n (E_X4_choose_0 8 rfl) rfl ?_
        refine x_getR (E_X4_choose_0 9 rfl) fl_X4_9 rfl (by decide) rfl ?_
        refine x_iload_n (E_X4_choose_0 10 rfl) rfl ?_
        refine x_iconst (E_X4_choose_0 11 rfl) ?_
        refine x_iast (E_X4_choose_0 12 rfl) rfl (by decide) (by omega) ?_
        refine x_iload_n (E_X4_choose_0 13 rfl) rfl ?_
        refine x_iload_n (E_X4_choose_0 14 rfl) rfl ?_
        refine x_ishr (E_X4_choose_0 15 rfl) ?_
        refine x_iconst (E_X4_choose_0 16 rfl) ?_
        refine x_iand (E_X4_choose_0 17 rfl) ?_
        refine x_iconst (E_X4_choose_0 18 rfl) ?_
        rw [hb]
        refine x_icmp_ne (E_X4_choose_0 19 rfl) (by omega) (by decide) (fun c2 => ?_) (fun c2 => ?_)
        · refine x_iinc (E_X4_choose_0 42 rfl) rfl rfl ?_
          refine x_goto (E_X4_choose_0 43 rfl) ?_
          refine ih (n + 1) _ (by omega) ⟨?_, fun x hx => ?_⟩ (hF.up (by decide)) (hO.un (by decide))
          · show τ 107 2 = _
            rw [c9, if_neg (by omega)]; exact hk
          · by_cases e : x = n
            · subst e
              exact ⟨fun h => by omega, fun _ => if_pos rfl⟩
            · have := hP.2 x (by omega)
              have f : (fun b => if b = ((n : Nat) : Int) then (-1 : Int) else τ 108 b) x = τ 108 x := if_neg (by omega)
              exact ⟨fun h => ⟨f.trans (this.1 h).1, (this.1 h).2⟩, fun h => f.trans (this.2 h)⟩
        · refine x_aload_n (E_X4_choose_0 20 rfl) rfl ?_
          refine x_getIe (v := τ 107 2) (E_X4_choose_0 21 rfl) fl_X4_45 rfl (by decide) rfl ?_
          refine x_bipush (z := 8) (E_X4_choose_0 22 rfl) (by decide) ?_
          refine x_icmp_ge (E_X4_choose_0 23 rfl) (by omega) (by decide) (fun c3 => ?_) (fun c3 => ?_)
          · exfalso
            rw [if_pos (by omega)] at c9
            omega
          · refine x_aload_n (E_X4_choose_0 24 rfl) rfl ?_
            refine x_getR (E_X4_choose_0 25 rfl) fl_X4_9 rfl (by decide) rfl ?_
            refine x_iload_n (E_X4_choose_0 26 rfl) rfl ?_
            refine x_aload_n (E_X4_choose_0 27 rfl) rfl ?_
            refine x_getIe (v := τ 107 2) (E_X4_choose_0 28 rfl) fl_X4_45 rfl (by decide) rfl ?_
            refine x_iast (E_X4_choose_0 29 rfl) rfl (by decide) (by omega) ?_
            refine x_aload_n (E_X4_choose_0 30 rfl) rfl ?_
            refine x_getR (E_X4_choose_0 31 rfl) fl_X4_15 rfl (by decide) rfl ?_
            refine x_aload_n (E_X4_choose_0 32 rfl) rfl ?_
            refine x_getIe (v := τ 107 2) (E_X4_choose_0 33 rfl) fl_X4_45 rfl (by decide) rfl ?_
            refine x_iload_n (E_X4_choose_0 34 rfl) rfl ?_
            refine x_iast (E_X4_choose_0 35 rfl) rfl (by decide) (by omega) ?_
            refine x_aload_n (E_X4_choose_0 36 rfl) rfl ?_
            refine x_dupr (E_X4_choose_0 37 rfl) ?_
            refine x_getIe (v := τ 107 2) (E_X4_choose_0 38 rfl) fl_X4_45 rfl (by decide) rfl ?_
            refine x_iconst (E_X4_choose_0 39 rfl) ?_
            refine x_iadd (E_X4_choose_0 40 rfl) ?_
            refine x_putI (E_X4_choose_0 41 rfl) fl_X4_45 rfl (by decide) ?_
            refine x_iinc (E_X4_choose_0 42 rfl) rfl rfl ?_
            refine x_goto (E_X4_choose_0 43 rfl) ?_
            have s9 : cqS set (n + 1) = cqS set n + 1 := by rw [c9, if_pos (by omega)]
            refine ih (n + 1) _ (by omega) ⟨?_, fun x hx => ?_⟩ ((((hF.up (by decide)).up (by decide)).up (by decide)).up (by decide)) ((((hO.un (by decide)).un (by decide)).un (by decide)).up (by decide))
            · show τ 107 2 + 1 = _
              rw [s9, hk]; push_cast; rfl
            · by_cases e : x = n
              · subst e
                refine ⟨fun _ => ⟨(if_pos rfl).trans hk, if_pos hk.symm⟩, fun h => by omega⟩
              · have := hP.2 x (by omega)
                have m9 : set / 2 ^ x % 2 = 1 → cqS set x < cqS set n := fun h => by
                  have a : cqS set (x + 1) ≤ cqS set n := cqS_mono (by omega)
                  have b : cqS set (x + 1) = cqS set x + if set / 2 ^ x % 2 = 1 then 1 else 0 := rfl
                  rw [if_pos h] at b
                  omega
                have f : (fun b => if b = ((n : Nat) : Int) then τ 107 2 else (fun b => if b = ((n : Nat) : Int) then (-1 : Int) else τ 108 b) b) x = τ 108 x := (if_neg (by omega)).trans (if_neg (by omega))
                exact ⟨fun h => ⟨f.trans (this.1 h).1, (if_neg (by have := m9 h; omega)).trans (this.1 h).2⟩, fun h => f.trans (this.2 h)⟩
  refine x_aload_n (E_X4_choose_0 0 rfl) rfl ?_
  refine x_iconst (E_X4_choose_0 1 rfl) ?_
  refine x_putI (E_X4_choose_0 2 rfl) fl_X4_45 rfl (by decide) ?_
  refine x_iconst (E_X4_choose_0 3 rfl) ?_
  refine x_istore_n (E_X4_choose_0 4 rfl) rfl ?_
  exact loop nl 0 _ (by omega) ⟨rfl, fun x h => absurd h (by omega)⟩ (Fr.rf.up (by decide)) (Fo.rf.up (by decide))

set_option maxHeartbeats 1000000 in
theorem c_X4_gather {th : Int → Int} {nl : Int} {c : Nat} (hT : ∀ υ, Fr [107, 108, 109, 110, 111, 112, 113] σ υ → ∀ x, 0 ≤ x → x < nl → CI l G M_X7_thereOf 0 [vr 45, vi x] υ (IP (th x) υ)) (hth : ∀ x, 0 ≤ x → x < nl → 0 ≤ th x ∧ th x ≤ 200) (hc : c ≤ 8) (hn : nl ≤ 12) (h2 : σ 107 2 = (c : Nat)) (hl : ∀ k : Nat, k < c → 0 ≤ σ 109 k ∧ σ 109 k < nl) (hso : ∀ x, 0 ≤ x → x < nl → 0 ≤ σ 2 x ∧ σ 2 x ≤ 3) : CV l G M_X4_gather 1 [vr 107, vr 1, vr 45] σ (fun τ => (∀ s, 0 ≤ s → s < 2 ^ c → τ 110 s = csF (fun k => th (σ 109 ((k : Nat) : Int))) c s ∧ τ 111 s = srF (fun k => σ 2 (σ 109 ((k : Nat) : Int))) c s) ∧ Fr [110, 111] σ τ) := by
  refine Ct.of rfl (Nat.le_of_ble_eq_true rfl) ?_
  have outer : ∀ (m k : Nat) (o4 o5 : Option AV) (τ : Nat → Int → Int), k + m = c → (∀ s, 0 ≤ s → s < 2 ^ k → τ 110 s = csF (fun k => th (σ 109 ((k : Nat) : Int))) k s ∧ τ 111 s = srF (fun k => σ 2 (σ 109 ((k : Nat) : Int))) k s) → Fr [110, 111] σ τ → XV l G M_X4_gather 1 16 [some (vr 107), some (vr 1), some (vr 45), some (vi k), o4, o5] [] τ (fun τ => (∀ s, 0 ≤ s → s < 2 ^ c → τ 110 s = csF (fun k => th (σ 109 ((k : Nat) : Int))) c s ∧ τ 111 s = srF (fun k => σ 2 (σ 109 ((k : Nat) : Int))) c s) ∧ Fr [110, 111] σ τ) := by
    intro m
    induction m with
    | zero =>
      intro k o4 o5 τ hm hI hF
      obtain rfl : k = c := by omega
      have e2 : τ 107 2 = (k : Nat) := by rw [hF 107 (by decide)]; exact h2
      refine x_iload_n (E_X4_gather_0 12 rfl) rfl ?_
      refine x_aload_n (E_X4_gather_0 13 rfl) rfl ?_
      refine x_getIe (v := τ 107 2) (E_X4_gather_0 14 rfl) fl_X4_45 rfl (by decide) rfl ?_
      refine x_icmp_ge (E_X4_gather_0 15 rfl) (by omega) (by omega) (fun c1 => ?_) (fun c1 => ?_)
      · refine z_vret (E_X4_gather_1 7 rfl) trivial ?_
        exact ⟨hI, hF⟩
      · exfalso; omega
    | succ m ih =>
      intro k o4 o5 τ hm hI hF
      have e2 : τ 107 2 = (c : Nat) := by rw [hF 107 (by decide)]; exact h2
      have e9 : τ 109 k = σ 109 k := congrFun (hF 109 (by decide)) _
      have l9 := hl k (by omega)
      have pk := p2_rg (k := k) (by omega)
      have ps := p2_sh (k := k) (by omega)
      have p1 : (2 : Int) ^ (k + 1) = 2 ^ k * 2 := Int.pow_succ _ _
      have p7 := p2_rg (k := k + 1) (by omega)
      have t9 := hth (σ 109 k) l9.1 l9.2
      have inner : ∀ (j : Nat) (s : Int) (υ : Nat → Int → Int), s = 2 ^ k - j → 0 ≤ s → (∀ u, 0 ≤ u → u < 2 ^ k → υ 110 u = csF (fun k => th (σ 109 ((k : Nat) : Int))) (k + 1) u ∧ υ 111 u = srF (fun k => σ 2 (σ 109 ((k : Nat) : Int))) (k + 1) u) → (∀ u, 0 ≤ u → u < s → υ 110 (u + 2 ^ k) = csF (fun k => th (σ 109 ((k : Nat) : Int))) (k + 1) (u + 2 ^ k) ∧ υ 111 (u + 2 ^ k) = srF (fun k => σ 2 (σ 109 ((k : Nat) : Int))) (k + 1) (u + 2 ^ k)) → Fr [110, 111] σ υ → XV l G M_X4_gather 1 35 [some (vr 107), some (vr 1), some (vr 45), some (vi k), some (vi (σ 109 k)), some (vi s)] [] υ (fun τ => (∀ s, 0 ≤ s → s < 2 ^ c → τ 110 s = csF (fun k => th (σ 109 ((k : Nat) : Int))) c s ∧ τ 111 s = srF (fun k => σ 2 (σ 109 ((k : Nat) : Int))) c s) ∧ Fr [110, 111] σ τ) := by
        intro j
        induction j with
        | zero =>
          intro s υ hs s0 hI1 hI2 hF
          refine x_iload (E_X4_gather_0 23 rfl) rfl ?_
          refine x_iconst (E_X4_gather_0 24 rfl) ?_
          refine x_iload_n (E_X4_gather_0 25 rfl) rfl ?_
          refine x_ishl (E_X4_gather_0 26 rfl) ?_
          rw [ps]
          refine x_icmp_ge (E_X4_gather_0 27 rfl) (by omega) (by omega) (fun c1 => ?_) (fun c1 => ?_)
          · refine x_iinc (E_X4_gather_1 5 rfl) rfl rfl ?_
            refine x_goto (E_X4_gather_1 6 rfl) ?_
            refine ih (k + 1) _ _ υ (by omega) (fun u a b => ?_) hF
            by_cases q : u < 2 ^ k
            · exact hI1 u a q
            · have := hI2 (u - 2 ^ k) (by omega) (by omega)
              rw [show u - 2 ^ k + 2 ^ k = u by omega] at this
              exact this
          · exfalso; omega
        | succ j jh =>
          intro s υ hs s0 hI1 hI2 hF
          have or9 := p2_or (s := s) (k := k) (by omega) (by omega)
          have f2 : υ 2 (σ 109 k) = σ 2 (σ 109 k) := congrFun (hF 2 (by decide)) _
          have s2 := hso (σ 109 k) l9.1 l9.2
          have i9 := hI1 s s0 (by omega)
          have G9 : Fr [107, 108, 109, 110, 111, 112, 113] σ υ := hF.sub (by decide)
          have cr : 0 ≤ 110 := by decide
          refine x_iload (E_X4_gather_0 23 rfl) rfl ?_
          refine x_iconst (E_X4_gather_0 24 rfl) ?_
          refine x_iload_n (E_X4_gather_0 25 rfl) rfl ?_
          refine x_ishl (E_X4_gather_0 26 rfl) ?_
          rw [ps]
          refine x_icmp_ge (E_X4_gather_0 27 rfl) (by omega) (by omega) (fun c1 => ?_) (fun c1 => ?_)
          · exfalso; omega
          · refine x_aload_n (E_X4_gather_0 28 rfl) rfl ?_
            refine x_getR (E_X4_gather_0 29 rfl) fl_X4_18 rfl (by decide) rfl ?_
            refine x_iload (E_X4_gather_0 30 rfl) rfl ?_
            refine x_iconst (E_X4_gather_0 31 rfl) ?_
            refine x_iload_n (E_X4_gather_0 32 rfl) rfl ?_
            refine x_ishl (E_X4_gather_0 33 rfl) ?_
            refine x_ior (E_X4_gather_0 34 rfl) ?_
            refine x_aload_n (E_X4_gather_0 35 rfl) rfl ?_
            refine x_getR (E_X4_gather_0 36 rfl) fl_X4_18 rfl (by decide) rfl ?_
            refine x_iload (E_X4_gather_0 37 rfl) rfl ?_
            refine x_ialde (f := υ 110) (E_X4_gather_0 38 rfl) rfl (by decide) (by omega) rfl ?_
            refine x_aload_n (E_X4_gather_0 39 rfl) rfl ?_
            refine x_iload (E_X4_gather_0 40 rfl) rfl ?_
            refine z_callVi (E_X4_gather_0 41 rfl) ml_X4_51 mv_X7_thereOf rfl (by decide) (by decide) (hT υ G9 _ l9.1 l9.2) (by decide) rfl rfl (Nat.le_of_ble_eq_true rfl) (fun z9 τ9 h9 => ?_)
            obtain ⟨rfl, rfl⟩ := h9
            refine x_iadd (E_X4_gather_0 42 rfl) ?_
            refine x_iast (E_X4_gather_0 43 rfl) rfl (by decide) (by rw [or9]; omega) ?_
            refine x_aload_n (E_X4_gather_0 44 rfl) rfl ?_
            refine x_getR (E_X4_gather_0 45 rfl) fl_X4_21 rfl (by decide) rfl ?_
            refine x_iload (E_X4_gather_0 46 rfl) rfl ?_
            refine x_iconst (E_X4_gather_0 47 rfl) ?_
            refine x_iload_n (E_X4_gather_0 48 rfl) rfl ?_
            refine x_ishl (E_X4_gather_0 49 rfl) ?_
            refine x_ior (E_X4_gather_0 50 rfl) ?_
            refine x_aload_n (E_X4_gather_0 51 rfl) rfl ?_
            refine x_getR (E_X4_gather_0 52 rfl) fl_X4_21 rfl (by decide) rfl ?_
            refine x_iload (E_X4_gather_0 53 rfl) rfl ?_
            refine x_ialde (f := υ 111) (E_X4_gather_0 54 rfl) rfl (by decide) (by omega) rfl ?_
            refine x_iconst (E_X4_gather_0 55 rfl) ?_
            refine x_aload_n (E_X4_gather_0 56 rfl) rfl ?_
            refine x_getR (E_X4_gather_0 57 rfl) fl_X4_57 rfl (by decide) rfl ?_
            refine x_iload (E_X4_gather_0 58 rfl) rfl ?_
            refine x_ialde (f := υ 2) (E_X4_gather_0 59 rfl) rfl (by decide) (by omega) rfl ?_
            refine x_ishl (E_X4_gather_1 0 rfl) ?_
            refine x_ior (E_X4_gather_1 1 rfl) ?_
            refine x_iast (E_X4_gather_1 2 rfl) rfl (by decide) (by rw [or9]; omega) ?_
            refine x_iinc (E_X4_gather_1 3 rfl) rfl rfl ?_
            refine x_goto (E_X4_gather_1 4 rfl) ?_
            rw [or9]
            refine jh (s + 1) _ (by omega) (by omega) (fun u a b => ?_) (fun u a b => ?_) ((hF.up (by decide)).up (by decide))
            · have := hI1 u a b
              exact ⟨(if_neg (by omega)).trans this.1, (if_neg (by omega)).trans this.2⟩
            · by_cases q : u = s
              · subst q
                have b9 : 0 ≤ u ∧ u < 2 ^ k := by omega
                rw [csF_top b9, srF_top b9]
                rw [csF_low b9, srF_low b9] at i9
                refine ⟨(if_pos rfl).trans ?_, (if_pos rfl).trans ?_⟩
                · show υ 110 u + th (σ 109 k) = _
                  rw [i9.1]
                · show bOr (υ 111 u) (bShl 1 (υ 2 (σ 109 k))) = _
                  rw [i9.2, f2]
              · have := hI2 u a (by omega)
                exact ⟨(if_neg (by omega)).trans this.1, (if_neg (by omega)).trans this.2⟩
      refine x_iload_n (E_X4_gather_0 12 rfl) rfl ?_
      refine x_aload_n (E_X4_gather_0 13 rfl) rfl ?_
      refine x_getIe (v := τ 107 2) (E_X4_gather_0 14 rfl) fl_X4_45 rfl (by decide) rfl ?_
      refine x_icmp_ge (E_X4_gather_0 15 rfl) (by omega) (by omega) (fun c1 => ?_) (fun c1 => ?_)
      · exfalso; omega
      · refine x_aload_n (E_X4_gather_0 16 rfl) rfl ?_
        refine x_getR (E_X4_gather_0 17 rfl) fl_X4_15 rfl (by decide) rfl ?_
        refine x_iload_n (E_X4_gather_0 18 rfl) rfl ?_
        refine x_ialde (f := τ 109) (E_X4_gather_0 19 rfl) rfl (by decide) (by omega) rfl ?_
        rw [e9]
        refine x_istore (E_X4_gather_0 20 rfl) rfl ?_
        refine x_iconst (E_X4_gather_0 21 rfl) ?_
        refine x_istore (E_X4_gather_0 22 rfl) rfl ?_
        refine inner (2 ^ k : Int).toNat 0 τ (by omega) (by omega) (fun u a b => ?_) (fun u a b => absurd b (by omega)) hF
        have := hI u a b
        rw [csF_low ⟨a, b⟩, srF_low ⟨a, b⟩]
        exact this
  refine x_aload_n (E_X4_gather_0 0 rfl) rfl ?_
  refine x_getR (E_X4_gather_0 1 rfl) fl_X4_18 rfl (by decide) rfl ?_
  refine x_iconst (E_X4_gather_0 2 rfl) ?_
  refine x_iconst (E_X4_gather_0 3 rfl) ?_
  refine x_iast (E_X4_gather_0 4 rfl) rfl (by decide) (by omega) ?_
  refine x_aload_n (E_X4_gather_0 5 rfl) rfl ?_
  refine x_getR (E_X4_gather_0 6 rfl) fl_X4_21 rfl (by decide) rfl ?_
  refine x_iconst (E_X4_gather_0 7 rfl) ?_
  refine x_iconst (E_X4_gather_0 8 rfl) ?_
  refine x_iast (E_X4_gather_0 9 rfl) rfl (by decide) (by omega) ?_
  refine x_iconst (E_X4_gather_0 10 rfl) ?_
  refine x_istore_n (E_X4_gather_0 11 rfl) rfl ?_
  refine outer c 0 none none _ (by omega) (fun s a b => ?_) ((Fr.rf.up (by decide)).up (by decide))
  obtain rfl : s = 0 := by have : s < 1 := b; omega
  exact ⟨rfl, rfl⟩

