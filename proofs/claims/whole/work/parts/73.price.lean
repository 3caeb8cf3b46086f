/-! plan: prices of sets on a floor -/
variable {l : Launch} {G : GC} {σ : Nat → Int → Int}

theorem bAnd_rg {x y : Int} : rgi (bAnd x y) := ⟨Int32.le_toInt _, Int32.toInt_lt _⟩
theorem bOr_rg {x y : Int} : rgi (bOr x y) := ⟨Int32.le_toInt _, Int32.toInt_lt _⟩
def pdS (pf : Int → Int) (ours all : Int) : Prop := ∃ t : Nat, t < 4 ∧ ours / 2 ^ t % 2 = 1 ∧ bAnd (pf t) all ≠ 0
theorem c_X4_isParted {ours all : Int} (ho : 0 ≤ ours ∧ ours < 16) : CI l G M_X4_isParted 0 [vr 107, vi ours, vi all, vr 106] σ (BP (pdS (σ 106) ours all) σ) := by
  refine Ct.of rfl (Nat.le_of_ble_eq_true rfl) ?_
  have loop : ∀ (m t : Nat), t + m = 4 → (∀ j : Nat, j < t → ¬ (ours / 2 ^ j % 2 = 1 ∧ bAnd (σ 106 j) all ≠ 0)) → XI l G M_X4_isParted 0 3 [some (vr 107), some (vi ours), some (vi all), some (vr 106), some (vi t)] [] σ (BP (pdS (σ 106) ours all) σ) := by
    intro m
    induction m with
    | zero =>
      intro t ht hj
      refine x_iload (E_X4_isParted_0 2 rfl) rfl ?_
      refine x_iconst (E_X4_isParted_0 3 rfl) ?_
      refine x_icmp_ge (E_X4_isParted_0 4 rfl) (by omega) (by decide) (fun c1 => ?_) (fun c1 => ?_)
      · refine x_iconst (E_X4_isParted_0 22 rfl) ?_
        refine z_iret (E_X4_isParted_0 23 rfl) (Or.inl rfl) ?_
        refine ⟨rfl, Or.inr ⟨rfl, ?_⟩⟩
        rintro ⟨j, j4, q⟩
        exact hj j (by omega) q
      · exfalso; omega
    | succ m ih =>
      intro t ht hj
      have hb : bAnd (bShr ours t) 1 = ours / 2 ^ t % 2 := by
        rw [bShr_i (by omega) (by omega), bAnd_1 (by
          have a : 0 ≤ ours / 2 ^ ((t : Nat) : Int).toNat := Int.ediv_nonneg ho.1 (by have := @p2_pos ((t : Nat) : Int).toNat; omega)
          have b : ours / 2 ^ ((t : Nat) : Int).toNat ≤ ours := Int.ediv_le_self _ ho.1
          omega)]
        rfl
      have hb2 : ours / 2 ^ t % 2 = 0 ∨ ours / 2 ^ t % 2 = 1 := by omega
      refine x_iload (E_X4_isParted_0 2 rfl) rfl ?_
      refine x_iconst (E_X4_isParted_0 3 rfl) ?_
      refine x_icmp_ge (E_X4_isParted_0 4 rfl) (by omega) (by decide) (fun c1 => ?_) (fun c1 => ?_)
      · exfalso; omega
      · refine x_iload_n (E_X4_isParted_0 5 rfl) rfl ?_
        refine x_iload (E_X4_isParted_0 6 rfl) rfl ?_
        refine x_ishr (E_X4_isParted_0 7 rfl) ?_
        refine x_iconst (E_X4_isParted_0 8 rfl) ?_
        refine x_iand (E_X4_isParted_0 9 rfl) ?_
        refine x_iconst (E_X4_isParted_0 10 rfl) ?_
        rw [hb]
        refine x_icmp_ne (E_X4_isParted_0 11 rfl) (by omega) (by decide) (fun c2 => ?_) (fun c2 => ?_)
        · refine x_iinc (E_X4_isParted_0 20 rfl) rfl rfl ?_
          refine x_goto (E_X4_isParted_0 21 rfl) ?_
          refine ih (t + 1) (by omega) (fun j h q => ?_)
          by_cases e : j = t
          · subst e
            exact absurd q.1 (by omega)
          · exact hj j (by omega) q
        · refine x_aload_n (E_X4_isParted_0 12 rfl) rfl ?_
          refine x_iload (E_X4_isParted_0 13 rfl) rfl ?_
          refine x_ialde (f := σ 106) (E_X4_isParted_0 14 rfl) rfl (by decide) (by omega) rfl ?_
          refine x_iload_n (E_X4_isParted_0 15 rfl) rfl ?_
          refine x_iand (E_X4_isParted_0 16 rfl) ?_
          refine x_if_eq (E_X4_isParted_0 17 rfl) bAnd_rg (fun c3 => ?_) (fun c3 => ?_)
          · refine x_iinc (E_X4_isParted_0 20 rfl) rfl rfl ?_
            refine x_goto (E_X4_isParted_0 21 rfl) ?_
            refine ih (t + 1) (by omega) (fun j h q => ?_)
            by_cases e : j = t
            · subst e
              exact q.2 (by omega)
            · exact hj j (by omega) q
          · refine x_iconst (E_X4_isParted_0 18 rfl) ?_
            refine z_iret (E_X4_isParted_0 19 rfl) (Or.inr rfl) ?_
            exact ⟨rfl, Or.inl ⟨rfl, t, by omega, by omega, by assumption⟩⟩
  refine x_iconst (E_X4_isParted_0 0 rfl) ?_
  refine x_istore (E_X4_isParted_0 1 rfl) rfl ?_
  exact loop 4 0 rfl (fun j h => absurd h (by omega))

def ofF (k : Int) : Int := [279936, 46656, 7776, 1296, 216, 36, 6, 1].getD k.toNat 0
/-- the price of the lot x, the k-th laid, on floor f -/
def ownS (fl th : Int → Int) (f : Int) (k : Nat) (x : Int) : Int := f * ofF k + if fl x = f then 0 else th x * 1679616
theorem ofF_rg {k : Nat} (h : k < 8) : 1 ≤ ofF ((k : Nat) : Int) ∧ ofF ((k : Nat) : Int) ≤ 279936 := (by decide : ∀ k, k < 8 → 1 ≤ ofF ((k : Nat) : Int) ∧ ofF ((k : Nat) : Int) ≤ 279936) k h
theorem own_rg {fl th : Int → Int} {f x : Int} {k : Nat} (hf : 0 ≤ f ∧ f ≤ 5) (hk : k < 8) (ht : 0 ≤ th x ∧ th x ≤ 200) : 0 ≤ ownS fl th f k x ∧ ownS fl th f k x ≤ 400000000 := by
  have a := ofF_rg hk
  have b : 0 ≤ f * ofF k ∧ f * ofF k ≤ 5 * 279936 := mul_rg hf ⟨by omega, a.2⟩
  unfold ownS
  split <;> omega
theorem csF_rg {g : Nat → Int} {B : Int} (hB : 0 ≤ B) {s : Int} : ∀ {k : Nat}, (∀ j, j < k → 0 ≤ g j ∧ g j ≤ B) → 0 ≤ csF g k s ∧ csF g k s ≤ k * B
  | 0, _ => by show (0 : Int) ≤ 0 ∧ (0 : Int) ≤ ((0 : Nat) : Int) * B; omega
  | k + 1, h => by
    have a := csF_rg (g := g) hB (s := s) (k := k) (fun j hj => h j (by omega))
    have b := h k (by omega)
    show 0 ≤ csF g k s + (if s / 2 ^ k % 2 = 1 then g k else 0) ∧ csF g k s + (if s / 2 ^ k % 2 = 1 then g k else 0) ≤ ((k + 1 : Nat) : Int) * B
    have e : ((k + 1 : Nat) : Int) * B = (k : Int) * B + B := by push_cast; rw [Int.add_mul, Int.one_mul]
    rw [e]
    split <;> omega

set_option maxHeartbeats 1000000 in
theorem c_X4_priceOn {th : Int → Int} {nl f : Int} {c : Nat} (hT : ∀ υ, Fr [107, 108, 109, 110, 111, 112, 113] σ υ → ∀ x, 0 ≤ x → x < nl → CI l G M_X7_thereOf 0 [vr 45, vi x] υ (IP (th x) υ)) (hth : ∀ x, 0 ≤ x → x < nl → 0 ≤ th x ∧ th x ≤ 200) (hc : c ≤ 8) (hn : nl ≤ 12) (h2 : σ 107 2 = (c : Nat)) (hl : ∀ k : Nat, k < c → 0 ≤ σ 109 k ∧ σ 109 k < nl) (hso : ∀ x, 0 ≤ x → x < nl → 0 ≤ σ 2 x ∧ σ 2 x ≤ 3) (hfl : ∀ x, 0 ≤ x → x < nl → 0 ≤ σ 5 x ∧ σ 5 x ≤ 5) (hf : 0 ≤ f ∧ f ≤ 5) : CV l G M_X4_priceOn 1 [vr 107, vi f, vr 1, vr 45] σ (fun τ => (∀ s, 0 ≤ s → s < 2 ^ c → τ 112 s = csF (fun k => ownS (σ 5) th f k (σ 109 ((k : Nat) : Int))) c s) ∧ Fr [112] σ τ) := by
  refine Ct.of rfl (Nat.le_of_ble_eq_true rfl) ?_
  have outer : ∀ (m k : Nat) (o5 o6 o8 : Option AV) (τ : Nat → Int → Int), k + m = c → (∀ s, 0 ≤ s → s < 2 ^ k → τ 112 s = csF (fun k => ownS (σ 5) th f k (σ 109 ((k : Nat) : Int))) k s) → Fr [112] σ τ → XV l G M_X4_priceOn 1 10 [some (vr 107), some (vi f), some (vr 1), some (vr 45), some (vi k), o5, o6, none, o8] [] τ (fun τ => (∀ s, 0 ≤ s → s < 2 ^ c → τ 112 s = csF (fun k => ownS (σ 5) th f k (σ 109 ((k : Nat) : Int))) c s) ∧ Fr [112] σ τ) := by
    intro m
    induction m with
    | zero =>
      intro k o5 o6 o8 τ hm hI hF
      obtain rfl : k = c := by omega
      have e2 : τ 107 2 = (k : Nat) := by rw [hF 107 (by decide)]; exact h2
      refine x_iload (E_X4_priceOn_0 7 rfl) rfl ?_
      refine x_aload_n (E_X4_priceOn_0 8 rfl) rfl ?_
      refine x_getIe (v := τ 107 2) (E_X4_priceOn_0 9 rfl) fl_X4_45 rfl (by decide) rfl ?_
      refine x_icmp_ge (E_X4_priceOn_0 10 rfl) (by omega) (by omega) (fun c1 => ?_) (fun c1 => ?_)
      · refine z_vret (E_X4_priceOn_1 4 rfl) trivial ?_
        exact ⟨hI, hF⟩
      · exfalso; omega
    | succ m ih =>
      intro k o5 o6 o8 τ hm hI hF
      have e2 : τ 107 2 = (c : Nat) := by rw [hF 107 (by decide)]; exact h2
      have e9 : τ 109 k = σ 109 k := congrFun (hF 109 (by decide)) _
      have l9 := hl k (by omega)
      have e5 : τ 5 (σ 109 k) = σ 5 (σ 109 k) := congrFun (hF 5 (by decide)) _
      have b5 := hfl (σ 109 k) l9.1 l9.2
      have pk := p2_rg (k := k) (by omega)
      have ps := p2_sh (k := k) (by omega)
      have p1 : (2 : Int) ^ (k + 1) = 2 ^ k * 2 := Int.pow_succ _ _
      have p7 := p2_rg (k := k + 1) (by omega)
      have t9 := hth (σ 109 k) l9.1 l9.2
      have of9 := ofF_rg (k := k) (by omega)
      have G9 : Fr [107, 108, 109, 110, 111, 112, 113] σ τ := hF.sub (by decide)
      have inner : ∀ (ow : Int), ow = ownS (σ 5) th f k (σ 109 k) → ∀ (j : Nat) (s : Int) (υ : Nat → Int → Int), s = 2 ^ k - j → 0 ≤ s → (∀ u, 0 ≤ u → u < 2 ^ k → υ 112 u = csF (fun k => ownS (σ 5) th f k (σ 109 ((k : Nat) : Int))) (k + 1) u) → (∀ u, 0 ≤ u → u < s → υ 112 (u + 2 ^ k) = csF (fun k => ownS (σ 5) th f k (σ 109 ((k : Nat) : Int))) (k + 1) (u + 2 ^ k)) → Fr [112] σ υ → XV l G M_X4_priceOn 1 70 [some (vr 107), some (vi f), some (vr 1), some (vr 45), some (vi k), some (vi (σ 109 k)), some (vl ow), none, some (vi s)] [] υ (fun τ => (∀ s, 0 ≤ s → s < 2 ^ c → τ 112 s = csF (fun k => ownS (σ 5) th f k (σ 109 ((k : Nat) : Int))) c s) ∧ Fr [112] σ τ) := by
        intro ow how j
        induction j with
        | zero =>
          intro s υ hs s0 hI1 hI2 hF
          refine x_iload (E_X4_priceOn_0 41 rfl) rfl ?_
          refine x_iconst (E_X4_priceOn_0 42 rfl) ?_
          refine x_iload (E_X4_priceOn_0 43 rfl) rfl ?_
          refine x_ishl (E_X4_priceOn_0 44 rfl) ?_
          rw [ps]
          refine x_icmp_ge (E_X4_priceOn_0 45 rfl) (by omega) (by omega) (fun c1 => ?_) (fun c1 => ?_)
          · refine x_iinc (E_X4_priceOn_1 2 rfl) rfl rfl ?_
            refine x_goto (E_X4_priceOn_1 3 rfl) ?_
            refine ih (k + 1) _ _ _ υ (by omega) (fun u a b => ?_) hF
            by_cases q : u < 2 ^ k
            · exact hI1 u a q
            · have := hI2 (u - 2 ^ k) (by omega) (by omega)
              rw [show u - 2 ^ k + 2 ^ k = u by omega] at this
              exact this
          · exfalso; omega
        | succ j jh =>
          intro s υ hs s0 hI1 hI2 hF
          have or9 := p2_or (s := s) (k := k) (by omega) (by omega)
          have i9 := hI1 s s0 (by omega)
          refine x_iload (E_X4_priceOn_0 41 rfl) rfl ?_
          refine x_iconst (E_X4_priceOn_0 42 rfl) ?_
          refine x_iload (E_X4_priceOn_0 43 rfl) rfl ?_
          refine x_ishl (E_X4_priceOn_0 44 rfl) ?_
          rw [ps]
          refine x_icmp_ge (E_X4_priceOn_0 45 rfl) (by omega) (by omega) (fun c1 => ?_) (fun c1 => ?_)
          · exfalso; omega
          · refine x_aload_n (E_X4_priceOn_0 46 rfl) rfl ?_
            refine x_getR (E_X4_priceOn_0 47 rfl) fl_X4_24 rfl (by decide) rfl ?_
            refine x_iload (E_X4_priceOn_0 48 rfl) rfl ?_
            refine x_iconst (E_X4_priceOn_0 49 rfl) ?_
            refine x_iload (E_X4_priceOn_0 50 rfl) rfl ?_
            refine x_ishl (E_X4_priceOn_0 51 rfl) ?_
            refine x_ior (E_X4_priceOn_0 52 rfl) ?_
            refine x_aload_n (E_X4_priceOn_0 53 rfl) rfl ?_
            refine x_getR (E_X4_priceOn_0 54 rfl) fl_X4_24 rfl (by decide) rfl ?_
            refine x_iload (E_X4_priceOn_0 55 rfl) rfl ?_
            refine x_lalde (f := υ 112) (E_X4_priceOn_0 56 rfl) rfl (by decide) (by omega) rfl ?_
            refine x_lload (E_X4_priceOn_0 57 rfl) rfl ?_
            refine x_ladd (E_X4_priceOn_0 58 rfl) ?_
            refine x_last (E_X4_priceOn_0 59 rfl) rfl (by decide) (by rw [or9]; omega) ?_
            refine x_iinc (E_X4_priceOn_1 0 rfl) rfl rfl ?_
            refine x_goto (E_X4_priceOn_1 1 rfl) ?_
            rw [or9]
            refine jh (s + 1) _ (by omega) (by omega) (fun u a b => ?_) (fun u a b => ?_) (hF.up (by decide))
            · exact (if_neg (by omega)).trans (hI1 u a b)
            · by_cases q : u = s
              · subst q
                have b9 : 0 ≤ u ∧ u < 2 ^ k := by omega
                rw [csF_top b9]
                rw [csF_low b9] at i9
                refine (if_pos rfl).trans ?_
                show υ 112 u + ow = _
                rw [i9, how]
              · exact (if_neg (by omega)).trans (hI2 u a (by omega))
      refine x_iload (E_X4_priceOn_0 7 rfl) rfl ?_
      refine x_aload_n (E_X4_priceOn_0 8 rfl) rfl ?_
      refine x_getIe (v := τ 107 2) (E_X4_priceOn_0 9 rfl) fl_X4_45 rfl (by decide) rfl ?_
      refine x_icmp_ge (E_X4_priceOn_0 10 rfl) (by omega) (by omega) (fun c1 => ?_) (fun c1 => ?_)
      · exfalso; omega
      · refine x_aload_n (E_X4_priceOn_0 11 rfl) rfl ?_
        refine x_getR (E_X4_priceOn_0 12 rfl) fl_X4_15 rfl (by decide) rfl ?_
        refine x_iload (E_X4_priceOn_0 13 rfl) rfl ?_
        refine x_ialde (f := τ 109) (E_X4_priceOn_0 14 rfl) rfl (by decide) (by omega) rfl ?_
        rw [e9]
        refine x_istore (E_X4_priceOn_0 15 rfl) rfl ?_
        refine x_iload_n (E_X4_priceOn_0 16 rfl) rfl ?_
        refine x_i2l (E_X4_priceOn_0 17 rfl) (by omega) ?_
        refine x_gets (i := 5) (E_X4_priceOn_0 18 rfl) rfl sl_X4_71 ?_
        refine x_iload (E_X4_priceOn_0 19 rfl) rfl ?_
        refine x_ialdS (E_X4_priceOn_0 20 rfl) rfl (show 0 ≤ ((k : Nat) : Int) ∧ ((k : Nat) : Int) < 8 by omega) (by decide) ?_
        refine x_i2l (E_X4_priceOn_0 21 rfl) (show rgi (ofF ((k : Nat) : Int)) by omega) ?_
        refine x_lmul (E_X4_priceOn_0 22 rfl) ?_
        refine x_lstore (E_X4_priceOn_0 23 rfl) rfl ?_
        refine x_aload_n (E_X4_priceOn_0 24 rfl) rfl ?_
        refine x_getR (E_X4_priceOn_0 25 rfl) fl_X4_48 rfl (by decide) rfl ?_
        refine x_iload (E_X4_priceOn_0 26 rfl) rfl ?_
        refine x_ialde (f := τ 5) (E_X4_priceOn_0 27 rfl) rfl (by decide) (by omega) rfl ?_
        refine x_iload_n (E_X4_priceOn_0 28 rfl) rfl ?_
        refine x_icmp_eq (E_X4_priceOn_0 29 rfl) (by omega) (by omega) (fun c2 => ?_) (fun c2 => ?_)
        · refine x_iconst (E_X4_priceOn_0 39 rfl) ?_
          refine x_istore (E_X4_priceOn_0 40 rfl) rfl ?_
          refine inner _ ?_ (2 ^ k : Int).toNat 0 τ (by omega) (by omega) (fun u a b => ?_) (fun u a b => absurd b (by omega)) hF
          · show _ = f * ofF ((k : Nat) : Int) + (if σ 5 (σ 109 k) = f then 0 else th (σ 109 k) * 1679616)
            rw [if_pos (by omega), Int.add_zero]; rfl
          · rw [csF_low ⟨a, b⟩]; exact hI u a b
        · refine x_lload (E_X4_priceOn_0 30 rfl) rfl ?_
          refine x_aload_n (E_X4_priceOn_0 31 rfl) rfl ?_
          refine x_iload (E_X4_priceOn_0 32 rfl) rfl ?_
          refine z_callVi (E_X4_priceOn_0 33 rfl) ml_X4_51 mv_X7_thereOf rfl (by decide) (by decide) (hT τ G9 _ l9.1 l9.2) (by decide) rfl rfl (Nat.le_of_ble_eq_true rfl) (fun z9 τ9 h9 => ?_)
          obtain ⟨rfl, rfl⟩ := h9
          refine x_i2l (E_X4_priceOn_0 34 rfl) (by omega) ?_
          refine x_ldc2 (z := 1679616) (E_X4_priceOn_0 35 rfl) kc_X4_74 (by decide) ?_
          refine x_lmul (E_X4_priceOn_0 36 rfl) ?_
          refine x_ladd (E_X4_priceOn_0 37 rfl) ?_
          refine x_lstore (E_X4_priceOn_0 38 rfl) rfl ?_
          refine x_iconst (E_X4_priceOn_0 39 rfl) ?_
          refine x_istore (E_X4_priceOn_0 40 rfl) rfl ?_
          refine inner _ ?_ (2 ^ k : Int).toNat 0 τ (by omega) (by omega) (fun u a b => ?_) (fun u a b => absurd b (by omega)) hF
          · show _ = f * ofF ((k : Nat) : Int) + (if σ 5 (σ 109 k) = f then 0 else th (σ 109 k) * 1679616)
            rw [if_neg (by omega)]; rfl
          · rw [csF_low ⟨a, b⟩]; exact hI u a b
  refine x_aload_n (E_X4_priceOn_0 0 rfl) rfl ?_
  refine x_getR (E_X4_priceOn_0 1 rfl) fl_X4_24 rfl (by decide) rfl ?_
  refine x_iconst (E_X4_priceOn_0 2 rfl) ?_
  refine x_lconst (z := 0) (E_X4_priceOn_0 3 rfl) rfl ?_
  refine x_last (E_X4_priceOn_0 4 rfl) rfl (by decide) (by omega) ?_
  refine x_iconst (E_X4_priceOn_0 5 rfl) ?_
  refine x_istore (E_X4_priceOn_0 6 rfl) rfl ?_
  refine outer c 0 none none none _ (by omega) (fun s a b => ?_) (Fr.rf.up (by decide))
  obtain rfl : s = 0 := by have : s < 1 := b; omega
  exact rfl

