/-! plan: lay, floor by floor -/
variable {l : Launch} {G : GC} {σ : Nat → Int → Int}

/-- the k-th chosen lot below n -/
def ckF (set : Int) : Nat → Nat → Int
  | 0, _ => 0
  | n + 1, k => if set / 2 ^ n % 2 = 1 ∧ cqS set n = k then (n : Nat) else ckF set n k
theorem cqS_s1 {set : Int} {n : Nat} (h : set / 2 ^ n % 2 = 1) : cqS set (n + 1) = cqS set n + 1 := by
  show cqS set n + (if set / 2 ^ n % 2 = 1 then 1 else 0) = _
  rw [if_pos h]
theorem cqS_s0 {set : Int} {n : Nat} (h : ¬ set / 2 ^ n % 2 = 1) : cqS set (n + 1) = cqS set n := by
  show cqS set n + (if set / 2 ^ n % 2 = 1 then 1 else 0) = _
  rw [if_neg h]; rfl
theorem ckF_at {set : Int} : ∀ {n x : Nat}, x < n → set / 2 ^ x % 2 = 1 → ckF set n (cqS set x) = (x : Nat)
  | n + 1, x, h, b => by
    unfold ckF
    by_cases e : x = n
    · subst e; rw [if_pos ⟨b, rfl⟩]
    · have m : cqS set (x + 1) ≤ cqS set n := cqS_mono (by omega)
      rw [cqS_s1 b] at m
      rw [if_neg (fun q => by omega)]
      exact ckF_at (by omega) b
theorem ckF_inv {set : Int} : ∀ {n k : Nat}, k < cqS set n → ∃ x, x < n ∧ set / 2 ^ x % 2 = 1 ∧ cqS set x = k
  | 0, k, h => absurd h (Nat.not_lt_zero _)
  | n + 1, k, h => by
    by_cases b : set / 2 ^ n % 2 = 1
    · rw [cqS_s1 b] at h
      by_cases e : k = cqS set n
      · exact ⟨n, by omega, b, e.symm⟩
      · obtain ⟨x, x1, x2, x3⟩ := ckF_inv (set := set) (n := n) (k := k) (by omega)
        exact ⟨x, by omega, x2, x3⟩
    · rw [cqS_s0 b] at h
      obtain ⟨x, x1, x2, x3⟩ := ckF_inv h
      exact ⟨x, by omega, x2, x3⟩
theorem ckF_rg {set : Int} {n k : Nat} (h : k < cqS set n) : 0 ≤ ckF set n k ∧ ckF set n k < n := by
  obtain ⟨x, x1, x2, rfl⟩ := ckF_inv h
  rw [ckF_at x1 x2]; omega
theorem ChP.lot {set : Int} {n k : Nat} {τ : Nat → Int → Int} (h : ChP set n τ) (hk : k < cqS set n) : τ 109 k = ckF set n k := by
  obtain ⟨x, x1, x2, rfl⟩ := ckF_inv hk
  rw [ckF_at x1 x2]; exact ((h.2 x x1).1 x2).2
theorem csF_cg {g g' : Nat → Int} {s : Int} : ∀ {k : Nat}, (∀ j, j < k → g j = g' j) → csF g k s = csF g' k s
  | 0, _ => rfl
  | k + 1, h => by
    unfold csF
    rw [csF_cg (k := k) (fun j hj => h j (by omega)), h k (by omega)]
theorem srF_cg {g g' : Nat → Int} {s : Int} : ∀ {k : Nat}, (∀ j, j < k → g j = g' j) → srF g k s = srF g' k s
  | 0, _ => rfl
  | k + 1, h => by
    unfold srF
    rw [srF_cg (k := k) (fun j hj => h j (by omega)), h k (by omega)]
theorem csF_0 {g : Nat → Int} : ∀ {k : Nat}, csF g k 0 = 0
  | 0 => rfl
  | k + 1 => by
    unfold csF
    rw [csF_0 (k := k), Int.zero_ediv, if_neg (by decide)]; rfl
/-- the price of the set s on the floor f (2^60: it may not lie there) -/
def pzF (fl so ro pf th : Int → Int) (set : Int) (nl : Nat) (f s : Int) : Int := if s = 0 then 0 else shS pf (ro f - syS fl th set f nl) (soS fl so set f nl) (csF (fun k => th (ckF set nl k)) (cqS set nl) s) (srF (fun k => so (ckF set nl k)) (cqS set nl) s) (csF (fun k => ownS fl th f k (ckF set nl k)) (cqS set nl) s)
/-- the least price of the set s on the floors below f -/
def btF (fl so ro pf th : Int → Int) (set : Int) (nl : Nat) : Nat → Int → Int
  | 0, s => if s = 0 then 0 else 1152921504606846976
  | f + 1, s => if s = 0 then 0 else opF (btF fl so ro pf th set nl f) (pzF fl so ro pf th set nl (f : Nat)) s.toNat
theorem opF_cg {B B' Pz Pz' : Int → Int} {s : Nat} (hs : s < 256) (hB : ∀ u : Nat, u ≤ s → B u = B' u) (hP : ∀ u : Nat, 0 < u → u ≤ s → Pz u = Pz' u) : opF B Pz s = opF B' Pz' s := by
  have sm := (sbq_at hs).2.1
  have go : ∀ (L : List Nat) (acc : Int), (∀ p ∈ L, p ∈ sbL s) → L.foldl (fun acc p => if Pz (p : Nat) < 1152921504606846976 then min acc (B ((s - p : Nat) : Int) + Pz (p : Nat)) else acc) acc = L.foldl (fun acc p => if Pz' (p : Nat) < 1152921504606846976 then min acc (B' ((s - p : Nat) : Int) + Pz' (p : Nat)) else acc) acc := by
    intro L
    induction L with
    | nil => intro acc _; rfl
    | cons p L ih =>
      intro acc hL
      have q := sm p (hL p List.mem_cons_self)
      rw [List.foldl_cons, List.foldl_cons, hB (s - p) (by omega), hP p q.1 q.2.1]
      exact ih _ (fun x hx => hL x (List.mem_cons_of_mem _ hx))
  unfold opF
  rw [hB s (Nat.le_refl _)]
  exact go _ _ (fun p h => h)

theorem pzF_rg {fl so ro pf th : Int → Int} {set : Int} {nl : Nat} {f s : Int} (hc : cqS set nl ≤ 8) (hth : ∀ x, 0 ≤ x → x < ((nl : Nat) : Int) → 0 ≤ th x ∧ th x ≤ 200) (hf : 0 ≤ f ∧ f ≤ 5) : 0 ≤ pzF fl so ro pf th set nl f s ∧ pzF fl so ro pf th set nl f s ≤ 1152921504606846976 := by
  unfold pzF
  split
  · omega
  · refine shS_rg ?_
    have a := csF_rg (g := fun k => ownS fl th f k (ckF set nl k)) (B := 400000000) (by decide) (s := s) (k := cqS set nl) (fun j hj => own_rg hf (by omega) (hth _ (ckF_rg hj).1 (ckF_rg hj).2))
    have b : ((cqS set nl : Nat) : Int) * 400000000 ≤ 8 * 400000000 := Int.mul_le_mul_of_nonneg_right (by omega) (by decide)
    omega
theorem btF_rg {fl so ro pf th : Int → Int} {set : Int} {nl : Nat} (hc : cqS set nl ≤ 8) (hth : ∀ x, 0 ≤ x → x < ((nl : Nat) : Int) → 0 ≤ th x ∧ th x ≤ 200) : ∀ {f : Nat} {s : Nat}, f ≤ 6 → s < 256 → 0 ≤ btF fl so ro pf th set nl f s ∧ btF fl so ro pf th set nl f s ≤ 1152921504606846976
  | 0, s, _, _ => by unfold btF; split <;> omega
  | f + 1, s, hf, h => by
    unfold btF
    split
    · omega
    · rw [Int.toNat_natCast]
      exact opF_rg h (fun u hu => btF_rg hc hth (by omega) (by omega)) (fun u hu => (pzF_rg hc hth (by omega)).1)

set_option maxHeartbeats 2000000 in
theorem c_X4_lay {th : Int → Int} {set : Int} {nl : Nat} (hs : 0 ≤ set ∧ set < 4096) (hn : nl ≤ 12) (hc : cqS set nl ≤ 8) (hT : ∀ υ, Fr [107, 108, 109, 110, 111, 112, 113] σ υ → ∀ x, 0 ≤ x → x < ((nl : Nat) : Int) → CI l G M_X7_thereOf 0 [vr 45, vi x] υ (IP (th x) υ)) (hth : ∀ x, 0 ≤ x → x < ((nl : Nat) : Int) → 0 ≤ th x ∧ th x ≤ 200) (h5 : σ 1 5 = (nl : Nat)) (hso : ∀ x, 0 ≤ x → x < ((nl : Nat) : Int) → 0 ≤ σ 2 x ∧ σ 2 x ≤ 3) (hfl : ∀ x, 0 ≤ x → x < ((nl : Nat) : Int) → 0 ≤ σ 5 x ∧ σ 5 x ≤ 5) (hro : ∀ f, 0 ≤ f → f ≤ 5 → 0 ≤ σ 105 f ∧ σ 105 f ≤ 999) : CV l G M_X4_lay 2 [vr 107, vi set, vr 1, vr 45, vr 105, vr 106] σ (fun τ => ChP set nl τ ∧ (∀ u : Nat, (u : Int) < 2 ^ cqS set nl → τ 113 u = btF (σ 5) (σ 2) (σ 105) (σ 106) th set nl 6 u) ∧ Fr [107, 108, 109, 110, 111, 112, 113] σ τ ∧ Fo 107 [2] σ τ) := by
  have pc := p2_rg hc
  have ps := p2_sh hc
  have fin : ∀ (υ : Nat → Int → Int), ChP set nl υ → (∀ s, 0 ≤ s → s < 2 ^ cqS set nl → υ 110 s = csF (fun k => th (ckF set nl k)) (cqS set nl) s ∧ υ 111 s = srF (fun k => σ 2 (ckF set nl k)) (cqS set nl) s) → Fr [107, 108, 109, 110, 111, 112, 113] σ υ → Fo 107 [2] σ υ → ∀ (m f : Nat) (o8 o9 o10 : Option AV) (τ : Nat → Int → Int), f + m = 6 → (∀ u : Nat, (u : Int) < 2 ^ cqS set nl → τ 113 u = btF (σ 5) (σ 2) (σ 105) (σ 106) th set nl f u) → Fr [112, 113] υ τ → XV l G M_X4_lay 2 59 [some (vr 107), some (vi set), some (vr 1), some (vr 45), some (vr 105), some (vr 106), some (vi (2 ^ cqS set nl)), some (vi (f : Nat)), o8, o9, o10] [] τ (fun τ => ChP set nl τ ∧ (∀ u : Nat, (u : Int) < 2 ^ cqS set nl → τ 113 u = btF (σ 5) (σ 2) (σ 105) (σ 106) th set nl 6 u) ∧ Fr [107, 108, 109, 110, 111, 112, 113] σ τ ∧ Fo 107 [2] σ τ) := by
    intro υ hch hcs hFu hOu m
    induction m with
    | zero =>
      intro f o8 o9 o10 τ hm hI hF
      obtain rfl : f = 6 := by omega
      refine x_iload (E_X4_lay_0 33 rfl) rfl ?_
      refine x_bipush (z := 6) (E_X4_lay_0 34 rfl) (by decide) ?_
      refine x_icmp_ge (E_X4_lay_0 35 rfl) (by omega) (by decide) (fun c1 => ?_) (fun c1 => ?_)
      · refine z_vret (E_X4_lay_1 33 rfl) trivial ?_
        refine ⟨?_, hI, hFu.trans hF (by decide) (by decide), ?_⟩
        · unfold ChP
          rw [hF 107 (by decide), hF 108 (by decide), hF 109 (by decide)]
          exact hch
        · exact hOu.trans (Fo.of (js := []) hF (by decide)) (by decide) (by decide)
      · exfalso; omega
    | succ m ih =>
      intro f o8 o9 o10 τ hm hI hF
      have hG : Fr [107, 108, 109, 110, 111, 112, 113] σ τ := hFu.trans hF (by decide) (by decide)
      have e8 : τ 108 = υ 108 := hF 108 (by decide)
      have e9 : τ 109 = υ 109 := hF 109 (by decide)
      have e7 : τ 107 = υ 107 := hF 107 (by decide)
      have t5 : τ 1 5 = (nl : Nat) := by rw [hG 1 (by decide)]; exact h5
      have hr := hro (f : Nat) (by omega) (by omega)
      have inner : ∀ (k j : Nat), j + k = nl → XV l G M_X4_lay 2 75 [some (vr 107), some (vi set), some (vr 1), some (vr 45), some (vr 105), some (vr 106), some (vi (2 ^ cqS set nl)), some (vi (f : Nat)), some (vi (syS (σ 5) th set (f : Nat) j)), some (vi (soS (σ 5) (σ 2) set (f : Nat) j)), some (vi (j : Nat))] [] τ (fun τ => ChP set nl τ ∧ (∀ u : Nat, (u : Int) < 2 ^ cqS set nl → τ 113 u = btF (σ 5) (σ 2) (σ 105) (σ 106) th set nl 6 u) ∧ Fr [107, 108, 109, 110, 111, 112, 113] σ τ ∧ Fo 107 [2] σ τ) := by
        intro k
        induction k with
        | zero =>
          intro j hj
          obtain rfl : j = nl := by omega
          refine x_iload (E_X4_lay_0 42 rfl) rfl ?_
          refine x_aload_n (E_X4_lay_0 43 rfl) rfl ?_
          refine x_getIe (v := τ 1 5) (E_X4_lay_0 44 rfl) fl_X4_31 rfl (by decide) rfl ?_
          refine x_icmp_ge (E_X4_lay_0 45 rfl) (by omega) (by omega) (fun c1 => ?_) (fun c1 => ?_)
          · have hl9 : ∀ k : Nat, k < cqS set j → 0 ≤ τ 109 k ∧ τ 109 k < ((j : Nat) : Int) := fun k hk => by
              rw [e9, hch.lot hk]; exact ckF_rg hk
            have hso9 : ∀ x, 0 ≤ x → x < ((j : Nat) : Int) → 0 ≤ τ 2 x ∧ τ 2 x ≤ 3 := by rw [hG 2 (by decide)]; exact hso
            have hfl9 : ∀ x, 0 ≤ x → x < ((j : Nat) : Int) → 0 ≤ τ 5 x ∧ τ 5 x ≤ 5 := by rw [hG 5 (by decide)]; exact hfl
            have sy9 := syS_rg (fl := σ 5) (th := th) (set := set) (f := (f : Nat)) (n := j) (fun i hi => hth i (by omega) (by omega))
            refine x_aload_n (E_X4_lay_1 15 rfl) rfl ?_
            refine x_iload (E_X4_lay_1 16 rfl) rfl ?_
            refine x_aload_n (E_X4_lay_1 17 rfl) rfl ?_
            refine x_aload_n (E_X4_lay_1 18 rfl) rfl ?_
            refine z_callVv (E_X4_lay_1 19 rfl) ml_X4_60 mv_X4_priceOn rfl (by decide) (by decide) (c_X4_priceOn (th := th) (nl := ((j : Nat) : Int)) (c := cqS set j) (f := (f : Nat)) (fun ω w => hT ω (hG.trans w (by decide) (by decide))) hth hc (by omega) (by rw [e7]; exact hch.1) hl9 hso9 hfl9 (by omega)) (by decide) rfl rfl (Nat.le_of_ble_eq_true rfl) (fun τ1 h1 => ?_)
            obtain ⟨p1, F1⟩ := h1
            refine x_aload_n (E_X4_lay_1 20 rfl) rfl ?_
            refine x_aload (E_X4_lay_1 21 rfl) rfl ?_
            refine x_iload (E_X4_lay_1 22 rfl) rfl ?_
            
            refine x_ialde (f := τ1 105) (E_X4_lay_1 23 rfl) rfl (by decide) (by omega) rfl ?_
            rw [show τ1 105 = σ 105 from (F1 105 (by decide)).trans (hG 105 (by decide))]
            refine x_iload (E_X4_lay_1 24 rfl) rfl ?_
            refine x_isub (E_X4_lay_1 25 rfl) ?_
            refine x_iload (E_X4_lay_1 26 rfl) rfl ?_
            have ck9 : ∀ s, 0 ≤ s → s < 2 ^ cqS set j → rgi (τ1 110 s) := fun s a b => by
              rw [F1 110 (by decide), hF 110 (by decide), (hcs s a b).1]
              have q := csF_rg (g := fun k => th (ckF set j k)) (B := 200) (by decide) (s := s) (k := cqS set j) (fun i hi => hth _ (ckF_rg hi).1 (ckF_rg hi).2)
              have q2 : ((cqS set j : Nat) : Int) * 200 ≤ 8 * 200 := Int.mul_le_mul_of_nonneg_right (by omega) (by decide)
              omega
            have so9 : ∀ s, 0 ≤ s → s < 2 ^ cqS set j → 0 ≤ τ1 111 s ∧ τ1 111 s < 16 := fun s a b => by
              rw [F1 111 (by decide), hF 111 (by decide), (hcs s a b).2]
              exact srF_rg (fun i hi => hso _ (ckF_rg hi).1 (ckF_rg hi).2)
            refine x_aload (E_X4_lay_1 27 rfl) rfl ?_
            refine z_callVv (E_X4_lay_1 28 rfl) ml_X4_64 mv_X4_shut rfl (by decide) (by decide) (c_X4_shut (free := σ 105 (f : Nat) - syS (σ 5) th set (f : Nat) j) (ss := soS (σ 5) (σ 2) set (f : Nat) j) (c := cqS set j) hc (by rw [F1 107 (by decide), e7]; exact hch.1) (by omega) ck9 so9) (by decide) rfl rfl (Nat.le_of_ble_eq_true rfl) (fun τ2 h2 => ?_)
            obtain ⟨⟨p2, p3⟩, F2⟩ := h2
            have pz9 : ∀ u : Nat, (u : Int) < 2 ^ cqS set j → τ2 112 u = pzF (σ 5) (σ 2) (σ 105) (σ 106) th set j (f : Nat) u := fun u hu => by
              have a1 := p1 (u : Nat) (by omega) hu
              rw [csF_cg (g' := fun k => ownS (σ 5) th (f : Nat) k (ckF set j k)) (fun i hi => by rw [e9, hch.lot hi, hG 5 (by decide)])] at a1
              unfold pzF
              by_cases u0 : u = 0
              · subst u0
                rw [if_pos (by rfl)]
                refine p2.trans (a1.trans ?_)
                exact csF_0
              · rw [if_neg (by omega), p3 (u : Nat) (by omega) hu, F1 110 (by decide), hF 110 (by decide), (hcs (u : Nat) (by omega) hu).1, F1 111 (by decide), hF 111 (by decide), (hcs (u : Nat) (by omega) hu).2, F1 106 (by decide), hG 106 (by decide), a1]
            have e13 : τ2 113 = τ 113 := (F2 113 (by decide)).trans (F1 113 (by decide))
            have bb9 : ∀ u, 0 ≤ u → u < 2 ^ cqS set j → 0 ≤ τ2 113 u ∧ τ2 113 u ≤ 1152921504606846976 := fun u a b => by
              have := hI u.toNat (by omega)
              rw [show ((u.toNat : Nat) : Int) = u by omega] at this
              rw [e13, this]
              have r := btF_rg (fl := σ 5) (so := σ 2) (ro := σ 105) (pf := σ 106) hc hth (f := f) (s := u.toNat) (by omega) (by omega)
              rw [show ((u.toNat : Nat) : Int) = u by omega] at r
              exact r
            have pp9 : ∀ u, 0 ≤ u → u < 2 ^ cqS set j → 0 ≤ τ2 112 u ∧ τ2 112 u ≤ 1152921504606846976 := fun u a b => by
              have := pz9 u.toNat (by omega)
              rw [show ((u.toNat : Nat) : Int) = u by omega] at this
              rw [this]
              exact pzF_rg hc hth (by omega)
            refine x_aload_n (E_X4_lay_1 29 rfl) rfl ?_
            refine z_callVv (E_X4_lay_1 30 rfl) ml_X4_68 mv_X4_openFloor rfl (by decide) (by decide) (c_X4_openFloor (c := cqS set j) hc (by rw [F2 107 (by decide), F1 107 (by decide), e7]; exact hch.1) bb9 pp9) (by decide) rfl rfl (Nat.le_of_ble_eq_true rfl) (fun τ3 h3 => ?_)
            obtain ⟨⟨p4, p5⟩, F3⟩ := h3
            refine x_iinc (E_X4_lay_1 31 rfl) rfl rfl ?_
            refine x_goto (E_X4_lay_1 32 rfl) ?_
            refine ih (f + 1) _ _ _ τ3 (by omega) (fun u hu => ?_) ((hF.trans (ds := [112]) (es := [112, 113]) F1 (by decide) (by decide)).trans (F2.trans (es := [112, 113]) F3 (by decide) (by decide)) (by decide) (by decide))
            unfold btF
            by_cases u0 : u = 0
            · subst u0
              rw [if_pos (by rfl)]
              refine p4.trans ?_
              rw [e13]
              refine (hI 0 hu).trans ?_
              cases f <;> exact if_pos rfl
            · rw [if_neg (by omega), Int.toNat_natCast, p5 u (by omega) hu]
              exact opF_cg (by omega) (fun v hv => by rw [e13]; exact hI v (by omega)) (fun v _ hv => pz9 v (by omega))
          · exfalso; omega
        | succ k jh =>
          intro j hj
          have c8 := hch.2 j (by omega)
          have x8 : τ 108 (j : Nat) = υ 108 (j : Nat) := congrFun e8 _
          have x5 : τ 5 (j : Nat) = σ 5 (j : Nat) := congrFun (hG 5 (by decide)) _
          have f5 := hfl (j : Nat) (by omega) (by omega)
          have m8 : cqS set j ≤ cqS set nl := cqS_mono (by omega)
          have g8 : -1 ≤ τ 108 (j : Nat) ∧ τ 108 (j : Nat) ≤ 8 := by
            by_cases b : set / 2 ^ j % 2 = 1
            · have := (c8.1 b).1; omega
            · have := c8.2 b; omega
          refine x_iload (E_X4_lay_0 42 rfl) rfl ?_
          refine x_aload_n (E_X4_lay_0 43 rfl) rfl ?_
          refine x_getIe (v := τ 1 5) (E_X4_lay_0 44 rfl) fl_X4_31 rfl (by decide) rfl ?_
          refine x_icmp_ge (E_X4_lay_0 45 rfl) (by omega) (by omega) (fun c1 => ?_) (fun c1 => ?_)
          · exfalso; omega
          · refine x_aload_n (E_X4_lay_0 46 rfl) rfl ?_
            refine x_getR (E_X4_lay_0 47 rfl) fl_X4_9 rfl (by decide) rfl ?_
            refine x_iload (E_X4_lay_0 48 rfl) rfl ?_
            refine x_ialde (f := τ 108) (E_X4_lay_0 49 rfl) rfl (by decide) (by omega) rfl ?_
            refine x_iconst (E_X4_lay_0 50 rfl) ?_
            refine x_icmp_ne (E_X4_lay_0 51 rfl) (by omega) (by decide) (fun c2 => ?_) (fun c2 => ?_)
            · refine x_iinc (E_X4_lay_1 13 rfl) rfl rfl ?_
              refine x_goto (E_X4_lay_1 14 rfl) ?_
              have q := jh (j + 1) (by omega)
              rw [show syS (σ 5) th set (f : Nat) (j + 1) = _ from if_neg (fun q => by have := c8.2 q.1; omega), show soS (σ 5) (σ 2) set (f : Nat) (j + 1) = _ from if_neg (fun q => by have := c8.2 q.1; omega)] at q
              exact q
            · refine x_aload_n (E_X4_lay_0 52 rfl) rfl ?_
              refine x_getR (E_X4_lay_0 53 rfl) fl_X4_48 rfl (by decide) rfl ?_
              refine x_iload (E_X4_lay_0 54 rfl) rfl ?_
              refine x_ialde (f := τ 5) (E_X4_lay_0 55 rfl) rfl (by decide) (by omega) rfl ?_
              refine x_iload (E_X4_lay_0 56 rfl) rfl ?_
              refine x_icmp_ne (E_X4_lay_0 57 rfl) (by omega) (by omega) (fun c3 => ?_) (fun c3 => ?_)
              · refine x_iinc (E_X4_lay_1 13 rfl) rfl rfl ?_
                refine x_goto (E_X4_lay_1 14 rfl) ?_
                have q := jh (j + 1) (by omega)
                rw [show syS (σ 5) th set (f : Nat) (j + 1) = _ from if_neg (fun q => by have := q.2; omega), show soS (σ 5) (σ 2) set (f : Nat) (j + 1) = _ from if_neg (fun q => by have := q.2; omega)] at q
                exact q
              · refine x_iload (E_X4_lay_0 58 rfl) rfl ?_
                refine x_aload_n (E_X4_lay_0 59 rfl) rfl ?_
                refine x_iload (E_X4_lay_1 0 rfl) rfl ?_
                refine z_callVi (E_X4_lay_1 1 rfl) ml_X4_51 mv_X7_thereOf rfl (by decide) (by decide) (hT τ hG (j : Nat) (by omega) (by omega)) (by decide) rfl rfl (Nat.le_of_ble_eq_true rfl) (fun z9 τ9 h9 => ?_)
                obtain ⟨rfl, rfl⟩ := h9
                refine x_iadd (E_X4_lay_1 2 rfl) ?_
                refine x_istore (E_X4_lay_1 3 rfl) rfl ?_
                refine x_iload (E_X4_lay_1 4 rfl) rfl ?_
                refine x_iconst (E_X4_lay_1 5 rfl) ?_
                refine x_aload_n (E_X4_lay_1 6 rfl) rfl ?_
                refine x_getR (E_X4_lay_1 7 rfl) fl_X4_57 rfl (by decide) rfl ?_
                refine x_iload (E_X4_lay_1 8 rfl) rfl ?_
                refine x_ialde (f := τ 2) (E_X4_lay_1 9 rfl) rfl (by decide) (by omega) rfl ?_
                rw [congrFun (hG 2 (by decide)) _]
                refine x_ishl (E_X4_lay_1 10 rfl) ?_
                refine x_ior (E_X4_lay_1 11 rfl) ?_
                refine x_istore (E_X4_lay_1 12 rfl) rfl ?_
                refine x_iinc (E_X4_lay_1 13 rfl) rfl rfl ?_
                refine x_goto (E_X4_lay_1 14 rfl) ?_
                have q := jh (j + 1) (by omega)
                rw [show syS (σ 5) th set (f : Nat) (j + 1) = _ from if_pos ⟨fun b => by have := (c8.1 b).1; omega, by omega⟩, show soS (σ 5) (σ 2) set (f : Nat) (j + 1) = _ from if_pos ⟨fun b => by have := (c8.1 b).1; omega, by omega⟩] at q
                exact q
      refine x_iload (E_X4_lay_0 33 rfl) rfl ?_
      refine x_bipush (z := 6) (E_X4_lay_0 34 rfl) (by decide) ?_
      refine x_icmp_ge (E_X4_lay_0 35 rfl) (by omega) (by decide) (fun c1 => ?_) (fun c1 => ?_)
      · exfalso; omega
      · refine x_iconst (E_X4_lay_0 36 rfl) ?_
        refine x_istore (E_X4_lay_0 37 rfl) rfl ?_
        refine x_iconst (E_X4_lay_0 38 rfl) ?_
        refine x_istore (E_X4_lay_0 39 rfl) rfl ?_
        refine x_iconst (E_X4_lay_0 40 rfl) ?_
        refine x_istore (E_X4_lay_0 41 rfl) rfl ?_
        exact inner nl 0 (by omega)
  refine Ct.of rfl (Nat.le_of_ble_eq_true rfl) ?_
  refine x_aload_n (E_X4_lay_0 0 rfl) rfl ?_
  refine x_iload_n (E_X4_lay_0 1 rfl) rfl ?_
  refine x_aload_n (E_X4_lay_0 2 rfl) rfl ?_
  refine x_getIe (v := σ 1 5) (E_X4_lay_0 3 rfl) fl_X4_31 rfl (by decide) rfl ?_
  rw [h5]
  refine z_callVv (E_X4_lay_0 4 rfl) ml_X4_37 mv_X4_choose rfl (by decide) (by decide) (c_X4_choose hs hn hc) (by decide) rfl rfl (Nat.le_of_ble_eq_true rfl) (fun τ1 h1 => ?_)
  obtain ⟨hch, F1, O1⟩ := h1
  refine x_aload_n (E_X4_lay_0 5 rfl) rfl ?_
  refine x_aload_n (E_X4_lay_0 6 rfl) rfl ?_
  refine x_aload_n (E_X4_lay_0 7 rfl) rfl ?_
  refine z_callVv (E_X4_lay_0 8 rfl) ml_X4_41 mv_X4_gather rfl (by decide) (by decide) (c_X4_gather (th := th) (nl := ((nl : Nat) : Int)) (c := cqS set nl) (fun ω w => hT ω (F1.trans w (by decide) (by decide))) hth hc (by omega) hch.1 (fun k hk => by rw [hch.lot hk]; exact ckF_rg hk) (by rw [F1 2 (by decide)]; exact hso)) (by decide) rfl rfl (Nat.le_of_ble_eq_true rfl) (fun τ2 h2 => ?_)
  obtain ⟨g1, F2⟩ := h2
  refine x_iconst (E_X4_lay_0 9 rfl) ?_
  refine x_aload_n (E_X4_lay_0 10 rfl) rfl ?_
  refine x_getIe (v := τ2 107 2) (E_X4_lay_0 11 rfl) fl_X4_45 rfl (by decide) rfl ?_
  rw [show τ2 107 2 = (cqS set nl : Nat) by rw [F2 107 (by decide)]; exact hch.1]
  refine x_ishl (E_X4_lay_0 12 rfl) ?_
  rw [ps]
  refine x_istore (E_X4_lay_0 13 rfl) rfl ?_
  refine x_iconst (E_X4_lay_0 14 rfl) ?_
  refine x_istore (E_X4_lay_0 15 rfl) rfl ?_
  have hch2 : ChP set nl τ2 := by
    unfold ChP
    rw [F2 107 (by decide), F2 108 (by decide), F2 109 (by decide)]
    exact hch
  have hcs2 : ∀ s, 0 ≤ s → s < 2 ^ cqS set nl → τ2 110 s = csF (fun k => th (ckF set nl k)) (cqS set nl) s ∧ τ2 111 s = srF (fun k => σ 2 (ckF set nl k)) (cqS set nl) s := fun s a b => by
    obtain ⟨u1, u2⟩ := g1 s a b
    rw [u1, u2]
    exact ⟨csF_cg (fun i hi => by rw [hch.lot hi]), srF_cg (fun i hi => by rw [hch.lot hi, F1 2 (by decide)])⟩
  have F12 : Fr [107, 108, 109, 110, 111, 112, 113] σ τ2 := F1.trans F2 (by decide) (by decide)
  have go := fin τ2 hch2 hcs2 F12 (O1.trans (Fo.of (js := []) F2 (by decide)) (by decide) (by decide))
  clear fin
  have loop : ∀ (k : Nat) (i : Int) (τ : Nat → Int → Int), i = 2 ^ cqS set nl - k → 1 ≤ i → (∀ u, 1 ≤ u → u < i → τ 113 u = 1152921504606846976) → Fr [112, 113] τ2 τ → XV l G M_X4_lay 2 26 [some (vr 107), some (vi set), some (vr 1), some (vr 45), some (vr 105), some (vr 106), some (vi (2 ^ cqS set nl)), some (vi i), none, none, none] [] τ (fun τ => ChP set nl τ ∧ (∀ u : Nat, (u : Int) < 2 ^ cqS set nl → τ 113 u = btF (σ 5) (σ 2) (σ 105) (σ 106) th set nl 6 u) ∧ Fr [107, 108, 109, 110, 111, 112, 113] σ τ ∧ Fo 107 [2] σ τ) := by
    intro k
    induction k with
    | zero =>
      intro i τ hi i1 hI hF
      refine x_iload (E_X4_lay_0 16 rfl) rfl ?_
      refine x_iload (E_X4_lay_0 17 rfl) rfl ?_
      refine x_icmp_ge (E_X4_lay_0 18 rfl) (by omega) (by omega) (fun c1 => ?_) (fun c1 => ?_)
      · refine x_aload_n (E_X4_lay_0 26 rfl) rfl ?_
        refine x_getR (E_X4_lay_0 27 rfl) fl_X4_28 rfl (by decide) rfl ?_
        refine x_iconst (E_X4_lay_0 28 rfl) ?_
        refine x_lconst (z := 0) (E_X4_lay_0 29 rfl) rfl ?_
        refine x_last (E_X4_lay_0 30 rfl) rfl (by decide) (by omega) ?_
        refine x_iconst (E_X4_lay_0 31 rfl) ?_
        refine x_istore (E_X4_lay_0 32 rfl) rfl ?_
        refine go 6 0 _ _ _ _ (by omega) (fun u hu => ?_) (hF.up (by decide))
        unfold btF
        by_cases u0 : u = 0
        · subst u0
          rw [if_pos (by rfl)]
          rw [upq_eq, if_pos (by rfl)]
        · rw [if_neg (by omega)]
          exact (if_neg (by omega)).trans (hI (u : Nat) (by omega) (by omega))
      · exfalso; omega
    | succ k ih =>
      intro i τ hi i1 hI hF
      refine x_iload (E_X4_lay_0 16 rfl) rfl ?_
      refine x_iload (E_X4_lay_0 17 rfl) rfl ?_
      refine x_icmp_ge (E_X4_lay_0 18 rfl) (by omega) (by omega) (fun c1 => ?_) (fun c1 => ?_)
      · exfalso; omega
      · refine x_aload_n (E_X4_lay_0 19 rfl) rfl ?_
        refine x_getR (E_X4_lay_0 20 rfl) fl_X4_28 rfl (by decide) rfl ?_
        refine x_iload (E_X4_lay_0 21 rfl) rfl ?_
        refine x_ldc2 (z := 1152921504606846976) (E_X4_lay_0 22 rfl) kc_X4_46 (by decide) ?_
        refine x_last (E_X4_lay_0 23 rfl) rfl (by decide) (by omega) ?_
        refine x_iinc (E_X4_lay_0 24 rfl) rfl rfl ?_
        refine x_goto (E_X4_lay_0 25 rfl) ?_
        refine ih (i + 1) _ (by omega) (by omega) (fun u a b => ?_) (hF.up (by decide))
        by_cases e : u = i
        · subst e
          exact if_pos rfl
        · exact (if_neg e).trans (hI u a (by omega))
  exact loop ((2 : Int) ^ cqS set nl - 1).toNat 1 τ2 (by omega) (by omega) (fun u a b => absurd a (by omega)) Fr.rf

