/-! plan: the model, the pair -/
variable {l : Launch} {G : GC} {σ τ : Nat → Int → Int}

theorem Sd_m {σ τ : Nat → Int → Int} (h : Fr [114, 169, 170, 171, 172, 173, 174] σ τ) (hO : Fo 114 [75] σ τ) : Sd σ τ := by
  refine ⟨⟨fun k hk => h k ((by decide : ∀ k ∈ PCa, k ∉ [114, 169, 170, 171, 172, 173, 174]) k hk), fun q hq => ?_⟩, congrFun (h 17 (by decide)) 7, h 40 (by decide)⟩
  rcases (by decide : ∀ q ∈ PCo, (q.1 = 114 ∧ q.2 ∉ ([75] : List Int)) ∨ q.1 ∉ [114, 169, 170, 171, 172, 173, 174]) q hq with ⟨a, b⟩ | a
  · rw [a]; exact hO q.2 b
  · exact congrFun (h q.1 a) q.2
theorem scI_le {fl so g : Int → Int} {set j : Int} (hg : g j = 0) : ∀ {n : Nat}, 0 ≤ scI fl so set g n j ∧ scI fl so set g n j ≤ (n : Nat)
  | 0 => by
    rw [show scI fl so set g 0 j = g j from rfl, hg]; omega
  | n + 1 => by
    have ih := scI_le (fl := fl) (so := so) (set := set) hg (n := n)
    by_cases b : set / 2 ^ n % 2 = 1
    · rw [show scI fl so set g (n + 1) = scI fl so set g n from if_pos b]; omega
    · rw [show scI fl so set g (n + 1) = u1 (scI fl so set g n) (4 * fl (n : Nat) + so (n : Nat)) (scI fl so set g n (4 * fl (n : Nat) + so (n : Nat)) + 1) from if_neg b]
      by_cases e : j = 4 * fl (n : Nat) + so (n : Nat)
      · subst e; rw [u1_at]; omega
      · rw [u1_ne e]; omega
/-- a pair with three endings, the model's scratch aside -/
theorem pair3d {K1 K2 : MI} {d1 d2 : Nat} {As : List AV} {A B : Prop} {Z : Int} (hR : RR σ) (c1 : CI l G K1 d1 (vr 0 :: As) σ (fun z τ => (¬ A ∧ z = -1001 ∧ τ = σ) ∨ (A ∧ ¬ B ∧ z = -1002 ∧ τ = σ) ∨ (A ∧ B ∧ z = Z ∧ Sc σ τ ∧ RR τ))) (hz : A → B → rgi Z) (c2 : ∀ τ, Sc σ τ → CI l G K2 d2 (vr 114 :: As) τ (fun z υ => (¬ A ∧ z = -1001 ∧ υ = τ) ∨ (A ∧ ¬ B ∧ z = -1002 ∧ Sd τ υ) ∨ (A ∧ B ∧ z = Z ∧ Sd τ υ))) : Pair l G K1 d1 K2 d2 As σ := by
  refine ⟨_, c1, fun z τ q => ?_⟩
  have rf : Sc σ σ := ⟨fun _ _ => rfl, fun _ _ => rfl⟩
  rcases q with ⟨a, rfl, rfl⟩ | ⟨a, b, rfl, rfl⟩ | ⟨a, b, rfl, s, r⟩
  · refine ⟨by omega, CI_mono (c2 _ rf) (fun z υ c => ?_)⟩
    rcases c with ⟨_, rfl, rfl⟩ | ⟨c, -⟩ | ⟨c, -⟩
    · exact ⟨rfl, hR⟩
    · exact absurd c a
    · exact absurd c a
  · refine ⟨by omega, CI_mono (c2 _ rf) (fun z υ c => ?_)⟩
    rcases c with ⟨c, -⟩ | ⟨_, _, rfl, d⟩ | ⟨_, c, -⟩
    · exact absurd a c
    · exact ⟨rfl, d.rr hR⟩
    · exact absurd c b
  · refine ⟨hz a b, CI_mono (c2 _ s) (fun z υ c => ?_)⟩
    rcases c with ⟨c, -⟩ | ⟨_, c, -⟩ | ⟨_, _, rfl, c⟩
    · exact absurd a c
    · exact absurd b c
    · exact ⟨rfl, c.rr r⟩

set_option maxHeartbeats 4000000 in
theorem c_X11_plan {set i : Int} {nl : Nat} (hnl : σ 1 5 = (nl : Nat)) (hR : RR σ) (sc : Sc σ τ) (q1 : rgi set) (q2 : rgi i) : CI l G M_X11_plan 4 [vr 114, vi set, vi i] τ (fun z υ => (¬ ((0 ≤ set ∧ set < 2 ^ nl) ∧ (i = -1 ∨ (0 ≤ i ∧ i < ((nl : Nat) : Int)))) ∧ z = -1001 ∧ υ = τ) ∨ (((0 ≤ set ∧ set < 2 ^ nl) ∧ (i = -1 ∨ (0 ≤ i ∧ i < ((nl : Nat) : Int)))) ∧ ¬ (cqS set nl ≤ 8) ∧ z = -1002 ∧ Sd τ υ) ∨ (((0 ≤ set ∧ set < 2 ^ nl) ∧ (i = -1 ∨ (0 ≤ i ∧ i < ((nl : Nat) : Int)))) ∧ (cqS set nl ≤ 8) ∧ z = plZ (btF (σ 5) (σ 2) (σ 105) (σ 106) (thS (σ 3) (Yq σ (σ 0 0) (σ 0 0))) set nl 6 ((2 ^ cqS set nl - 1 : Nat) : Int)) set i ∧ Sd τ υ)) := by
  have f0 : τ 114 0 = σ 0 0 := (sc.2 (114, 0) (by decide)).trans hR.1.1
  have f1 : τ 114 1 = (nl : Nat) := ((sc.2 (114, 1) (by decide)).trans hR.2.1.1).trans hnl
  have now := hR.now
  have nl12 := hR.lots
  have pn := p12 (nl := nl) (by omega)
  have eqs := hR.2.1.2.2.1
  refine Ct.of rfl (Nat.le_of_ble_eq_true rfl) ?_
  have main : ((0 ≤ set ∧ set < 2 ^ nl) ∧ (i = -1 ∨ (0 ≤ i ∧ i < ((nl : Nat) : Int)))) → ∀ υ0, TmP σ (σ 0 0) (σ 0 0) τ υ0 → XI l G M_X11_plan 4 42 [some (vr 114), some (vi set), some (vi i), none, none, none, none] [] υ0 (fun z υ => (¬ ((0 ≤ set ∧ set < 2 ^ nl) ∧ (i = -1 ∨ (0 ≤ i ∧ i < ((nl : Nat) : Int)))) ∧ z = -1001 ∧ υ = τ) ∨ (((0 ≤ set ∧ set < 2 ^ nl) ∧ (i = -1 ∨ (0 ≤ i ∧ i < ((nl : Nat) : Int)))) ∧ ¬ (cqS set nl ≤ 8) ∧ z = -1002 ∧ Sd τ υ) ∨ (((0 ≤ set ∧ set < 2 ^ nl) ∧ (i = -1 ∨ (0 ≤ i ∧ i < ((nl : Nat) : Int)))) ∧ (cqS set nl ≤ 8) ∧ z = plZ (btF (σ 5) (σ 2) (σ 105) (σ 106) (thS (σ 3) (Yq σ (σ 0 0) (σ 0 0))) set nl 6 ((2 ^ cqS set nl - 1 : Nat) : Int)) set i ∧ Sd τ υ)) := by
    intro hA υ0 h9
    obtain ⟨hs, hi⟩ := hA
    have F9 := h9.2.2.2.2.1
    have O9 := h9.2.2.2.2.2
    have c12 : cqS set nl ≤ nl := cqS_le
    have hb : ∀ y : Nat, y < nl → bAnd (bShr set (y : Nat)) 1 = set / 2 ^ y % 2 := fun y hy => by
      rw [bShr_i (by omega) (by omega), bAnd_1 (by
        have a : 0 ≤ set / 2 ^ ((y : Nat) : Int).toNat := Int.ediv_nonneg hs.1 (by have := @p2_pos ((y : Nat) : Int).toNat; omega)
        have b : set / 2 ^ ((y : Nat) : Int).toNat ≤ set := Int.ediv_le_self _ hs.1
        omega)]
      rfl
    have cell : ∀ υ, Fr [114, 169, 170, 171, 172, 173, 174] υ0 υ → υ 115 = σ 2 ∧ υ 119 = σ 5 ∧ υ 121 = σ 105 ∧ υ 168 = σ 168 := fun υ hF =>
      ⟨((hF 115 (by decide)).trans (F9 115 (by decide))).trans ((sc.1 115 (by decide)).trans eqs.1), ((hF 119 (by decide)).trans (F9 119 (by decide))).trans ((sc.1 119 (by decide)).trans eqs.2.2.2.1), ((hF 121 (by decide)).trans (F9 121 (by decide))).trans ((sc.1 121 (by decide)).trans hR.2.2.1.1), ((hF 168 (by decide)).trans (F9 168 (by decide))).trans (sc.1 168 (by decide))⟩
    have nlq : ∀ υ, Fo 114 [75] υ0 υ → υ 114 1 = (nl : Nat) := fun υ hO => ((hO 1 (by decide)).trans (O9 1 (by decide))).trans f1
    have sdm : ∀ υ, Fr [114, 169, 170, 171, 172, 173, 174] υ0 υ → Fo 114 [75] υ0 υ → Sd τ υ := fun υ hF hO => h9.sd.trans (Sd_m hF hO)
    have hT0 : ∀ υ, Fr [114, 169, 170, 171, 172, 173, 174] υ0 υ → Fo 114 [75] υ0 υ → ∀ x, 0 ≤ x → x < ((nl : Nat) : Int) → CI l G M_X11_there 0 [vr 114, vi x] υ (IP ((thS (σ 3) (Yq σ (σ 0 0) (σ 0 0))) x) υ) := fun υ hF hO x x0 x1 => by
      have e := c_X11_there (l := l) (G := G) (σ := υ) (x := x) (n := nq σ) (nl := σ 1 5) ⟨x0, by omega⟩ (h9.2.2.2.1.low (fun k hk => hF k ((by decide : ∀ k ∈ [122, 123, 125, 126, 127, 128, 116, 133, 134, 135, 136, 137], k ∉ [114, 169, 170, 171, 172, 173, 174]) k hk)) (fun j hj => hO j ((by decide : ∀ j ∈ ([9, 1, 22] : List Int), j ∉ ([75] : List Int)) j hj))) hR.dok
      rw [SM_fr (fun k hk => hF k ((by decide : ∀ k ∈ [130, 131, 142, 143, 144, 145, 146, 147, 148, 149, 150, 151], k ∉ [114, 169, 170, 171, 172, 173, 174]) k hk)), h9.1] at e
      exact e
    have hth := hR.plth hnl
    have hlt := hR.plso hnl
    have p5 : ∀ (P : Int), (0 ≤ P ∧ P < 3600000000000) → P = btF (σ 5) (σ 2) (σ 105) (σ 106) (thS (σ 3) (Yq σ (σ 0 0) (σ 0 0))) set nl 6 ((2 ^ cqS set nl - 1 : Nat) : Int) → cqS set nl ≤ 8 → ∀ (m k : Nat) (n v : Int) (υ : Nat → Int → Int), k + m = cqS set nl → Fr [114, 169, 170, 171, 172, 173, 174] υ0 υ → Fo 114 [75] υ0 υ → υ 114 75 = (cqS set nl : Nat) → (∀ k : Nat, k < cqS set nl → υ 171 (k : Nat) = ckF set nl k) → (∀ k : Nat, k < cqS set nl → υ 170 (k : Nat) = P / ofF (k : Nat) % 6) → ((v = -1 ∧ ∀ j : Nat, j < k → ckF set nl j ≠ i) ∨ ∃ j : Nat, j < k ∧ ckF set nl j = i ∧ v = P / ofF (j : Nat) % 6) → XI l G M_X11_plan 4 221 [some (vr 114), some (vi set), some (vi i), some (vi (n)), some (vi (P / 1679616)), some (vi (v)), some (vi ((k : Nat)))] [] υ (fun z υ => (¬ ((0 ≤ set ∧ set < 2 ^ nl) ∧ (i = -1 ∨ (0 ≤ i ∧ i < ((nl : Nat) : Int)))) ∧ z = -1001 ∧ υ = τ) ∨ (((0 ≤ set ∧ set < 2 ^ nl) ∧ (i = -1 ∨ (0 ≤ i ∧ i < ((nl : Nat) : Int)))) ∧ ¬ (cqS set nl ≤ 8) ∧ z = -1002 ∧ Sd τ υ) ∨ (((0 ≤ set ∧ set < 2 ^ nl) ∧ (i = -1 ∨ (0 ≤ i ∧ i < ((nl : Nat) : Int)))) ∧ (cqS set nl ≤ 8) ∧ z = plZ (btF (σ 5) (σ 2) (σ 105) (σ 106) (thS (σ 3) (Yq σ (σ 0 0) (σ 0 0))) set nl 6 ((2 ^ cqS set nl - 1 : Nat) : Int)) set i ∧ Sd τ υ)) := by
      intro P hP eP hc m
      induction m with
      | zero =>
        intro k n v υ hk hF hO h75 hof hbl hv
        obtain rfl : k = cqS set nl := by omega
        have fin : i = -1 ∨ v = if set / 2 ^ i.toNat % 2 = 1 then P / ofF (cqS set i.toNat : Nat) % 6 else -1 := by
          rcases hi with hi | hi
          · exact Or.inl hi
          · refine Or.inr ?_
            rcases hv with ⟨v1, v2⟩ | ⟨j, j1, j2, j3⟩
            · rw [if_neg]
              · exact v1
              · intro b
                have m : cqS set (i.toNat + 1) ≤ cqS set nl := cqS_mono (by omega)
                rw [cqS_s1 b] at m
                refine v2 (cqS set i.toNat) (by omega) ?_
                rw [ckF_at (by omega) b]; omega
            · obtain ⟨x, x1, x2, x3⟩ := ckF_inv j1
              rw [← x3, ckF_at x1 x2] at j2
              have ex : i.toNat = x := by omega
              rw [ex, if_pos x2, x3]; exact j3
        have vr : rgi v := by
          rcases hv with ⟨v1, v2⟩ | ⟨j, j1, j2, j3⟩
          · omega
          · rw [j3]; have := Int.emod_nonneg (P / ofF (j : Nat)) (show (6 : Int) ≠ 0 by decide); have := Int.emod_lt_of_pos (P / ofF (j : Nat)) (show (0 : Int) < 6 by decide); omega
        refine x_iload (E_X11_plan_1 59 rfl) rfl ?_
        refine x_aload_n (E_X11_plan_2 0 rfl) rfl ?_
        refine x_getIe (v := υ 114 75) (E_X11_plan_2 1 rfl) fl_X11_453 rfl (by decide) rfl ?_
        refine x_icmp_ge (E_X11_plan_2 2 rfl) (by omega) (by omega) (fun c1 => ?_) (fun c1 => ?_)
        · refine x_iload_n (E_X11_plan_2 18 rfl) rfl ?_
          refine x_iconst (E_X11_plan_2 19 rfl) ?_
          refine x_icmp_ne (E_X11_plan_2 20 rfl) (by omega) (by decide) (fun c2 => ?_) (fun c2 => ?_)
          · refine x_iload (E_X11_plan_2 23 rfl) rfl ?_
            refine z_iret (E_X11_plan_2 24 rfl) trivial ?_
            refine Or.inr (Or.inr ⟨⟨hs, hi⟩, hc, ?_, sdm υ hF hO⟩)
            rw [← eP]
            unfold plZ
            rw [if_neg (by omega), if_neg (by omega)]
            exact fin.resolve_left (by omega)
          · refine x_iload (E_X11_plan_2 21 rfl) rfl ?_
            refine x_goto (E_X11_plan_2 22 rfl) ?_
            refine z_iret (E_X11_plan_2 24 rfl) trivial ?_
            refine Or.inr (Or.inr ⟨⟨hs, hi⟩, hc, ?_, sdm υ hF hO⟩)
            rw [← eP]
            unfold plZ
            rw [if_neg (by omega), if_pos (by omega)]
        · exfalso; omega
      | succ m ih =>
        intro k n v υ hk hF hO h75 hof hbl hv
        have o9 := hof k (by omega)
        have b9 := hbl k (by omega)
        have c9 := ckF_rg (set := set) (n := nl) (k := k) (by omega)
        refine x_iload (E_X11_plan_1 59 rfl) rfl ?_
        refine x_aload_n (E_X11_plan_2 0 rfl) rfl ?_
        refine x_getIe (v := υ 114 75) (E_X11_plan_2 1 rfl) fl_X11_453 rfl (by decide) rfl ?_
        refine x_icmp_ge (E_X11_plan_2 2 rfl) (by omega) (by omega) (fun c1 => ?_) (fun c1 => ?_)
        · exfalso; omega
        · refine x_aload_n (E_X11_plan_2 3 rfl) rfl ?_
          refine x_getR (E_X11_plan_2 4 rfl) fl_X11_183 rfl (by decide) rfl ?_
          refine x_iload (E_X11_plan_2 5 rfl) rfl ?_
          refine x_ialde (f := υ 171) (E_X11_plan_2 6 rfl) rfl (by decide) (by omega) rfl ?_
          refine x_iload_n (E_X11_plan_2 7 rfl) rfl ?_
          refine x_icmp_ne (E_X11_plan_2 8 rfl) (by omega) (by omega) (fun c2 => ?_) (fun c2 => ?_)
          · refine x_iload (E_X11_plan_2 14 rfl) rfl ?_
            refine x_istore (E_X11_plan_2 15 rfl) rfl ?_
            refine x_iinc (E_X11_plan_2 16 rfl) rfl rfl ?_
            refine x_goto (E_X11_plan_2 17 rfl) ?_
            refine ih (k + 1) n v υ (by omega) hF hO h75 hof hbl ?_
            rcases hv with ⟨v1, v2⟩ | ⟨j, j1, j2⟩
            · refine Or.inl ⟨v1, fun j hj => ?_⟩
              by_cases e : j = k
              · subst e; omega
              · exact v2 j (by omega)
            · exact Or.inr ⟨j, by omega, j2⟩
          · refine x_aload_n (E_X11_plan_2 9 rfl) rfl ?_
            refine x_getR (E_X11_plan_2 10 rfl) fl_X11_180 rfl (by decide) rfl ?_
            refine x_iload (E_X11_plan_2 11 rfl) rfl ?_
            refine x_ialde (f := υ 170) (E_X11_plan_2 12 rfl) rfl (by decide) (by omega) rfl ?_
            refine x_goto (E_X11_plan_2 13 rfl) ?_
            refine x_istore (E_X11_plan_2 15 rfl) rfl ?_
            refine x_iinc (E_X11_plan_2 16 rfl) rfl rfl ?_
            refine x_goto (E_X11_plan_2 17 rfl) ?_
            rw [b9]
            exact ih (k + 1) n _ υ (by omega) hF hO h75 hof hbl (Or.inr ⟨k, by omega, by omega, rfl⟩)
    have p4 : cqS set nl ≤ 8 → ∀ (g1 g2 : Int → Int), (∀ f : Nat, f < 6 → g1 (f : Nat) = 0) → (∀ f : Nat, f < 24 → g2 (f : Nat) = 0) → ∀ (m y : Nat) (n : Int) (υ : Nat → Int → Int), y + m = nl → Fr [114, 169, 170, 171, 172, 173, 174] υ0 υ → Fo 114 [75] υ0 υ → υ 114 75 = (cqS set y : Nat) → (∀ x : Nat, x < y → set / 2 ^ x % 2 = 1 → υ 171 (cqS set x : Nat) = (x : Nat)) → υ 172 = ldI (σ 5) (thS (σ 3) (Yq σ (σ 0 0) (σ 0 0))) set g1 y → υ 173 = scI (σ 5) (σ 2) set g2 y → XI l G M_X11_plan 4 137 [some (vr 114), some (vi set), some (vi i), some (vi (n)), some (vi ((y : Nat))), none, none] [] υ (fun z υ => (¬ ((0 ≤ set ∧ set < 2 ^ nl) ∧ (i = -1 ∨ (0 ≤ i ∧ i < ((nl : Nat) : Int)))) ∧ z = -1001 ∧ υ = τ) ∨ (((0 ≤ set ∧ set < 2 ^ nl) ∧ (i = -1 ∨ (0 ≤ i ∧ i < ((nl : Nat) : Int)))) ∧ ¬ (cqS set nl ≤ 8) ∧ z = -1002 ∧ Sd τ υ) ∨ (((0 ≤ set ∧ set < 2 ^ nl) ∧ (i = -1 ∨ (0 ≤ i ∧ i < ((nl : Nat) : Int)))) ∧ (cqS set nl ≤ 8) ∧ z = plZ (btF (σ 5) (σ 2) (σ 105) (σ 106) (thS (σ 3) (Yq σ (σ 0 0) (σ 0 0))) set nl 6 ((2 ^ cqS set nl - 1 : Nat) : Int)) set i ∧ Sd τ υ)) := by
      intro hc g1 g2 hg1 hg2 m
      induction m with
      | zero =>
        intro y n υ hy hF hO h75 hof h72 h73
        obtain rfl : y = nl := by omega
        have n1 := nlq υ hO
        obtain ⟨cc1, cc2, cc3, cc4⟩ := cell υ hF
        have hof9 : ∀ k : Nat, k < cqS set y → υ 171 (k : Nat) = ckF set y k := fun k hk => by
          obtain ⟨x, x1, x2, x3⟩ := ckF_inv hk
          rw [← x3, ckF_at x1 x2]; exact hof x x1 x2
        have hbd : BdN 0 (υ 172) (υ 173) := by
          rw [h72, h73]
          refine ⟨fun f a b => ?_, fun j a b => ?_⟩
          · rw [ldI_val (by have := hg1 f.toNat (by omega); rw [show ((f.toNat : Nat) : Int) = f by omega] at this; exact this)]
            have := syS_rg (fl := σ 5) (th := (thS (σ 3) (Yq σ (σ 0 0) (σ 0 0)))) (set := set) (f := f) (n := y) (fun j hj => hth _ (by omega) (by omega))
            omega
          · have := scI_le (fl := σ 5) (so := σ 2) (set := set) (g := g2) (j := j) (by have := hg2 j.toNat (by omega); rw [show ((j.toNat : Nat) : Int) = j by omega] at this; exact this) (n := y)
            omega
        have pe := plan_eq (fl := σ 5) (so := σ 2) (ro := σ 105) (pf := σ 106) (pm := σ 168) (th := (thS (σ 3) (Yq σ (σ 0 0) (σ 0 0)))) (g1 := g1) (g2 := g2) (set := set) (nl := y) hc hth (fun x a b => (hlt x a b).1) hR.2.2.2.2.2.2.2.2.2.2.1 hg1 hg2
        have la := c_X11_layAll (l := l) (G := G) (σ := υ) (th := (thS (σ 3) (Yq σ (σ 0 0) (σ 0 0)))) (set := set) (nl := y) hc (by omega) (fun ω w => hT0 ω (hF.trans w (fun k x => x) (by decide)) (hO.trans (Fo.of (js := []) w (by decide)) (fun k x => x) (by decide))) hth h75 hof9 (by rw [cc1]; exact fun x a b => (hlt x a b).1) (by rw [cc2]; exact fun x a b => (hlt x a b).2) (by rw [cc3]; exact fun f a b => hR.2.2.1.2 f a (by omega)) (by rw [cc4]; exact fun s a b t ht => ((hR.2.2.2.2.2.2.2.2.2.2.1.1 s a b).2 t ht).1) hbd
        rw [cc1, cc2, cc3, cc4, h72, h73, ← pe.1] at la
        refine x_iload (E_X11_plan_1 14 rfl) rfl ?_
        refine x_aload_n (E_X11_plan_1 15 rfl) rfl ?_
        refine x_getIe (v := υ 114 1) (E_X11_plan_1 16 rfl) fl_X11_208 rfl (by decide) rfl ?_
        refine x_icmp_ge (E_X11_plan_1 17 rfl) (by omega) (by omega) (fun c1 => ?_) (fun c1 => ?_)
        · refine x_aload_n (E_X11_plan_1 48 rfl) rfl ?_
          refine z_callVi (E_X11_plan_1 49 rfl) ml_X11_463 mv_X11_layAll rfl (by decide) (by decide) la (by decide) rfl rfl (Nat.le_of_ble_eq_true rfl) (fun z5 υ5 h5 => ?_)
          obtain ⟨F6, bl⟩ := h5
          have br := bl.rg
          have F5 : Fr [114, 169, 170, 171, 172, 173, 174] υ0 υ5 := hF.trans F6 (fun k x => x) (by decide)
          have O5 : Fo 114 [75] υ0 υ5 := hO.trans (Fo.of (js := []) F6 (by decide)) (fun k x => x) (by decide)
          refine x_istore (E_X11_plan_1 50 rfl) rfl ?_
          refine x_iload (E_X11_plan_1 51 rfl) rfl ?_
          refine x_if_ge (E_X11_plan_1 52 rfl) (by omega) (fun c2 => ?_) (fun c2 => ?_)
          · refine x_iconst (E_X11_plan_1 55 rfl) ?_
            refine x_istore (E_X11_plan_1 56 rfl) rfl ?_
            refine x_iconst (E_X11_plan_1 57 rfl) ?_
            refine x_istore (E_X11_plan_1 58 rfl) rfl ?_
            rcases bl with bl | ⟨bl1, bl2, bl3⟩
            · exfalso; omega
            · rw [bl2]
              refine p5 _ bl1 rfl hc (cqS set y) 0 n (-1) υ5 (by omega) F5 O5 (by rw [F6 114 (by decide)]; exact h75) (fun k hk => by rw [F6 171 (by decide)]; exact hof9 k hk) bl3 (Or.inl ⟨rfl, fun j hj => absurd hj (Nat.not_lt_zero _)⟩)
          · refine x_sipush (z := (-1003)) (E_X11_plan_1 53 rfl) (by decide) ?_
            refine z_iret (E_X11_plan_1 54 rfl) trivial ?_
            refine Or.inr (Or.inr ⟨⟨hs, hi⟩, hc, ?_, sdm _ F5 O5⟩)
            exact (if_pos (by omega)).symm
        · exfalso; omega
      | succ m ih =>
        intro y n υ hy hF hO h75 hof h72 h73
        have n1 := nlq υ hO
        have b1 := hb y (by omega)
        obtain ⟨cc1, cc2, cc3, cc4⟩ := cell υ hF
        have lt9 := hlt (y : Nat) (by omega) (by omega)
        have x5 : υ 119 (y : Nat) = σ 5 (y : Nat) := congrFun cc2 _
        have x2 : υ 115 (y : Nat) = σ 2 (y : Nat) := congrFun cc1 _
        refine x_iload (E_X11_plan_1 14 rfl) rfl ?_
        refine x_aload_n (E_X11_plan_1 15 rfl) rfl ?_
        refine x_getIe (v := υ 114 1) (E_X11_plan_1 16 rfl) fl_X11_208 rfl (by decide) rfl ?_
        refine x_icmp_ge (E_X11_plan_1 17 rfl) (by omega) (by omega) (fun c1 => ?_) (fun c1 => ?_)
        · exfalso; omega
        · refine x_iload_n (E_X11_plan_1 18 rfl) rfl ?_
          refine x_iload (E_X11_plan_1 19 rfl) rfl ?_
          refine x_ishr (E_X11_plan_1 20 rfl) ?_
          refine x_iconst (E_X11_plan_1 21 rfl) ?_
          refine x_iand (E_X11_plan_1 22 rfl) ?_
          rw [b1]
          refine x_iconst (E_X11_plan_1 23 rfl) ?_
          refine x_icmp_ne (E_X11_plan_1 24 rfl) (by omega) (by decide) (fun c2 => ?_) (fun c2 => ?_)
          · refine x_aload_n (E_X11_plan_1 38 rfl) rfl ?_
            refine x_iload (E_X11_plan_1 39 rfl) rfl ?_
            refine x_aload_n (E_X11_plan_1 40 rfl) rfl ?_
            refine x_getR (E_X11_plan_1 41 rfl) fl_X11_22 rfl (by decide) rfl ?_
            refine x_iload (E_X11_plan_1 42 rfl) rfl ?_
            refine x_ialde (f := υ 119) (E_X11_plan_1 43 rfl) rfl (by decide) (by omega) rfl ?_
            refine x_iconst (E_X11_plan_1 44 rfl) ?_
            refine z_callVv (E_X11_plan_1 45 rfl) ml_X11_456 mv_X11_put rfl (by decide) (by decide) (c_X11_put (th := (thS (σ 3) (Yq σ (σ 0 0) (σ 0 0)))) (x := (y : Nat)) (f := υ 119 (y : Nat)) (b := 1) (by omega) (by omega) (by rw [x2]; exact lt9.1) (hT0 υ hF hO _ (by omega) (by omega))) (by decide) rfl rfl (Nat.le_of_ble_eq_true rfl) (fun τ3 h3 => ?_)
            refine x_iinc (E_X11_plan_1 46 rfl) rfl rfl ?_
            refine x_goto (E_X11_plan_1 47 rfl) ?_
            have b : ¬ set / 2 ^ y % 2 = 1 := by omega
            rw [x5, x2] at h3
            have r2 : τ3 172 = ldI (σ 5) (thS (σ 3) (Yq σ (σ 0 0) (σ 0 0))) set g1 (y + 1) := by
              rw [h3, upq_ne (by decide), upq_at, h72, Int.one_mul]
              exact (if_neg b).symm
            have r3 : τ3 173 = scI (σ 5) (σ 2) set g2 (y + 1) := by
              rw [h3, upq_at, upq_ne (by decide), h73]
              exact (if_neg b).symm
            refine ih (y + 1) n τ3 (by omega) (by rw [h3]; exact (hF.up (by decide)).up (by decide)) (by rw [h3]; exact (hO.un (by decide)).un (by decide)) (by rw [cqS_s0 b, h3]; exact h75) (fun x hx bx => ?_) r2 r3
            have ne : x ≠ y := fun e => b (e ▸ bx)
            rw [h3]; exact hof x (by omega) bx
          · have b : set / 2 ^ y % 2 = 1 := by omega
            have m8 : cqS set (y + 1) ≤ cqS set nl := cqS_mono (by omega)
            rw [cqS_s1 b] at m8
            refine x_aload_n (E_X11_plan_1 25 rfl) rfl ?_
            refine x_getR (E_X11_plan_1 26 rfl) fl_X11_183 rfl (by decide) rfl ?_
            refine x_aload_n (E_X11_plan_1 27 rfl) rfl ?_
            refine x_getIe (v := υ 114 75) (E_X11_plan_1 28 rfl) fl_X11_453 rfl (by decide) rfl ?_
            refine x_iload (E_X11_plan_1 29 rfl) rfl ?_
            refine x_iast (E_X11_plan_1 30 rfl) rfl (by decide) (by omega) ?_
            refine x_aload_n (E_X11_plan_1 31 rfl) rfl ?_
            refine x_dupr (E_X11_plan_1 32 rfl) ?_
            refine x_getIe (v := υ 114 75) (E_X11_plan_1 33 rfl) fl_X11_453 rfl (by decide) rfl ?_
            refine x_iconst (E_X11_plan_1 34 rfl) ?_
            refine x_iadd (E_X11_plan_1 35 rfl) ?_
            refine x_putI (E_X11_plan_1 36 rfl) fl_X11_453 rfl (by decide) ?_
            refine x_goto (E_X11_plan_1 37 rfl) ?_
            refine x_iinc (E_X11_plan_1 46 rfl) rfl rfl ?_
            refine x_goto (E_X11_plan_1 47 rfl) ?_
            refine ih (y + 1) n _ (by omega) ((hF.up (by decide)).up (by decide)) ((hO.un (by decide)).up (by decide)) ?_ (fun x hx bx => ?_) ?_ ?_
            · rw [upq_eq, if_pos rfl, h75, cqS_s1 b]; push_cast; rfl
            · rw [upq_ne (by decide), upq_eq, h75]
              by_cases e : x = y
              · subst e; rw [if_pos rfl]
              · have mm : cqS set (x + 1) ≤ cqS set y := cqS_mono (by omega)
                rw [cqS_s1 bx] at mm
                rw [if_neg (by omega)]; exact hof x (by omega) bx
            · refine Eq.trans ?_ (if_pos b).symm
              exact h72
            · refine Eq.trans ?_ (if_pos b).symm
              exact h73
    have p3 : cqS set nl ≤ 8 → ∀ (m j : Nat) (n : Int) (υ : Nat → Int → Int), j + m = 24 → Fr [114, 169, 170, 171, 172, 173, 174] υ0 υ → Fo 114 [75] υ0 υ → υ 114 75 = 0 → (∀ f : Nat, f < 6 → υ 172 (f : Nat) = 0) → (∀ t : Nat, t < j → υ 173 (t : Nat) = 0) → XI l G M_X11_plan 4 113 [some (vr 114), some (vi set), some (vi i), some (vi (n)), some (vi ((j : Nat))), none, none] [] υ (fun z υ => (¬ ((0 ≤ set ∧ set < 2 ^ nl) ∧ (i = -1 ∨ (0 ≤ i ∧ i < ((nl : Nat) : Int)))) ∧ z = -1001 ∧ υ = τ) ∨ (((0 ≤ set ∧ set < 2 ^ nl) ∧ (i = -1 ∨ (0 ≤ i ∧ i < ((nl : Nat) : Int)))) ∧ ¬ (cqS set nl ≤ 8) ∧ z = -1002 ∧ Sd τ υ) ∨ (((0 ≤ set ∧ set < 2 ^ nl) ∧ (i = -1 ∨ (0 ≤ i ∧ i < ((nl : Nat) : Int)))) ∧ (cqS set nl ≤ 8) ∧ z = plZ (btF (σ 5) (σ 2) (σ 105) (σ 106) (thS (σ 3) (Yq σ (σ 0 0) (σ 0 0))) set nl 6 ((2 ^ cqS set nl - 1 : Nat) : Int)) set i ∧ Sd τ υ)) := by
      intro hc m
      induction m with
      | zero =>
        intro j n υ hj hF hO h75 h72 h73
        obtain rfl : j = 24 := by omega
        refine x_iload (E_X11_plan_1 2 rfl) rfl ?_
        refine x_bipush (z := 24) (E_X11_plan_1 3 rfl) (by decide) ?_
        refine x_icmp_ge (E_X11_plan_1 4 rfl) (by omega) (by decide) (fun c1 => ?_) (fun c1 => ?_)
        · refine x_iconst (E_X11_plan_1 12 rfl) ?_
          refine x_istore (E_X11_plan_1 13 rfl) rfl ?_
          exact p4 hc (υ 172) (υ 173) h72 h73 nl 0 n υ (by omega) hF hO h75 (fun x hx => absurd hx (Nat.not_lt_zero _)) rfl rfl
        · exfalso; omega
      | succ m ih =>
        intro j n υ hj hF hO h75 h72 h73
        refine x_iload (E_X11_plan_1 2 rfl) rfl ?_
        refine x_bipush (z := 24) (E_X11_plan_1 3 rfl) (by decide) ?_
        refine x_icmp_ge (E_X11_plan_1 4 rfl) (by omega) (by decide) (fun c1 => ?_) (fun c1 => ?_)
        · exfalso; omega
        · refine x_aload_n (E_X11_plan_1 5 rfl) rfl ?_
          refine x_getR (E_X11_plan_1 6 rfl) fl_X11_189 rfl (by decide) rfl ?_
          refine x_iload (E_X11_plan_1 7 rfl) rfl ?_
          refine x_iconst (E_X11_plan_1 8 rfl) ?_
          refine x_iast (E_X11_plan_1 9 rfl) rfl (by decide) (by omega) ?_
          refine x_iinc (E_X11_plan_1 10 rfl) rfl rfl ?_
          refine x_goto (E_X11_plan_1 11 rfl) ?_
          refine ih (j + 1) n _ (by omega) (hF.up (by decide)) (hO.un (by decide)) h75 h72 (fun t ht => ?_)
          by_cases e : t = j
          · subst e; exact if_pos rfl
          · exact (if_neg (by omega)).trans (h73 t (by omega))
    have p2 : cqS set nl ≤ 8 → ∀ (m j : Nat) (n : Int) (υ : Nat → Int → Int), j + m = 6 → Fr [114, 169, 170, 171, 172, 173, 174] υ0 υ → Fo 114 [75] υ0 υ → υ 114 75 = 0 → (∀ f : Nat, f < j → υ 172 (f : Nat) = 0) → XI l G M_X11_plan 4 89 [some (vr 114), some (vi set), some (vi i), some (vi (n)), some (vi ((j : Nat))), none, none] [] υ (fun z υ => (¬ ((0 ≤ set ∧ set < 2 ^ nl) ∧ (i = -1 ∨ (0 ≤ i ∧ i < ((nl : Nat) : Int)))) ∧ z = -1001 ∧ υ = τ) ∨ (((0 ≤ set ∧ set < 2 ^ nl) ∧ (i = -1 ∨ (0 ≤ i ∧ i < ((nl : Nat) : Int)))) ∧ ¬ (cqS set nl ≤ 8) ∧ z = -1002 ∧ Sd τ υ) ∨ (((0 ≤ set ∧ set < 2 ^ nl) ∧ (i = -1 ∨ (0 ≤ i ∧ i < ((nl : Nat) : Int)))) ∧ (cqS set nl ≤ 8) ∧ z = plZ (btF (σ 5) (σ 2) (σ 105) (σ 106) (thS (σ 3) (Yq σ (σ 0 0) (σ 0 0))) set nl 6 ((2 ^ cqS set nl - 1 : Nat) : Int)) set i ∧ Sd τ υ)) := by
      intro hc m
      induction m with
      | zero =>
        intro j n υ hj hF hO h75 h72
        obtain rfl : j = 6 := by omega
        refine x_iload (E_X11_plan_0 50 rfl) rfl ?_
        refine x_bipush (z := 6) (E_X11_plan_0 51 rfl) (by decide) ?_
        refine x_icmp_ge (E_X11_plan_0 52 rfl) (by omega) (by decide) (fun c1 => ?_) (fun c1 => ?_)
        · refine x_iconst (E_X11_plan_1 0 rfl) ?_
          refine x_istore (E_X11_plan_1 1 rfl) rfl ?_
          exact p3 hc 24 0 n υ (by omega) hF hO h75 h72 (fun x hx => absurd hx (Nat.not_lt_zero _))
        · exfalso; omega
      | succ m ih =>
        intro j n υ hj hF hO h75 h72
        refine x_iload (E_X11_plan_0 50 rfl) rfl ?_
        refine x_bipush (z := 6) (E_X11_plan_0 51 rfl) (by decide) ?_
        refine x_icmp_ge (E_X11_plan_0 52 rfl) (by omega) (by decide) (fun c1 => ?_) (fun c1 => ?_)
        · exfalso; omega
        · refine x_aload_n (E_X11_plan_0 53 rfl) rfl ?_
          refine x_getR (E_X11_plan_0 54 rfl) fl_X11_186 rfl (by decide) rfl ?_
          refine x_iload (E_X11_plan_0 55 rfl) rfl ?_
          refine x_iconst (E_X11_plan_0 56 rfl) ?_
          refine x_iast (E_X11_plan_0 57 rfl) rfl (by decide) (by omega) ?_
          refine x_iinc (E_X11_plan_0 58 rfl) rfl rfl ?_
          refine x_goto (E_X11_plan_0 59 rfl) ?_
          refine ih (j + 1) n _ (by omega) (hF.up (by decide)) (hO.un (by decide)) h75 (fun t ht => ?_)
          by_cases e : t = j
          · subst e; exact if_pos rfl
          · exact (if_neg (by omega)).trans (h72 t (by omega))
    have p1 : ∀ (m y : Nat) (υ : Nat → Int → Int), y + m = nl → Fr [114, 169, 170, 171, 172, 173, 174] υ0 υ → Fo 114 [75] υ0 υ → υ 114 75 = 0 → XI l G M_X11_plan 4 52 [some (vr 114), some (vi set), some (vi i), some (vi ((cqS set y : Nat))), some (vi ((y : Nat))), none, none] [] υ (fun z υ => (¬ ((0 ≤ set ∧ set < 2 ^ nl) ∧ (i = -1 ∨ (0 ≤ i ∧ i < ((nl : Nat) : Int)))) ∧ z = -1001 ∧ υ = τ) ∨ (((0 ≤ set ∧ set < 2 ^ nl) ∧ (i = -1 ∨ (0 ≤ i ∧ i < ((nl : Nat) : Int)))) ∧ ¬ (cqS set nl ≤ 8) ∧ z = -1002 ∧ Sd τ υ) ∨ (((0 ≤ set ∧ set < 2 ^ nl) ∧ (i = -1 ∨ (0 ≤ i ∧ i < ((nl : Nat) : Int)))) ∧ (cqS set nl ≤ 8) ∧ z = plZ (btF (σ 5) (σ 2) (σ 105) (σ 106) (thS (σ 3) (Yq σ (σ 0 0) (σ 0 0))) set nl 6 ((2 ^ cqS set nl - 1 : Nat) : Int)) set i ∧ Sd τ υ)) := by
      intro m
      induction m with
      | zero =>
        intro y υ hy hF hO h75
        obtain rfl : y = nl := by omega
        have n1 := nlq υ hO
        refine x_iload (E_X11_plan_0 29 rfl) rfl ?_
        refine x_aload_n (E_X11_plan_0 30 rfl) rfl ?_
        refine x_getIe (v := υ 114 1) (E_X11_plan_0 31 rfl) fl_X11_208 rfl (by decide) rfl ?_
        refine x_icmp_ge (E_X11_plan_0 32 rfl) (by omega) (by omega) (fun c1 => ?_) (fun c1 => ?_)
        · refine x_iload_n (E_X11_plan_0 43 rfl) rfl ?_
          refine x_bipush (z := 8) (E_X11_plan_0 44 rfl) (by decide) ?_
          refine x_icmp_le (E_X11_plan_0 45 rfl) (by omega) (by decide) (fun c2 => ?_) (fun c2 => ?_)
          · refine x_iconst (E_X11_plan_0 48 rfl) ?_
            refine x_istore (E_X11_plan_0 49 rfl) rfl ?_
            exact p2 (by omega) 6 0 _ υ (by omega) hF hO h75 (fun x hx => absurd hx (Nat.not_lt_zero _))
          · refine x_sipush (z := (-1002)) (E_X11_plan_0 46 rfl) (by decide) ?_
            refine z_iret (E_X11_plan_0 47 rfl) trivial ?_
            exact Or.inr (Or.inl ⟨⟨hs, hi⟩, by omega, rfl, sdm _ hF hO⟩)
        · exfalso; omega
      | succ m ih =>
        intro y υ hy hF hO h75
        have n1 := nlq υ hO
        have b1 := hb y (by omega)
        have e1 : ((cqS set (y + 1) : Nat) : Int) = (cqS set y : Nat) + set / 2 ^ y % 2 := by
          by_cases b : set / 2 ^ y % 2 = 1
          · rw [cqS_s1 b]; push_cast; omega
          · rw [cqS_s0 b]; omega
        refine x_iload (E_X11_plan_0 29 rfl) rfl ?_
        refine x_aload_n (E_X11_plan_0 30 rfl) rfl ?_
        refine x_getIe (v := υ 114 1) (E_X11_plan_0 31 rfl) fl_X11_208 rfl (by decide) rfl ?_
        refine x_icmp_ge (E_X11_plan_0 32 rfl) (by omega) (by omega) (fun c1 => ?_) (fun c1 => ?_)
        · exfalso; omega
        · refine x_iload_n (E_X11_plan_0 33 rfl) rfl ?_
          refine x_iload_n (E_X11_plan_0 34 rfl) rfl ?_
          refine x_iload (E_X11_plan_0 35 rfl) rfl ?_
          refine x_ishr (E_X11_plan_0 36 rfl) ?_
          refine x_iconst (E_X11_plan_0 37 rfl) ?_
          refine x_iand (E_X11_plan_0 38 rfl) ?_
          rw [b1]
          refine x_iadd (E_X11_plan_0 39 rfl) ?_
          refine x_istore_n (E_X11_plan_0 40 rfl) rfl ?_
          refine x_iinc (E_X11_plan_0 41 rfl) rfl rfl ?_
          refine x_goto (E_X11_plan_0 42 rfl) ?_
          have q := ih (y + 1) υ (by omega) hF hO h75
          rw [e1] at q
          exact q
    refine x_aload_n (E_X11_plan_0 22 rfl) rfl ?_
    refine x_iconst (E_X11_plan_0 23 rfl) ?_
    refine x_putI (E_X11_plan_0 24 rfl) fl_X11_453 rfl (by decide) ?_
    refine x_iconst (E_X11_plan_0 25 rfl) ?_
    refine x_istore_n (E_X11_plan_0 26 rfl) rfl ?_
    refine x_iconst (E_X11_plan_0 27 rfl) ?_
    refine x_istore (E_X11_plan_0 28 rfl) rfl ?_
    exact p1 nl 0 _ (by omega) (Fr.rf.up (by decide)) (Fo.rf.up (by decide)) (upq_eq.trans (if_pos rfl))
  refine x_iload_n (E_X11_plan_0 0 rfl) rfl ?_
  refine x_if_lt (E_X11_plan_0 1 rfl) (by omega) (fun c1 => ?_) (fun c1 => ?_)
  · refine x_sipush (z := (-1001)) (E_X11_plan_0 14 rfl) (by decide) ?_
    refine z_iret (E_X11_plan_0 15 rfl) trivial ?_
    exact Or.inl ⟨fun q => by omega, rfl, rfl⟩
  · refine x_iload_n (E_X11_plan_0 2 rfl) rfl ?_
    refine x_aload_n (E_X11_plan_0 3 rfl) rfl ?_
    refine x_getIe (v := τ 114 1) (E_X11_plan_0 4 rfl) fl_X11_208 rfl (by decide) rfl ?_
    rw [f1]
    have sh := bShr_i (x := set) (k := ((nl : Nat) : Int)) (by omega) (by omega)
    have sr : 0 ≤ set / 2 ^ ((nl : Nat) : Int).toNat ∧ set / 2 ^ ((nl : Nat) : Int).toNat ≤ set := ⟨Int.ediv_nonneg (by omega) (by have := @p2_pos ((nl : Nat) : Int).toNat; omega), Int.ediv_le_self _ (by omega)⟩
    have sz : set / 2 ^ nl = 0 ↔ set < 2 ^ nl := ⟨fun h => by
      by_cases q : set < 2 ^ nl
      · exact q
      · have := Int.le_ediv_of_mul_le (a := 1) (b := set) (c := 2 ^ nl) (by omega) (by omega)
        omega, fun h => Int.ediv_eq_zero_of_lt (by omega) h⟩
    rw [Int.toNat_natCast] at sh sr
    refine x_ishr (E_X11_plan_0 5 rfl) ?_
    rw [sh]
    refine x_if_ne (E_X11_plan_0 6 rfl) (by omega) (fun c2 => ?_) (fun c2 => ?_)
    · refine x_sipush (z := (-1001)) (E_X11_plan_0 14 rfl) (by decide) ?_
      refine z_iret (E_X11_plan_0 15 rfl) trivial ?_
      exact Or.inl ⟨fun q => c2 (sz.mpr q.1.2), rfl, rfl⟩
    · refine x_iload_n (E_X11_plan_0 7 rfl) rfl ?_
      refine x_iconst (E_X11_plan_0 8 rfl) ?_
      refine x_icmp_eq (E_X11_plan_0 9 rfl) (by omega) (by decide) (fun c3 => ?_) (fun c3 => ?_)
      · have hs9 := sz.mp (by omega)
        refine x_aload_n (E_X11_plan_0 16 rfl) rfl ?_
        refine x_aload_n (E_X11_plan_0 17 rfl) rfl ?_
        refine x_getIe (v := τ 114 0) (E_X11_plan_0 18 rfl) fl_X11_205 rfl (by decide) rfl ?_
        refine x_aload_n (E_X11_plan_0 19 rfl) rfl ?_
        refine x_getIe (v := τ 114 0) (E_X11_plan_0 20 rfl) fl_X11_205 rfl (by decide) rfl ?_
        rw [f0]
        refine z_callVv (E_X11_plan_0 21 rfl) ml_X11_378 mv_X11_tell rfl (by decide) (by decide) (tM hR sc (by omega) (by omega)) (by decide) rfl rfl (Nat.le_of_ble_eq_true rfl) (fun υ0 h0 => ?_)
        exact main ⟨⟨by omega, hs9⟩, by omega⟩ υ0 h0
      · refine x_aload_n (E_X11_plan_0 10 rfl) rfl ?_
        refine x_iload_n (E_X11_plan_0 11 rfl) rfl ?_
        refine z_callVi (E_X11_plan_0 12 rfl) ml_X11_224 mv_X11_noLot rfl (by decide) (by decide) (c_X11_noLot q2 (by omega)) (by decide) rfl rfl (Nat.le_of_ble_eq_true rfl) (fun z9 τ9 h9 => ?_)
        obtain ⟨rfl, ⟨rfl, c4⟩ | ⟨rfl, c4⟩⟩ := h9
        · refine x_if_eq (E_X11_plan_0 13 rfl) (by decide) (fun c9 => absurd c9 (by decide)) (fun _ => ?_)
          refine x_sipush (z := (-1001)) (E_X11_plan_0 14 rfl) (by decide) ?_
          refine z_iret (E_X11_plan_0 15 rfl) trivial ?_
          exact Or.inl ⟨fun q => by omega, rfl, rfl⟩
        · refine x_if_eq (E_X11_plan_0 13 rfl) (by decide) (fun _ => ?_) (fun c9 => absurd (by decide) c9)
          have hs9 := sz.mp (by omega)
          refine x_aload_n (E_X11_plan_0 16 rfl) rfl ?_
          refine x_aload_n (E_X11_plan_0 17 rfl) rfl ?_
          refine x_getIe (v := τ 114 0) (E_X11_plan_0 18 rfl) fl_X11_205 rfl (by decide) rfl ?_
          refine x_aload_n (E_X11_plan_0 19 rfl) rfl ?_
          refine x_getIe (v := τ 114 0) (E_X11_plan_0 20 rfl) fl_X11_205 rfl (by decide) rfl ?_
          rw [f0]
          refine z_callVv (E_X11_plan_0 21 rfl) ml_X11_378 mv_X11_tell rfl (by decide) (by decide) (tM hR sc (by omega) (by omega)) (by decide) rfl rfl (Nat.le_of_ble_eq_true rfl) (fun υ0 h0 => ?_)
          exact main ⟨⟨by omega, hs9⟩, by omega⟩ υ0 h0
theorem pair_plan {set i : Int} (hR : RR σ) (q1 : rgi set) (q2 : rgi i) : Pair l G M_X10_plan 6 M_X11_plan 4 [vi set, vi i] σ := by
  have hnl : σ 1 5 = ((σ 1 5).toNat : Nat) := by have := hR.lots; omega
  exact pair3d hR (c_X10_plan hnl hR q1 q2) (fun _ b => plZ_rg (hR.plrg hnl b).1.1 (hR.plrg hnl b).2) (fun τ sc => c_X11_plan hnl hR sc q1 q2)

