/-! the law: every call on both, the loop -/
variable {l : Launch} {G : GC} {σ : Nat → Int → Int} {Q : Option AV → WS → Prop}

theorem w_callVi {M : MI} {R : Room} {pc nx tg : Nat} {L : List (Option AV)} {st rest : List AV} {ca sl : Nat} {K : MI} {d n idx : Nat} {As : List AV} {P : Int → (Nat → Int → Int) → Prop} {k ci N : Nat} (hd : dok M.2.1 (pc, .invokevirtual idx, 3, nx, tg)) (hlk : Cond.methodLink M.1.cls idx K.1 ∈ tbG) (hm : mvq K n) (hs : shp k = (ci, N)) (hk : k < 175) (hcc : ci < 12 ∧ vwCl[ci]?.map (·.1) = some K.1.cls) (hct : CI l G K d (vr k :: As) σ P) (hR : d + 1 ≤ R.frames ∧ 8 + (K.2.2.1 + 11) + 40 * d ≤ R.locals) (hca : ca ≤ R.cells ∧ sl ≤ R.slots) (hst : st = As.reverse ++ vr k :: rest) (hn : As.length = n) (hcat : catq rest ≤ 8)
    (kk : ∀ z τ, P z τ → RunX l G M R nx L (vi z :: rest) (Wd τ) ca sl Q) : RunX l G M R pc L st (Wd σ) ca sl Q := by
  refine x_callV hd hlk hm hs hk hcc hct hR hca hst hn hcat (fun r S' hq => ?_)
  obtain ⟨z, τ, rfl, rfl, hP⟩ := hq
  exact kk z τ hP
theorem lOr_rg {x y : Int} : rgl (lOr x y) := ⟨Int64.le_toInt _, Int64.toInt_lt _⟩

theorem lw_0 (hL : G.2.2.2.2.1 ≤ 3584) (hx : ∀ j, rgi (G.2.2.2.2.2 j)) (hR : RR σ) {i : Nat} (hi : i + 7 ≤ G.2.2.2.2.1) (kk : ∀ τ, RR τ → RunX l G M_L_law room_1 1470 [some (vr 1060), some (vr 0), some (vr 114), some (vi (i : Nat))] [] (Wd τ) 174 10272 Q) : RunX l G M_L_law room_1 176 [some (vr 1060), some (vr 0), some (vr 114), some (vi (i : Nat))] [] (Wd σ) 174 10272 Q := by
  refine x_aload_n (E_L_law_0 22 rfl) rfl ?_
  refine x_aload_n (E_L_law_0 23 rfl) rfl ?_
  refine x_iload_n (E_L_law_0 24 rfl) rfl ?_
  refine x_iconst (E_L_law_0 25 rfl) ?_
  refine x_iadd (E_L_law_0 26 rfl) ?_
  refine x_sld (E_L_law_0 27 rfl) (by omega) (by omega) ?_
  obtain ⟨P, c1, c2⟩ := pair_go (l := l) (G := G) (n := (G.2.2.2.2.2 (((i : Nat) : Int) + 1).toNat)) hR (hx _)
  refine w_callVi (E_L_law_0 28 rfl) ml_L_13 mv_X10_go rfl (by decide) (by decide) c1 (by decide) (by decide) rfl rfl (by decide) (fun z τ hP => ?_)
  obtain ⟨zr, c2⟩ := c2 z τ hP
  refine x_aload_n (E_L_law_0 29 rfl) rfl ?_
  refine x_aload_n (E_L_law_0 30 rfl) rfl ?_
  refine x_iload_n (E_L_law_0 31 rfl) rfl ?_
  refine x_iconst (E_L_law_0 32 rfl) ?_
  refine x_iadd (E_L_law_0 33 rfl) ?_
  refine x_sld (E_L_law_0 34 rfl) (by omega) (by omega) ?_
  refine w_callVi (E_L_law_0 35 rfl) ml_L_17 mv_X11_go rfl (by decide) (by decide) c2 (by decide) (by decide) rfl rfl (Nat.le_of_ble_eq_true rfl) (fun z2 τ2 hP2 => ?_)
  obtain ⟨rfl, hR2⟩ := hP2
  exact x_icmp_eq (E_L_law_0 36 rfl) zr zr (fun _ => kk τ2 hR2) (fun q => absurd rfl q)

theorem lw_1 (hL : G.2.2.2.2.1 ≤ 3584) (hx : ∀ j, rgi (G.2.2.2.2.2 j)) (hR : RR σ) {i : Nat} (hi : i + 7 ≤ G.2.2.2.2.1) (kk : ∀ τ, RR τ → RunX l G M_L_law room_1 1470 [some (vr 1060), some (vr 0), some (vr 114), some (vi (i : Nat))] [] (Wd τ) 174 10272 Q) : RunX l G M_L_law room_1 199 [some (vr 1060), some (vr 0), some (vr 114), some (vi (i : Nat))] [] (Wd σ) 174 10272 Q := by
  refine x_aload_n (E_L_law_0 39 rfl) rfl ?_
  refine x_aload_n (E_L_law_0 40 rfl) rfl ?_
  refine x_iload_n (E_L_law_0 41 rfl) rfl ?_
  refine x_iconst (E_L_law_0 42 rfl) ?_
  refine x_iadd (E_L_law_0 43 rfl) ?_
  refine x_sld (E_L_law_0 44 rfl) (by omega) (by omega) ?_
  refine x_aload_n (E_L_law_0 45 rfl) rfl ?_
  refine x_iload_n (E_L_law_0 46 rfl) rfl ?_
  refine x_iconst (E_L_law_0 47 rfl) ?_
  refine x_iadd (E_L_law_0 48 rfl) ?_
  refine x_sld (E_L_law_0 49 rfl) (by omega) (by omega) ?_
  refine x_aload_n (E_L_law_0 50 rfl) rfl ?_
  refine x_iload_n (E_L_law_0 51 rfl) rfl ?_
  refine x_iconst (E_L_law_0 52 rfl) ?_
  refine x_iadd (E_L_law_0 53 rfl) ?_
  refine x_sld (E_L_law_0 54 rfl) (by omega) (by omega) ?_
  refine x_aload_n (E_L_law_0 55 rfl) rfl ?_
  refine x_iload_n (E_L_law_0 56 rfl) rfl ?_
  refine x_iconst (E_L_law_0 57 rfl) ?_
  refine x_iadd (E_L_law_0 58 rfl) ?_
  refine x_sld (E_L_law_0 59 rfl) (by omega) (by omega) ?_
  refine x_aload_n (E_L_law_1 0 rfl) rfl ?_
  refine x_iload_n (E_L_law_1 1 rfl) rfl ?_
  refine x_iconst (E_L_law_1 2 rfl) ?_
  refine x_iadd (E_L_law_1 3 rfl) ?_
  refine x_sld (E_L_law_1 4 rfl) (by omega) (by omega) ?_
  obtain ⟨P, c1, c2⟩ := pair_lot (l := l) (G := G) (so := (G.2.2.2.2.2 (((i : Nat) : Int) + 1).toNat)) (n := (G.2.2.2.2.2 (((i : Nat) : Int) + 2).toNat)) (w := (G.2.2.2.2.2 (((i : Nat) : Int) + 3).toNat)) (h := (G.2.2.2.2.2 (((i : Nat) : Int) + 4).toNat)) (f := (G.2.2.2.2.2 (((i : Nat) : Int) + 5).toNat)) hR (hx _) (hx _) (hx _) (hx _) (hx _)
  refine w_callVi (E_L_law_1 5 rfl) ml_L_18 mv_X10_lot rfl (by decide) (by decide) c1 (by decide) (by decide) rfl rfl (by decide) (fun z τ hP => ?_)
  obtain ⟨zr, c2⟩ := c2 z τ hP
  refine x_aload_n (E_L_law_1 6 rfl) rfl ?_
  refine x_aload_n (E_L_law_1 7 rfl) rfl ?_
  refine x_iload_n (E_L_law_1 8 rfl) rfl ?_
  refine x_iconst (E_L_law_1 9 rfl) ?_
  refine x_iadd (E_L_law_1 10 rfl) ?_
  refine x_sld (E_L_law_1 11 rfl) (by omega) (by omega) ?_
  refine x_aload_n (E_L_law_1 12 rfl) rfl ?_
  refine x_iload_n (E_L_law_1 13 rfl) rfl ?_
  refine x_iconst (E_L_law_1 14 rfl) ?_
  refine x_iadd (E_L_law_1 15 rfl) ?_
  refine x_sld (E_L_law_1 16 rfl) (by omega) (by omega) ?_
  refine x_aload_n (E_L_law_1 17 rfl) rfl ?_
  refine x_iload_n (E_L_law_1 18 rfl) rfl ?_
  refine x_iconst (E_L_law_1 19 rfl) ?_
  refine x_iadd (E_L_law_1 20 rfl) ?_
  refine x_sld (E_L_law_1 21 rfl) (by omega) (by omega) ?_
  refine x_aload_n (E_L_law_1 22 rfl) rfl ?_
  refine x_iload_n (E_L_law_1 23 rfl) rfl ?_
  refine x_iconst (E_L_law_1 24 rfl) ?_
  refine x_iadd (E_L_law_1 25 rfl) ?_
  refine x_sld (E_L_law_1 26 rfl) (by omega) (by omega) ?_
  refine x_aload_n (E_L_law_1 27 rfl) rfl ?_
  refine x_iload_n (E_L_law_1 28 rfl) rfl ?_
  refine x_iconst (E_L_law_1 29 rfl) ?_
  refine x_iadd (E_L_law_1 30 rfl) ?_
  refine x_sld (E_L_law_1 31 rfl) (by omega) (by omega) ?_
  refine w_callVi (E_L_law_1 32 rfl) ml_L_22 mv_X11_lot rfl (by decide) (by decide) c2 (by decide) (by decide) rfl rfl (Nat.le_of_ble_eq_true rfl) (fun z2 τ2 hP2 => ?_)
  obtain ⟨rfl, hR2⟩ := hP2
  exact x_icmp_eq (E_L_law_1 33 rfl) zr zr (fun _ => kk τ2 hR2) (fun q => absurd rfl q)

theorem lw_2 (hL : G.2.2.2.2.1 ≤ 3584) (hx : ∀ j, rgi (G.2.2.2.2.2 j)) (hR : RR σ) {i : Nat} (hi : i + 7 ≤ G.2.2.2.2.1) (kk : ∀ τ, RR τ → RunX l G M_L_law room_1 1470 [some (vr 1060), some (vr 0), some (vr 114), some (vi (i : Nat))] [] (Wd τ) 174 10272 Q) : RunX l G M_L_law room_1 262 [some (vr 1060), some (vr 0), some (vr 114), some (vi (i : Nat))] [] (Wd σ) 174 10272 Q := by
  refine x_aload_n (E_L_law_1 36 rfl) rfl ?_
  refine x_aload_n (E_L_law_1 37 rfl) rfl ?_
  refine x_iload_n (E_L_law_1 38 rfl) rfl ?_
  refine x_iconst (E_L_law_1 39 rfl) ?_
  refine x_iadd (E_L_law_1 40 rfl) ?_
  refine x_sld (E_L_law_1 41 rfl) (by omega) (by omega) ?_
  refine x_aload_n (E_L_law_1 42 rfl) rfl ?_
  refine x_iload_n (E_L_law_1 43 rfl) rfl ?_
  refine x_iconst (E_L_law_1 44 rfl) ?_
  refine x_iadd (E_L_law_1 45 rfl) ?_
  refine x_sld (E_L_law_1 46 rfl) (by omega) (by omega) ?_
  obtain ⟨P, c1, c2⟩ := pair_room (l := l) (G := G) (f := (G.2.2.2.2.2 (((i : Nat) : Int) + 1).toNat)) (v := (G.2.2.2.2.2 (((i : Nat) : Int) + 2).toNat)) hR (hx _) (hx _)
  refine w_callVi (E_L_law_1 47 rfl) ml_L_23 mv_X10_room rfl (by decide) (by decide) c1 (by decide) (by decide) rfl rfl (by decide) (fun z τ hP => ?_)
  obtain ⟨zr, c2⟩ := c2 z τ hP
  refine x_aload_n (E_L_law_1 48 rfl) rfl ?_
  refine x_aload_n (E_L_law_1 49 rfl) rfl ?_
  refine x_iload_n (E_L_law_1 50 rfl) rfl ?_
  refine x_iconst (E_L_law_1 51 rfl) ?_
  refine x_iadd (E_L_law_1 52 rfl) ?_
  refine x_sld (E_L_law_1 53 rfl) (by omega) (by omega) ?_
  refine x_aload_n (E_L_law_1 54 rfl) rfl ?_
  refine x_iload_n (E_L_law_1 55 rfl) rfl ?_
  refine x_iconst (E_L_law_1 56 rfl) ?_
  refine x_iadd (E_L_law_1 57 rfl) ?_
  refine x_sld (E_L_law_1 58 rfl) (by omega) (by omega) ?_
  refine w_callVi (E_L_law_1 59 rfl) ml_L_27 mv_X11_room rfl (by decide) (by decide) c2 (by decide) (by decide) rfl rfl (Nat.le_of_ble_eq_true rfl) (fun z2 τ2 hP2 => ?_)
  obtain ⟨rfl, hR2⟩ := hP2
  exact x_icmp_eq (E_L_law_2 0 rfl) zr zr (fun _ => kk τ2 hR2) (fun q => absurd rfl q)

theorem lw_3 (hL : G.2.2.2.2.1 ≤ 3584) (hx : ∀ j, rgi (G.2.2.2.2.2 j)) (hR : RR σ) {i : Nat} (hi : i + 7 ≤ G.2.2.2.2.1) (kk : ∀ τ, RR τ → RunX l G M_L_law room_1 1470 [some (vr 1060), some (vr 0), some (vr 114), some (vi (i : Nat))] [] (Wd τ) 174 10272 Q) : RunX l G M_L_law room_1 295 [some (vr 1060), some (vr 0), some (vr 114), some (vi (i : Nat))] [] (Wd σ) 174 10272 Q := by
  refine x_aload_n (E_L_law_2 3 rfl) rfl ?_
  refine x_aload_n (E_L_law_2 4 rfl) rfl ?_
  refine x_iload_n (E_L_law_2 5 rfl) rfl ?_
  refine x_iconst (E_L_law_2 6 rfl) ?_
  refine x_iadd (E_L_law_2 7 rfl) ?_
  refine x_sld (E_L_law_2 8 rfl) (by omega) (by omega) ?_
  refine x_aload_n (E_L_law_2 9 rfl) rfl ?_
  refine x_iload_n (E_L_law_2 10 rfl) rfl ?_
  refine x_iconst (E_L_law_2 11 rfl) ?_
  refine x_iadd (E_L_law_2 12 rfl) ?_
  refine x_sld (E_L_law_2 13 rfl) (by omega) (by omega) ?_
  obtain ⟨P, c1, c2⟩ := pair_move (l := l) (G := G) (i := (G.2.2.2.2.2 (((i : Nat) : Int) + 1).toNat)) (f := (G.2.2.2.2.2 (((i : Nat) : Int) + 2).toNat)) hR (hx _) (hx _)
  refine w_callVi (E_L_law_2 14 rfl) ml_L_28 mv_X10_move rfl (by decide) (by decide) c1 (by decide) (by decide) rfl rfl (by decide) (fun z τ hP => ?_)
  obtain ⟨zr, c2⟩ := c2 z τ hP
  refine x_aload_n (E_L_law_2 15 rfl) rfl ?_
  refine x_aload_n (E_L_law_2 16 rfl) rfl ?_
  refine x_iload_n (E_L_law_2 17 rfl) rfl ?_
  refine x_iconst (E_L_law_2 18 rfl) ?_
  refine x_iadd (E_L_law_2 19 rfl) ?_
  refine x_sld (E_L_law_2 20 rfl) (by omega) (by omega) ?_
  refine x_aload_n (E_L_law_2 21 rfl) rfl ?_
  refine x_iload_n (E_L_law_2 22 rfl) rfl ?_
  refine x_iconst (E_L_law_2 23 rfl) ?_
  refine x_iadd (E_L_law_2 24 rfl) ?_
  refine x_sld (E_L_law_2 25 rfl) (by omega) (by omega) ?_
  refine w_callVi (E_L_law_2 26 rfl) ml_L_31 mv_X11_move rfl (by decide) (by decide) c2 (by decide) (by decide) rfl rfl (Nat.le_of_ble_eq_true rfl) (fun z2 τ2 hP2 => ?_)
  obtain ⟨rfl, hR2⟩ := hP2
  exact x_icmp_eq (E_L_law_2 27 rfl) zr zr (fun _ => kk τ2 hR2) (fun q => absurd rfl q)

theorem lw_4 (hL : G.2.2.2.2.1 ≤ 3584) (hx : ∀ j, rgi (G.2.2.2.2.2 j)) (hR : RR σ) {i : Nat} (hi : i + 7 ≤ G.2.2.2.2.1) (kk : ∀ τ, RR τ → RunX l G M_L_law room_1 1470 [some (vr 1060), some (vr 0), some (vr 114), some (vi (i : Nat))] [] (Wd τ) 174 10272 Q) : RunX l G M_L_law room_1 328 [some (vr 1060), some (vr 0), some (vr 114), some (vi (i : Nat))] [] (Wd σ) 174 10272 Q := by
  refine x_aload_n (E_L_law_2 30 rfl) rfl ?_
  refine x_aload_n (E_L_law_2 31 rfl) rfl ?_
  refine x_iload_n (E_L_law_2 32 rfl) rfl ?_
  refine x_iconst (E_L_law_2 33 rfl) ?_
  refine x_iadd (E_L_law_2 34 rfl) ?_
  refine x_sld (E_L_law_2 35 rfl) (by omega) (by omega) ?_
  refine x_aload_n (E_L_law_2 36 rfl) rfl ?_
  refine x_iload_n (E_L_law_2 37 rfl) rfl ?_
  refine x_iconst (E_L_law_2 38 rfl) ?_
  refine x_iadd (E_L_law_2 39 rfl) ?_
  refine x_sld (E_L_law_2 40 rfl) (by omega) (by omega) ?_
  refine x_aload_n (E_L_law_2 41 rfl) rfl ?_
  refine x_iload_n (E_L_law_2 42 rfl) rfl ?_
  refine x_iconst (E_L_law_2 43 rfl) ?_
  refine x_iadd (E_L_law_2 44 rfl) ?_
  refine x_sld (E_L_law_2 45 rfl) (by omega) (by omega) ?_
  refine x_aload_n (E_L_law_2 46 rfl) rfl ?_
  refine x_iload_n (E_L_law_2 47 rfl) rfl ?_
  refine x_iconst (E_L_law_2 48 rfl) ?_
  refine x_iadd (E_L_law_2 49 rfl) ?_
  refine x_sld (E_L_law_2 50 rfl) (by omega) (by omega) ?_
  refine x_aload_n (E_L_law_2 51 rfl) rfl ?_
  refine x_iload_n (E_L_law_2 52 rfl) rfl ?_
  refine x_iconst (E_L_law_2 53 rfl) ?_
  refine x_iadd (E_L_law_2 54 rfl) ?_
  refine x_sld (E_L_law_2 55 rfl) (by omega) (by omega) ?_
  refine x_aload_n (E_L_law_2 56 rfl) rfl ?_
  refine x_iload_n (E_L_law_2 57 rfl) rfl ?_
  refine x_bipush (z := 6) (E_L_law_2 58 rfl) (by decide) ?_
  refine x_iadd (E_L_law_2 59 rfl) ?_
  refine x_sld (E_L_law_3 0 rfl) (by omega) (by omega) ?_
  obtain ⟨P, c1, c2⟩ := pair_line (l := l) (G := G) (k := (G.2.2.2.2.2 (((i : Nat) : Int) + 1).toNat)) (d := (G.2.2.2.2.2 (((i : Nat) : Int) + 2).toNat)) (t := (G.2.2.2.2.2 (((i : Nat) : Int) + 3).toNat)) (p := (G.2.2.2.2.2 (((i : Nat) : Int) + 4).toNat)) (q := (G.2.2.2.2.2 (((i : Nat) : Int) + 5).toNat)) (n := (G.2.2.2.2.2 (((i : Nat) : Int) + 6).toNat)) hR (hx _) (hx _) (hx _) (hx _) (hx _) (hx _)
  refine w_callVi (E_L_law_3 1 rfl) ml_L_32 mv_X10_line rfl (by decide) (by decide) c1 (by decide) (by decide) rfl rfl (by decide) (fun z τ hP => ?_)
  obtain ⟨zr, c2⟩ := c2 z τ hP
  refine x_aload_n (E_L_law_3 2 rfl) rfl ?_
  refine x_aload_n (E_L_law_3 3 rfl) rfl ?_
  refine x_iload_n (E_L_law_3 4 rfl) rfl ?_
  refine x_iconst (E_L_law_3 5 rfl) ?_
  refine x_iadd (E_L_law_3 6 rfl) ?_
  refine x_sld (E_L_law_3 7 rfl) (by omega) (by omega) ?_
  refine x_aload_n (E_L_law_3 8 rfl) rfl ?_
  refine x_iload_n (E_L_law_3 9 rfl) rfl ?_
  refine x_iconst (E_L_law_3 10 rfl) ?_
  refine x_iadd (E_L_law_3 11 rfl) ?_
  refine x_sld (E_L_law_3 12 rfl) (by omega) (by omega) ?_
  refine x_aload_n (E_L_law_3 13 rfl) rfl ?_
  refine x_iload_n (E_L_law_3 14 rfl) rfl ?_
  refine x_iconst (E_L_law_3 15 rfl) ?_
  refine x_iadd (E_L_law_3 16 rfl) ?_
  refine x_sld (E_L_law_3 17 rfl) (by omega) (by omega) ?_
  refine x_aload_n (E_L_law_3 18 rfl) rfl ?_
  refine x_iload_n (E_L_law_3 19 rfl) rfl ?_
  refine x_iconst (E_L_law_3 20 rfl) ?_
  refine x_iadd (E_L_law_3 21 rfl) ?_
  refine x_sld (E_L_law_3 22 rfl) (by omega) (by omega) ?_
  refine x_aload_n (E_L_law_3 23 rfl) rfl ?_
  refine x_iload_n (E_L_law_3 24 rfl) rfl ?_
  refine x_iconst (E_L_law_3 25 rfl) ?_
  refine x_iadd (E_L_law_3 26 rfl) ?_
  refine x_sld (E_L_law_3 27 rfl) (by omega) (by omega) ?_
  refine x_aload_n (E_L_law_3 28 rfl) rfl ?_
  refine x_iload_n (E_L_law_3 29 rfl) rfl ?_
  refine x_bipush (z := 6) (E_L_law_3 30 rfl) (by decide) ?_
  refine x_iadd (E_L_law_3 31 rfl) ?_
  refine x_sld (E_L_law_3 32 rfl) (by omega) (by omega) ?_
  refine w_callVi (E_L_law_3 33 rfl) ml_L_36 mv_X11_line rfl (by decide) (by decide) c2 (by decide) (by decide) rfl rfl (Nat.le_of_ble_eq_true rfl) (fun z2 τ2 hP2 => ?_)
  obtain ⟨rfl, hR2⟩ := hP2
  exact x_icmp_eq (E_L_law_3 34 rfl) zr zr (fun _ => kk τ2 hR2) (fun q => absurd rfl q)

theorem lw_5 (hL : G.2.2.2.2.1 ≤ 3584) (hx : ∀ j, rgi (G.2.2.2.2.2 j)) (hR : RR σ) {i : Nat} (hi : i + 7 ≤ G.2.2.2.2.1) (kk : ∀ τ, RR τ → RunX l G M_L_law room_1 1470 [some (vr 1060), some (vr 0), some (vr 114), some (vi (i : Nat))] [] (Wd τ) 174 10272 Q) : RunX l G M_L_law room_1 403 [some (vr 1060), some (vr 0), some (vr 114), some (vi (i : Nat))] [] (Wd σ) 174 10272 Q := by
  refine x_aload_n (E_L_law_3 37 rfl) rfl ?_
  refine x_aload_n (E_L_law_3 38 rfl) rfl ?_
  refine x_iload_n (E_L_law_3 39 rfl) rfl ?_
  refine x_iconst (E_L_law_3 40 rfl) ?_
  refine x_iadd (E_L_law_3 41 rfl) ?_
  refine x_sld (E_L_law_3 42 rfl) (by omega) (by omega) ?_
  refine x_aload_n (E_L_law_3 43 rfl) rfl ?_
  refine x_iload_n (E_L_law_3 44 rfl) rfl ?_
  refine x_iconst (E_L_law_3 45 rfl) ?_
  refine x_iadd (E_L_law_3 46 rfl) ?_
  refine x_sld (E_L_law_3 47 rfl) (by omega) (by omega) ?_
  obtain ⟨P, c1, c2⟩ := pair_told (l := l) (G := G) (i := (G.2.2.2.2.2 (((i : Nat) : Int) + 1).toNat)) (q := (G.2.2.2.2.2 (((i : Nat) : Int) + 2).toNat)) hR (hx _) (hx _)
  refine w_callVi (E_L_law_3 48 rfl) ml_L_37 mv_X10_told rfl (by decide) (by decide) c1 (by decide) (by decide) rfl rfl (by decide) (fun z τ hP => ?_)
  obtain ⟨zr, c2⟩ := c2 z τ hP
  refine x_aload_n (E_L_law_3 49 rfl) rfl ?_
  refine x_aload_n (E_L_law_3 50 rfl) rfl ?_
  refine x_iload_n (E_L_law_3 51 rfl) rfl ?_
  refine x_iconst (E_L_law_3 52 rfl) ?_
  refine x_iadd (E_L_law_3 53 rfl) ?_
  refine x_sld (E_L_law_3 54 rfl) (by omega) (by omega) ?_
  refine x_aload_n (E_L_law_3 55 rfl) rfl ?_
  refine x_iload_n (E_L_law_3 56 rfl) rfl ?_
  refine x_iconst (E_L_law_3 57 rfl) ?_
  refine x_iadd (E_L_law_3 58 rfl) ?_
  refine x_sld (E_L_law_3 59 rfl) (by omega) (by omega) ?_
  refine w_callVi (E_L_law_4 0 rfl) ml_L_40 mv_X11_told rfl (by decide) (by decide) c2 (by decide) (by decide) rfl rfl (Nat.le_of_ble_eq_true rfl) (fun z2 τ2 hP2 => ?_)
  obtain ⟨rfl, hR2⟩ := hP2
  exact x_icmp_eq (E_L_law_4 1 rfl) zr zr (fun _ => kk τ2 hR2) (fun q => absurd rfl q)

theorem lw_6 (hL : G.2.2.2.2.1 ≤ 3584) (hx : ∀ j, rgi (G.2.2.2.2.2 j)) (hR : RR σ) {i : Nat} (hi : i + 7 ≤ G.2.2.2.2.1) (kk : ∀ τ, RR τ → RunX l G M_L_law room_1 1470 [some (vr 1060), some (vr 0), some (vr 114), some (vi (i : Nat))] [] (Wd τ) 174 10272 Q) : RunX l G M_L_law room_1 436 [some (vr 1060), some (vr 0), some (vr 114), some (vi (i : Nat))] [] (Wd σ) 174 10272 Q := by
  refine x_aload_n (E_L_law_4 4 rfl) rfl ?_
  refine x_aload_n (E_L_law_4 5 rfl) rfl ?_
  refine x_iload_n (E_L_law_4 6 rfl) rfl ?_
  refine x_iconst (E_L_law_4 7 rfl) ?_
  refine x_iadd (E_L_law_4 8 rfl) ?_
  refine x_sld (E_L_law_4 9 rfl) (by omega) (by omega) ?_
  refine x_aload_n (E_L_law_4 10 rfl) rfl ?_
  refine x_iload_n (E_L_law_4 11 rfl) rfl ?_
  refine x_iconst (E_L_law_4 12 rfl) ?_
  refine x_iadd (E_L_law_4 13 rfl) ?_
  refine x_sld (E_L_law_4 14 rfl) (by omega) (by omega) ?_
  obtain ⟨P, c1, c2⟩ := pair_book (l := l) (G := G) (kn := (G.2.2.2.2.2 (((i : Nat) : Int) + 1).toNat)) (i := (G.2.2.2.2.2 (((i : Nat) : Int) + 2).toNat)) hR (hx _) (hx _)
  refine w_callVi (E_L_law_4 15 rfl) ml_L_41 mv_X10_book rfl (by decide) (by decide) c1 (by decide) (by decide) rfl rfl (by decide) (fun z τ hP => ?_)
  obtain ⟨zr, c2⟩ := c2 z τ hP
  refine x_aload_n (E_L_law_4 16 rfl) rfl ?_
  refine x_aload_n (E_L_law_4 17 rfl) rfl ?_
  refine x_iload_n (E_L_law_4 18 rfl) rfl ?_
  refine x_iconst (E_L_law_4 19 rfl) ?_
  refine x_iadd (E_L_law_4 20 rfl) ?_
  refine x_sld (E_L_law_4 21 rfl) (by omega) (by omega) ?_
  refine x_aload_n (E_L_law_4 22 rfl) rfl ?_
  refine x_iload_n (E_L_law_4 23 rfl) rfl ?_
  refine x_iconst (E_L_law_4 24 rfl) ?_
  refine x_iadd (E_L_law_4 25 rfl) ?_
  refine x_sld (E_L_law_4 26 rfl) (by omega) (by omega) ?_
  refine w_callVi (E_L_law_4 27 rfl) ml_L_44 mv_X11_book rfl (by decide) (by decide) c2 (by decide) (by decide) rfl rfl (Nat.le_of_ble_eq_true rfl) (fun z2 τ2 hP2 => ?_)
  obtain ⟨rfl, hR2⟩ := hP2
  exact x_icmp_eq (E_L_law_4 28 rfl) zr zr (fun _ => kk τ2 hR2) (fun q => absurd rfl q)

theorem lw_7 (hL : G.2.2.2.2.1 ≤ 3584) (hx : ∀ j, rgi (G.2.2.2.2.2 j)) (hR : RR σ) {i : Nat} (hi : i + 7 ≤ G.2.2.2.2.1) (kk : ∀ τ, RR τ → RunX l G M_L_law room_1 1470 [some (vr 1060), some (vr 0), some (vr 114), some (vi (i : Nat))] [] (Wd τ) 174 10272 Q) : RunX l G M_L_law room_1 469 [some (vr 1060), some (vr 0), some (vr 114), some (vi (i : Nat))] [] (Wd σ) 174 10272 Q := by
  refine x_aload_n (E_L_law_4 31 rfl) rfl ?_
  refine x_aload_n (E_L_law_4 32 rfl) rfl ?_
  refine x_iload_n (E_L_law_4 33 rfl) rfl ?_
  refine x_iconst (E_L_law_4 34 rfl) ?_
  refine x_iadd (E_L_law_4 35 rfl) ?_
  refine x_sld (E_L_law_4 36 rfl) (by omega) (by omega) ?_
  obtain ⟨P, c1, c2⟩ := pair_count (l := l) (G := G) (q := (G.2.2.2.2.2 (((i : Nat) : Int) + 1).toNat)) hR (hx _)
  refine w_callVi (E_L_law_4 37 rfl) ml_L_45 mv_X10_count rfl (by decide) (by decide) c1 (by decide) (by decide) rfl rfl (by decide) (fun z τ hP => ?_)
  obtain ⟨zr, c2⟩ := c2 z τ hP
  refine x_aload_n (E_L_law_4 38 rfl) rfl ?_
  refine x_aload_n (E_L_law_4 39 rfl) rfl ?_
  refine x_iload_n (E_L_law_4 40 rfl) rfl ?_
  refine x_iconst (E_L_law_4 41 rfl) ?_
  refine x_iadd (E_L_law_4 42 rfl) ?_
  refine x_sld (E_L_law_4 43 rfl) (by omega) (by omega) ?_
  refine w_callVi (E_L_law_4 44 rfl) ml_L_48 mv_X11_count rfl (by decide) (by decide) c2 (by decide) (by decide) rfl rfl (Nat.le_of_ble_eq_true rfl) (fun z2 τ2 hP2 => ?_)
  obtain ⟨rfl, hR2⟩ := hP2
  exact x_icmp_eq (E_L_law_4 45 rfl) zr zr (fun _ => kk τ2 hR2) (fun q => absurd rfl q)

theorem lw_8 (hL : G.2.2.2.2.1 ≤ 3584) (hx : ∀ j, rgi (G.2.2.2.2.2 j)) (hR : RR σ) {i : Nat} (hi : i + 7 ≤ G.2.2.2.2.1) (kk : ∀ τ, RR τ → RunX l G M_L_law room_1 1470 [some (vr 1060), some (vr 0), some (vr 114), some (vi (i : Nat))] [] (Wd τ) 174 10272 Q) : RunX l G M_L_law room_1 492 [some (vr 1060), some (vr 0), some (vr 114), some (vi (i : Nat))] [] (Wd σ) 174 10272 Q := by
  refine x_aload_n (E_L_law_4 48 rfl) rfl ?_
  refine x_aload_n (E_L_law_4 49 rfl) rfl ?_
  refine x_iload_n (E_L_law_4 50 rfl) rfl ?_
  refine x_iconst (E_L_law_4 51 rfl) ?_
  refine x_iadd (E_L_law_4 52 rfl) ?_
  refine x_sld (E_L_law_4 53 rfl) (by omega) (by omega) ?_
  refine x_aload_n (E_L_law_4 54 rfl) rfl ?_
  refine x_iload_n (E_L_law_4 55 rfl) rfl ?_
  refine x_iconst (E_L_law_4 56 rfl) ?_
  refine x_iadd (E_L_law_4 57 rfl) ?_
  refine x_sld (E_L_law_4 58 rfl) (by omega) (by omega) ?_
  refine x_i2l (E_L_law_4 59 rfl) (hx _) ?_
  refine x_bipush (z := 32) (E_L_law_5 0 rfl) (by decide) ?_
  refine x_lshl (E_L_law_5 1 rfl) ?_
  refine x_aload_n (E_L_law_5 2 rfl) rfl ?_
  refine x_iload_n (E_L_law_5 3 rfl) rfl ?_
  refine x_iconst (E_L_law_5 4 rfl) ?_
  refine x_iadd (E_L_law_5 5 rfl) ?_
  refine x_sld (E_L_law_5 6 rfl) (by omega) (by omega) ?_
  refine x_i2l (E_L_law_5 7 rfl) (hx _) ?_
  refine x_ldc2 (z := 4294967295) (E_L_law_5 8 rfl) kc_L_49 (by decide) ?_
  refine x_land (E_L_law_5 9 rfl) ?_
  refine x_lor (E_L_law_5 10 rfl) ?_
  obtain ⟨P, c1, c2⟩ := pair_feed (l := l) (G := G) (n := (G.2.2.2.2.2 (((i : Nat) : Int) + 1).toNat)) (b := (lOr (lShl (G.2.2.2.2.2 (((i : Nat) : Int) + 2).toNat) 32) (lAnd (G.2.2.2.2.2 (((i : Nat) : Int) + 3).toNat) 4294967295))) hR (hx _) lOr_rg
  refine w_callVi (E_L_law_5 11 rfl) ml_L_51 mv_X10_feed rfl (by decide) (by decide) c1 (by decide) (by decide) rfl rfl (by decide) (fun z τ hP => ?_)
  obtain ⟨zr, c2⟩ := c2 z τ hP
  refine x_aload_n (E_L_law_5 12 rfl) rfl ?_
  refine x_aload_n (E_L_law_5 13 rfl) rfl ?_
  refine x_iload_n (E_L_law_5 14 rfl) rfl ?_
  refine x_iconst (E_L_law_5 15 rfl) ?_
  refine x_iadd (E_L_law_5 16 rfl) ?_
  refine x_sld (E_L_law_5 17 rfl) (by omega) (by omega) ?_
  refine x_aload_n (E_L_law_5 18 rfl) rfl ?_
  refine x_iload_n (E_L_law_5 19 rfl) rfl ?_
  refine x_iconst (E_L_law_5 20 rfl) ?_
  refine x_iadd (E_L_law_5 21 rfl) ?_
  refine x_sld (E_L_law_5 22 rfl) (by omega) (by omega) ?_
  refine x_i2l (E_L_law_5 23 rfl) (hx _) ?_
  refine x_bipush (z := 32) (E_L_law_5 24 rfl) (by decide) ?_
  refine x_lshl (E_L_law_5 25 rfl) ?_
  refine x_aload_n (E_L_law_5 26 rfl) rfl ?_
  refine x_iload_n (E_L_law_5 27 rfl) rfl ?_
  refine x_iconst (E_L_law_5 28 rfl) ?_
  refine x_iadd (E_L_law_5 29 rfl) ?_
  refine x_sld (E_L_law_5 30 rfl) (by omega) (by omega) ?_
  refine x_i2l (E_L_law_5 31 rfl) (hx _) ?_
  refine x_ldc2 (z := 4294967295) (E_L_law_5 32 rfl) kc_L_49 (by decide) ?_
  refine x_land (E_L_law_5 33 rfl) ?_
  refine x_lor (E_L_law_5 34 rfl) ?_
  refine w_callVi (E_L_law_5 35 rfl) ml_L_55 mv_X11_feed rfl (by decide) (by decide) c2 (by decide) (by decide) rfl rfl (Nat.le_of_ble_eq_true rfl) (fun z2 τ2 hP2 => ?_)
  obtain ⟨rfl, hR2⟩ := hP2
  exact x_icmp_eq (E_L_law_5 36 rfl) zr zr (fun _ => kk τ2 hR2) (fun q => absurd rfl q)

theorem lw_9 (hL : G.2.2.2.2.1 ≤ 3584) (hx : ∀ j, rgi (G.2.2.2.2.2 j)) (hR : RR σ) {i : Nat} (hi : i + 7 ≤ G.2.2.2.2.1) (kk : ∀ τ, RR τ → RunX l G M_L_law room_1 1470 [some (vr 1060), some (vr 0), some (vr 114), some (vi (i : Nat))] [] (Wd τ) 174 10272 Q) : RunX l G M_L_law room_1 555 [some (vr 1060), some (vr 0), some (vr 114), some (vi (i : Nat))] [] (Wd σ) 174 10272 Q := by
  refine x_aload_n (E_L_law_5 39 rfl) rfl ?_
  refine x_aload_n (E_L_law_5 40 rfl) rfl ?_
  refine x_iload_n (E_L_law_5 41 rfl) rfl ?_
  refine x_iconst (E_L_law_5 42 rfl) ?_
  refine x_iadd (E_L_law_5 43 rfl) ?_
  refine x_sld (E_L_law_5 44 rfl) (by omega) (by omega) ?_
  obtain ⟨P, c1, c2⟩ := pair_term (l := l) (G := G) (d := (G.2.2.2.2.2 (((i : Nat) : Int) + 1).toNat)) hR (hx _)
  refine w_callVi (E_L_law_5 45 rfl) ml_L_56 mv_X10_term rfl (by decide) (by decide) c1 (by decide) (by decide) rfl rfl (by decide) (fun z τ hP => ?_)
  obtain ⟨zr, c2⟩ := c2 z τ hP
  refine x_aload_n (E_L_law_5 46 rfl) rfl ?_
  refine x_aload_n (E_L_law_5 47 rfl) rfl ?_
  refine x_iload_n (E_L_law_5 48 rfl) rfl ?_
  refine x_iconst (E_L_law_5 49 rfl) ?_
  refine x_iadd (E_L_law_5 50 rfl) ?_
  refine x_sld (E_L_law_5 51 rfl) (by omega) (by omega) ?_
  refine w_callVi (E_L_law_5 52 rfl) ml_L_59 mv_X11_term rfl (by decide) (by decide) c2 (by decide) (by decide) rfl rfl (Nat.le_of_ble_eq_true rfl) (fun z2 τ2 hP2 => ?_)
  obtain ⟨rfl, hR2⟩ := hP2
  exact x_icmp_eq (E_L_law_5 53 rfl) zr zr (fun _ => kk τ2 hR2) (fun q => absurd rfl q)

theorem lw_10 (hL : G.2.2.2.2.1 ≤ 3584) (hx : ∀ j, rgi (G.2.2.2.2.2 j)) (hR : RR σ) {i : Nat} (hi : i + 7 ≤ G.2.2.2.2.1) (kk : ∀ τ, RR τ → RunX l G M_L_law room_1 1470 [some (vr 1060), some (vr 0), some (vr 114), some (vi (i : Nat))] [] (Wd τ) 174 10272 Q) : RunX l G M_L_law room_1 578 [some (vr 1060), some (vr 0), some (vr 114), some (vi (i : Nat))] [] (Wd σ) 174 10272 Q := by
  refine x_aload_n (E_L_law_5 56 rfl) rfl ?_
  obtain ⟨P, c1, c2⟩ := pair_fault (l := l) (G := G) hR
  refine w_callVi (E_L_law_5 57 rfl) ml_L_60 mv_X10_fault rfl (by decide) (by decide) c1 (by decide) (by decide) rfl rfl (by decide) (fun z τ hP => ?_)
  obtain ⟨zr, c2⟩ := c2 z τ hP
  refine x_aload_n (E_L_law_5 58 rfl) rfl ?_
  refine w_callVi (E_L_law_5 59 rfl) ml_L_64 mv_X11_fault rfl (by decide) (by decide) c2 (by decide) (by decide) rfl rfl (Nat.le_of_ble_eq_true rfl) (fun z2 τ2 hP2 => ?_)
  obtain ⟨rfl, hR2⟩ := hP2
  exact x_icmp_eq (E_L_law_6 0 rfl) zr zr (fun _ => kk τ2 hR2) (fun q => absurd rfl q)

theorem lw_11 (hL : G.2.2.2.2.1 ≤ 3584) (hx : ∀ j, rgi (G.2.2.2.2.2 j)) (hR : RR σ) {i : Nat} (hi : i + 7 ≤ G.2.2.2.2.1) (kk : ∀ τ, RR τ → RunX l G M_L_law room_1 1470 [some (vr 1060), some (vr 0), some (vr 114), some (vi (i : Nat))] [] (Wd τ) 174 10272 Q) : RunX l G M_L_law room_1 591 [some (vr 1060), some (vr 0), some (vr 114), some (vi (i : Nat))] [] (Wd σ) 174 10272 Q := by
  refine x_aload_n (E_L_law_6 3 rfl) rfl ?_
  refine x_aload_n (E_L_law_6 4 rfl) rfl ?_
  refine x_iload_n (E_L_law_6 5 rfl) rfl ?_
  refine x_iconst (E_L_law_6 6 rfl) ?_
  refine x_iadd (E_L_law_6 7 rfl) ?_
  refine x_sld (E_L_law_6 8 rfl) (by omega) (by omega) ?_
  refine x_aload_n (E_L_law_6 9 rfl) rfl ?_
  refine x_iload_n (E_L_law_6 10 rfl) rfl ?_
  refine x_iconst (E_L_law_6 11 rfl) ?_
  refine x_iadd (E_L_law_6 12 rfl) ?_
  refine x_sld (E_L_law_6 13 rfl) (by omega) (by omega) ?_
  obtain ⟨P, c1, c2⟩ := pair_force (l := l) (G := G) (w := (G.2.2.2.2.2 (((i : Nat) : Int) + 1).toNat)) (d := (G.2.2.2.2.2 (((i : Nat) : Int) + 2).toNat)) hR (hx _) (hx _)
  refine w_callVi (E_L_law_6 14 rfl) ml_L_65 mv_X10_force rfl (by decide) (by decide) c1 (by decide) (by decide) rfl rfl (by decide) (fun z τ hP => ?_)
  obtain ⟨zr, c2⟩ := c2 z τ hP
  refine x_aload_n (E_L_law_6 15 rfl) rfl ?_
  refine x_aload_n (E_L_law_6 16 rfl) rfl ?_
  refine x_iload_n (E_L_law_6 17 rfl) rfl ?_
  refine x_iconst (E_L_law_6 18 rfl) ?_
  refine x_iadd (E_L_law_6 19 rfl) ?_
  refine x_sld (E_L_law_6 20 rfl) (by omega) (by omega) ?_
  refine x_aload_n (E_L_law_6 21 rfl) rfl ?_
  refine x_iload_n (E_L_law_6 22 rfl) rfl ?_
  refine x_iconst (E_L_law_6 23 rfl) ?_
  refine x_iadd (E_L_law_6 24 rfl) ?_
  refine x_sld (E_L_law_6 25 rfl) (by omega) (by omega) ?_
  refine w_callVi (E_L_law_6 26 rfl) ml_L_68 mv_X11_force rfl (by decide) (by decide) c2 (by decide) (by decide) rfl rfl (Nat.le_of_ble_eq_true rfl) (fun z2 τ2 hP2 => ?_)
  obtain ⟨rfl, hR2⟩ := hP2
  exact x_icmp_eq (E_L_law_6 27 rfl) zr zr (fun _ => kk τ2 hR2) (fun q => absurd rfl q)

theorem lw_12 (hL : G.2.2.2.2.1 ≤ 3584) (hx : ∀ j, rgi (G.2.2.2.2.2 j)) (hR : RR σ) {i : Nat} (hi : i + 7 ≤ G.2.2.2.2.1) (kk : ∀ τ, RR τ → RunX l G M_L_law room_1 1470 [some (vr 1060), some (vr 0), some (vr 114), some (vi (i : Nat))] [] (Wd τ) 174 10272 Q) : RunX l G M_L_law room_1 624 [some (vr 1060), some (vr 0), some (vr 114), some (vi (i : Nat))] [] (Wd σ) 174 10272 Q := by
  refine x_aload_n (E_L_law_6 30 rfl) rfl ?_
  refine x_aload_n (E_L_law_6 31 rfl) rfl ?_
  refine x_iload_n (E_L_law_6 32 rfl) rfl ?_
  refine x_iconst (E_L_law_6 33 rfl) ?_
  refine x_iadd (E_L_law_6 34 rfl) ?_
  refine x_sld (E_L_law_6 35 rfl) (by omega) (by omega) ?_
  refine x_aload_n (E_L_law_6 36 rfl) rfl ?_
  refine x_iload_n (E_L_law_6 37 rfl) rfl ?_
  refine x_iconst (E_L_law_6 38 rfl) ?_
  refine x_iadd (E_L_law_6 39 rfl) ?_
  refine x_sld (E_L_law_6 40 rfl) (by omega) (by omega) ?_
  refine x_aload_n (E_L_law_6 41 rfl) rfl ?_
  refine x_iload_n (E_L_law_6 42 rfl) rfl ?_
  refine x_iconst (E_L_law_6 43 rfl) ?_
  refine x_iadd (E_L_law_6 44 rfl) ?_
  refine x_sld (E_L_law_6 45 rfl) (by omega) (by omega) ?_
  refine x_aload_n (E_L_law_6 46 rfl) rfl ?_
  refine x_iload_n (E_L_law_6 47 rfl) rfl ?_
  refine x_iconst (E_L_law_6 48 rfl) ?_
  refine x_iadd (E_L_law_6 49 rfl) ?_
  refine x_sld (E_L_law_6 50 rfl) (by omega) (by omega) ?_
  obtain ⟨P, c1, c2⟩ := pair_paper (l := l) (G := G) (w := (G.2.2.2.2.2 (((i : Nat) : Int) + 1).toNat)) (d := (G.2.2.2.2.2 (((i : Nat) : Int) + 2).toNat)) (kn := (G.2.2.2.2.2 (((i : Nat) : Int) + 3).toNat)) (q := (G.2.2.2.2.2 (((i : Nat) : Int) + 4).toNat)) hR (hx _) (hx _) (hx _) (hx _)
  refine w_callVi (E_L_law_6 51 rfl) ml_L_69 mv_X10_paper rfl (by decide) (by decide) c1 (by decide) (by decide) rfl rfl (by decide) (fun z τ hP => ?_)
  obtain ⟨zr, c2⟩ := c2 z τ hP
  refine x_aload_n (E_L_law_6 52 rfl) rfl ?_
  refine x_aload_n (E_L_law_6 53 rfl) rfl ?_
  refine x_iload_n (E_L_law_6 54 rfl) rfl ?_
  refine x_iconst (E_L_law_6 55 rfl) ?_
  refine x_iadd (E_L_law_6 56 rfl) ?_
  refine x_sld (E_L_law_6 57 rfl) (by omega) (by omega) ?_
  refine x_aload_n (E_L_law_6 58 rfl) rfl ?_
  refine x_iload_n (E_L_law_6 59 rfl) rfl ?_
  refine x_iconst (E_L_law_7 0 rfl) ?_
  refine x_iadd (E_L_law_7 1 rfl) ?_
  refine x_sld (E_L_law_7 2 rfl) (by omega) (by omega) ?_
  refine x_aload_n (E_L_law_7 3 rfl) rfl ?_
  refine x_iload_n (E_L_law_7 4 rfl) rfl ?_
  refine x_iconst (E_L_law_7 5 rfl) ?_
  refine x_iadd (E_L_law_7 6 rfl) ?_
  refine x_sld (E_L_law_7 7 rfl) (by omega) (by omega) ?_
  refine x_aload_n (E_L_law_7 8 rfl) rfl ?_
  refine x_iload_n (E_L_law_7 9 rfl) rfl ?_
  refine x_iconst (E_L_law_7 10 rfl) ?_
  refine x_iadd (E_L_law_7 11 rfl) ?_
  refine x_sld (E_L_law_7 12 rfl) (by omega) (by omega) ?_
  refine w_callVi (E_L_law_7 13 rfl) ml_L_73 mv_X11_paper rfl (by decide) (by decide) c2 (by decide) (by decide) rfl rfl (Nat.le_of_ble_eq_true rfl) (fun z2 τ2 hP2 => ?_)
  obtain ⟨rfl, hR2⟩ := hP2
  exact x_icmp_eq (E_L_law_7 14 rfl) zr zr (fun _ => kk τ2 hR2) (fun q => absurd rfl q)

theorem lw_13 (hL : G.2.2.2.2.1 ≤ 3584) (hx : ∀ j, rgi (G.2.2.2.2.2 j)) (hR : RR σ) {i : Nat} (hi : i + 7 ≤ G.2.2.2.2.1) (kk : ∀ τ, RR τ → RunX l G M_L_law room_1 1470 [some (vr 1060), some (vr 0), some (vr 114), some (vi (i : Nat))] [] (Wd τ) 174 10272 Q) : RunX l G M_L_law room_1 677 [some (vr 1060), some (vr 0), some (vr 114), some (vi (i : Nat))] [] (Wd σ) 174 10272 Q := by
  refine x_aload_n (E_L_law_7 17 rfl) rfl ?_
  refine x_aload_n (E_L_law_7 18 rfl) rfl ?_
  refine x_iload_n (E_L_law_7 19 rfl) rfl ?_
  refine x_iconst (E_L_law_7 20 rfl) ?_
  refine x_iadd (E_L_law_7 21 rfl) ?_
  refine x_sld (E_L_law_7 22 rfl) (by omega) (by omega) ?_
  refine x_aload_n (E_L_law_7 23 rfl) rfl ?_
  refine x_iload_n (E_L_law_7 24 rfl) rfl ?_
  refine x_iconst (E_L_law_7 25 rfl) ?_
  refine x_iadd (E_L_law_7 26 rfl) ?_
  refine x_sld (E_L_law_7 27 rfl) (by omega) (by omega) ?_
  refine x_aload_n (E_L_law_7 28 rfl) rfl ?_
  refine x_iload_n (E_L_law_7 29 rfl) rfl ?_
  refine x_iconst (E_L_law_7 30 rfl) ?_
  refine x_iadd (E_L_law_7 31 rfl) ?_
  refine x_sld (E_L_law_7 32 rfl) (by omega) (by omega) ?_
  refine x_aload_n (E_L_law_7 33 rfl) rfl ?_
  refine x_iload_n (E_L_law_7 34 rfl) rfl ?_
  refine x_iconst (E_L_law_7 35 rfl) ?_
  refine x_iadd (E_L_law_7 36 rfl) ?_
  refine x_sld (E_L_law_7 37 rfl) (by omega) (by omega) ?_
  obtain ⟨P, c1, c2⟩ := pair_goods (l := l) (G := G) (x := (G.2.2.2.2.2 (((i : Nat) : Int) + 1).toNat)) (d := (G.2.2.2.2.2 (((i : Nat) : Int) + 2).toNat)) (kn := (G.2.2.2.2.2 (((i : Nat) : Int) + 3).toNat)) (q := (G.2.2.2.2.2 (((i : Nat) : Int) + 4).toNat)) hR (hx _) (hx _) (hx _) (hx _)
  refine w_callVi (E_L_law_7 38 rfl) ml_L_74 mv_X10_goods rfl (by decide) (by decide) c1 (by decide) (by decide) rfl rfl (by decide) (fun z τ hP => ?_)
  obtain ⟨zr, c2⟩ := c2 z τ hP
  refine x_aload_n (E_L_law_7 39 rfl) rfl ?_
  refine x_aload_n (E_L_law_7 40 rfl) rfl ?_
  refine x_iload_n (E_L_law_7 41 rfl) rfl ?_
  refine x_iconst (E_L_law_7 42 rfl) ?_
  refine x_iadd (E_L_law_7 43 rfl) ?_
  refine x_sld (E_L_law_7 44 rfl) (by omega) (by omega) ?_
  refine x_aload_n (E_L_law_7 45 rfl) rfl ?_
  refine x_iload_n (E_L_law_7 46 rfl) rfl ?_
  refine x_iconst (E_L_law_7 47 rfl) ?_
  refine x_iadd (E_L_law_7 48 rfl) ?_
  refine x_sld (E_L_law_7 49 rfl) (by omega) (by omega) ?_
  refine x_aload_n (E_L_law_7 50 rfl) rfl ?_
  refine x_iload_n (E_L_law_7 51 rfl) rfl ?_
  refine x_iconst (E_L_law_7 52 rfl) ?_
  refine x_iadd (E_L_law_7 53 rfl) ?_
  refine x_sld (E_L_law_7 54 rfl) (by omega) (by omega) ?_
  refine x_aload_n (E_L_law_7 55 rfl) rfl ?_
  refine x_iload_n (E_L_law_7 56 rfl) rfl ?_
  refine x_iconst (E_L_law_7 57 rfl) ?_
  refine x_iadd (E_L_law_7 58 rfl) ?_
  refine x_sld (E_L_law_7 59 rfl) (by omega) (by omega) ?_
  refine w_callVi (E_L_law_8 0 rfl) ml_L_77 mv_X11_goods rfl (by decide) (by decide) c2 (by decide) (by decide) rfl rfl (Nat.le_of_ble_eq_true rfl) (fun z2 τ2 hP2 => ?_)
  obtain ⟨rfl, hR2⟩ := hP2
  exact x_icmp_eq (E_L_law_8 1 rfl) zr zr (fun _ => kk τ2 hR2) (fun q => absurd rfl q)

theorem lw_14 (hL : G.2.2.2.2.1 ≤ 3584) (hx : ∀ j, rgi (G.2.2.2.2.2 j)) (hR : RR σ) {i : Nat} (hi : i + 7 ≤ G.2.2.2.2.1) (kk : ∀ τ, RR τ → RunX l G M_L_law room_1 1470 [some (vr 1060), some (vr 0), some (vr 114), some (vi (i : Nat))] [] (Wd τ) 174 10272 Q) : RunX l G M_L_law room_1 730 [some (vr 1060), some (vr 0), some (vr 114), some (vi (i : Nat))] [] (Wd σ) 174 10272 Q := by
  refine x_aload_n (E_L_law_8 4 rfl) rfl ?_
  refine x_aload_n (E_L_law_8 5 rfl) rfl ?_
  refine x_iload_n (E_L_law_8 6 rfl) rfl ?_
  refine x_iconst (E_L_law_8 7 rfl) ?_
  refine x_iadd (E_L_law_8 8 rfl) ?_
  refine x_sld (E_L_law_8 9 rfl) (by omega) (by omega) ?_
  refine x_aload_n (E_L_law_8 10 rfl) rfl ?_
  refine x_iload_n (E_L_law_8 11 rfl) rfl ?_
  refine x_iconst (E_L_law_8 12 rfl) ?_
  refine x_iadd (E_L_law_8 13 rfl) ?_
  refine x_sld (E_L_law_8 14 rfl) (by omega) (by omega) ?_
  refine x_aload_n (E_L_law_8 15 rfl) rfl ?_
  refine x_iload_n (E_L_law_8 16 rfl) rfl ?_
  refine x_iconst (E_L_law_8 17 rfl) ?_
  refine x_iadd (E_L_law_8 18 rfl) ?_
  refine x_sld (E_L_law_8 19 rfl) (by omega) (by omega) ?_
  refine x_aload_n (E_L_law_8 20 rfl) rfl ?_
  refine x_iload_n (E_L_law_8 21 rfl) rfl ?_
  refine x_iconst (E_L_law_8 22 rfl) ?_
  refine x_iadd (E_L_law_8 23 rfl) ?_
  refine x_sld (E_L_law_8 24 rfl) (by omega) (by omega) ?_
  obtain ⟨P, c1, c2⟩ := pair_share (l := l) (G := G) (w := (G.2.2.2.2.2 (((i : Nat) : Int) + 1).toNat)) (d := (G.2.2.2.2.2 (((i : Nat) : Int) + 2).toNat)) (kn := (G.2.2.2.2.2 (((i : Nat) : Int) + 3).toNat)) (q := (G.2.2.2.2.2 (((i : Nat) : Int) + 4).toNat)) hR (hx _) (hx _) (hx _) (hx _)
  refine w_callVi (E_L_law_8 25 rfl) ml_L_78 mv_X10_share rfl (by decide) (by decide) c1 (by decide) (by decide) rfl rfl (by decide) (fun z τ hP => ?_)
  obtain ⟨zr, c2⟩ := c2 z τ hP
  refine x_aload_n (E_L_law_8 26 rfl) rfl ?_
  refine x_aload_n (E_L_law_8 27 rfl) rfl ?_
  refine x_iload_n (E_L_law_8 28 rfl) rfl ?_
  refine x_iconst (E_L_law_8 29 rfl) ?_
  refine x_iadd (E_L_law_8 30 rfl) ?_
  refine x_sld (E_L_law_8 31 rfl) (by omega) (by omega) ?_
  refine x_aload_n (E_L_law_8 32 rfl) rfl ?_
  refine x_iload_n (E_L_law_8 33 rfl) rfl ?_
  refine x_iconst (E_L_law_8 34 rfl) ?_
  refine x_iadd (E_L_law_8 35 rfl) ?_
  refine x_sld (E_L_law_8 36 rfl) (by omega) (by omega) ?_
  refine x_aload_n (E_L_law_8 37 rfl) rfl ?_
  refine x_iload_n (E_L_law_8 38 rfl) rfl ?_
  refine x_iconst (E_L_law_8 39 rfl) ?_
  refine x_iadd (E_L_law_8 40 rfl) ?_
  refine x_sld (E_L_law_8 41 rfl) (by omega) (by omega) ?_
  refine x_aload_n (E_L_law_8 42 rfl) rfl ?_
  refine x_iload_n (E_L_law_8 43 rfl) rfl ?_
  refine x_iconst (E_L_law_8 44 rfl) ?_
  refine x_iadd (E_L_law_8 45 rfl) ?_
  refine x_sld (E_L_law_8 46 rfl) (by omega) (by omega) ?_
  refine w_callVi (E_L_law_8 47 rfl) ml_L_81 mv_X11_share rfl (by decide) (by decide) c2 (by decide) (by decide) rfl rfl (Nat.le_of_ble_eq_true rfl) (fun z2 τ2 hP2 => ?_)
  obtain ⟨rfl, hR2⟩ := hP2
  exact x_icmp_eq (E_L_law_8 48 rfl) zr zr (fun _ => kk τ2 hR2) (fun q => absurd rfl q)

theorem lw_15 (hL : G.2.2.2.2.1 ≤ 3584) (hx : ∀ j, rgi (G.2.2.2.2.2 j)) (hR : RR σ) {i : Nat} (hi : i + 7 ≤ G.2.2.2.2.1) (kk : ∀ τ, RR τ → RunX l G M_L_law room_1 1470 [some (vr 1060), some (vr 0), some (vr 114), some (vi (i : Nat))] [] (Wd τ) 174 10272 Q) : RunX l G M_L_law room_1 783 [some (vr 1060), some (vr 0), some (vr 114), some (vi (i : Nat))] [] (Wd σ) 174 10272 Q := by
  refine x_aload_n (E_L_law_8 51 rfl) rfl ?_
  refine x_aload_n (E_L_law_8 52 rfl) rfl ?_
  refine x_iload_n (E_L_law_8 53 rfl) rfl ?_
  refine x_iconst (E_L_law_8 54 rfl) ?_
  refine x_iadd (E_L_law_8 55 rfl) ?_
  refine x_sld (E_L_law_8 56 rfl) (by omega) (by omega) ?_
  refine x_aload_n (E_L_law_8 57 rfl) rfl ?_
  refine x_iload_n (E_L_law_8 58 rfl) rfl ?_
  refine x_iconst (E_L_law_8 59 rfl) ?_
  refine x_iadd (E_L_law_9 0 rfl) ?_
  refine x_sld (E_L_law_9 1 rfl) (by omega) (by omega) ?_
  refine x_aload_n (E_L_law_9 2 rfl) rfl ?_
  refine x_iload_n (E_L_law_9 3 rfl) rfl ?_
  refine x_iconst (E_L_law_9 4 rfl) ?_
  refine x_iadd (E_L_law_9 5 rfl) ?_
  refine x_sld (E_L_law_9 6 rfl) (by omega) (by omega) ?_
  refine x_aload_n (E_L_law_9 7 rfl) rfl ?_
  refine x_iload_n (E_L_law_9 8 rfl) rfl ?_
  refine x_iconst (E_L_law_9 9 rfl) ?_
  refine x_iadd (E_L_law_9 10 rfl) ?_
  refine x_sld (E_L_law_9 11 rfl) (by omega) (by omega) ?_
  obtain ⟨P, c1, c2⟩ := pair_doubt (l := l) (G := G) (x := (G.2.2.2.2.2 (((i : Nat) : Int) + 1).toNat)) (d := (G.2.2.2.2.2 (((i : Nat) : Int) + 2).toNat)) (kn := (G.2.2.2.2.2 (((i : Nat) : Int) + 3).toNat)) (i := (G.2.2.2.2.2 (((i : Nat) : Int) + 4).toNat)) hR (hx _) (hx _) (hx _) (hx _)
  refine w_callVi (E_L_law_9 12 rfl) ml_L_82 mv_X10_doubt rfl (by decide) (by decide) c1 (by decide) (by decide) rfl rfl (by decide) (fun z τ hP => ?_)
  obtain ⟨zr, c2⟩ := c2 z τ hP
  refine x_aload_n (E_L_law_9 13 rfl) rfl ?_
  refine x_aload_n (E_L_law_9 14 rfl) rfl ?_
  refine x_iload_n (E_L_law_9 15 rfl) rfl ?_
  refine x_iconst (E_L_law_9 16 rfl) ?_
  refine x_iadd (E_L_law_9 17 rfl) ?_
  refine x_sld (E_L_law_9 18 rfl) (by omega) (by omega) ?_
  refine x_aload_n (E_L_law_9 19 rfl) rfl ?_
  refine x_iload_n (E_L_law_9 20 rfl) rfl ?_
  refine x_iconst (E_L_law_9 21 rfl) ?_
  refine x_iadd (E_L_law_9 22 rfl) ?_
  refine x_sld (E_L_law_9 23 rfl) (by omega) (by omega) ?_
  refine x_aload_n (E_L_law_9 24 rfl) rfl ?_
  refine x_iload_n (E_L_law_9 25 rfl) rfl ?_
  refine x_iconst (E_L_law_9 26 rfl) ?_
  refine x_iadd (E_L_law_9 27 rfl) ?_
  refine x_sld (E_L_law_9 28 rfl) (by omega) (by omega) ?_
  refine x_aload_n (E_L_law_9 29 rfl) rfl ?_
  refine x_iload_n (E_L_law_9 30 rfl) rfl ?_
  refine x_iconst (E_L_law_9 31 rfl) ?_
  refine x_iadd (E_L_law_9 32 rfl) ?_
  refine x_sld (E_L_law_9 33 rfl) (by omega) (by omega) ?_
  refine w_callVi (E_L_law_9 34 rfl) ml_L_85 mv_X11_doubt rfl (by decide) (by decide) c2 (by decide) (by decide) rfl rfl (Nat.le_of_ble_eq_true rfl) (fun z2 τ2 hP2 => ?_)
  obtain ⟨rfl, hR2⟩ := hP2
  exact x_icmp_eq (E_L_law_9 35 rfl) zr zr (fun _ => kk τ2 hR2) (fun q => absurd rfl q)

theorem lw_16 (hL : G.2.2.2.2.1 ≤ 3584) (hx : ∀ j, rgi (G.2.2.2.2.2 j)) (hR : RR σ) {i : Nat} (hi : i + 7 ≤ G.2.2.2.2.1) (kk : ∀ τ, RR τ → RunX l G M_L_law room_1 1470 [some (vr 1060), some (vr 0), some (vr 114), some (vi (i : Nat))] [] (Wd τ) 174 10272 Q) : RunX l G M_L_law room_1 836 [some (vr 1060), some (vr 0), some (vr 114), some (vi (i : Nat))] [] (Wd σ) 174 10272 Q := by
  refine x_aload_n (E_L_law_9 38 rfl) rfl ?_
  refine x_aload_n (E_L_law_9 39 rfl) rfl ?_
  refine x_iload_n (E_L_law_9 40 rfl) rfl ?_
  refine x_iconst (E_L_law_9 41 rfl) ?_
  refine x_iadd (E_L_law_9 42 rfl) ?_
  refine x_sld (E_L_law_9 43 rfl) (by omega) (by omega) ?_
  refine x_aload_n (E_L_law_9 44 rfl) rfl ?_
  refine x_iload_n (E_L_law_9 45 rfl) rfl ?_
  refine x_iconst (E_L_law_9 46 rfl) ?_
  refine x_iadd (E_L_law_9 47 rfl) ?_
  refine x_sld (E_L_law_9 48 rfl) (by omega) (by omega) ?_
  refine x_aload_n (E_L_law_9 49 rfl) rfl ?_
  refine x_iload_n (E_L_law_9 50 rfl) rfl ?_
  refine x_iconst (E_L_law_9 51 rfl) ?_
  refine x_iadd (E_L_law_9 52 rfl) ?_
  refine x_sld (E_L_law_9 53 rfl) (by omega) (by omega) ?_
  obtain ⟨P, c1, c2⟩ := pair_stock (l := l) (G := G) (h := (G.2.2.2.2.2 (((i : Nat) : Int) + 1).toNat)) (so := (G.2.2.2.2.2 (((i : Nat) : Int) + 2).toNat)) (q := (G.2.2.2.2.2 (((i : Nat) : Int) + 3).toNat)) hR (hx _) (hx _) (hx _)
  refine w_callVi (E_L_law_9 54 rfl) ml_L_86 mv_X10_stock rfl (by decide) (by decide) c1 (by decide) (by decide) rfl rfl (by decide) (fun z τ hP => ?_)
  obtain ⟨zr, c2⟩ := c2 z τ hP
  refine x_aload_n (E_L_law_9 55 rfl) rfl ?_
  refine x_aload_n (E_L_law_9 56 rfl) rfl ?_
  refine x_iload_n (E_L_law_9 57 rfl) rfl ?_
  refine x_iconst (E_L_law_9 58 rfl) ?_
  refine x_iadd (E_L_law_9 59 rfl) ?_
  refine x_sld (E_L_law_10 0 rfl) (by omega) (by omega) ?_
  refine x_aload_n (E_L_law_10 1 rfl) rfl ?_
  refine x_iload_n (E_L_law_10 2 rfl) rfl ?_
  refine x_iconst (E_L_law_10 3 rfl) ?_
  refine x_iadd (E_L_law_10 4 rfl) ?_
  refine x_sld (E_L_law_10 5 rfl) (by omega) (by omega) ?_
  refine x_aload_n (E_L_law_10 6 rfl) rfl ?_
  refine x_iload_n (E_L_law_10 7 rfl) rfl ?_
  refine x_iconst (E_L_law_10 8 rfl) ?_
  refine x_iadd (E_L_law_10 9 rfl) ?_
  refine x_sld (E_L_law_10 10 rfl) (by omega) (by omega) ?_
  refine w_callVi (E_L_law_10 11 rfl) ml_L_90 mv_X11_stock rfl (by decide) (by decide) c2 (by decide) (by decide) rfl rfl (Nat.le_of_ble_eq_true rfl) (fun z2 τ2 hP2 => ?_)
  obtain ⟨rfl, hR2⟩ := hP2
  exact x_icmp_eq (E_L_law_10 12 rfl) zr zr (fun _ => kk τ2 hR2) (fun q => absurd rfl q)

theorem lw_17 (hL : G.2.2.2.2.1 ≤ 3584) (hx : ∀ j, rgi (G.2.2.2.2.2 j)) (hR : RR σ) {i : Nat} (hi : i + 7 ≤ G.2.2.2.2.1) (kk : ∀ τ, RR τ → RunX l G M_L_law room_1 1470 [some (vr 1060), some (vr 0), some (vr 114), some (vi (i : Nat))] [] (Wd τ) 174 10272 Q) : RunX l G M_L_law room_1 879 [some (vr 1060), some (vr 0), some (vr 114), some (vi (i : Nat))] [] (Wd σ) 174 10272 Q := by
  refine x_aload_n (E_L_law_10 15 rfl) rfl ?_
  refine x_aload_n (E_L_law_10 16 rfl) rfl ?_
  refine x_iload_n (E_L_law_10 17 rfl) rfl ?_
  refine x_iconst (E_L_law_10 18 rfl) ?_
  refine x_iadd (E_L_law_10 19 rfl) ?_
  refine x_sld (E_L_law_10 20 rfl) (by omega) (by omega) ?_
  refine x_aload_n (E_L_law_10 21 rfl) rfl ?_
  refine x_iload_n (E_L_law_10 22 rfl) rfl ?_
  refine x_iconst (E_L_law_10 23 rfl) ?_
  refine x_iadd (E_L_law_10 24 rfl) ?_
  refine x_sld (E_L_law_10 25 rfl) (by omega) (by omega) ?_
  refine x_aload_n (E_L_law_10 26 rfl) rfl ?_
  refine x_iload_n (E_L_law_10 27 rfl) rfl ?_
  refine x_iconst (E_L_law_10 28 rfl) ?_
  refine x_iadd (E_L_law_10 29 rfl) ?_
  refine x_sld (E_L_law_10 30 rfl) (by omega) (by omega) ?_
  obtain ⟨P, c1, c2⟩ := pair_news (l := l) (G := G) (d := (G.2.2.2.2.2 (((i : Nat) : Int) + 1).toNat)) (a := (G.2.2.2.2.2 (((i : Nat) : Int) + 2).toNat)) (b := (G.2.2.2.2.2 (((i : Nat) : Int) + 3).toNat)) hR (hx _) (hx _) (hx _)
  refine w_callVi (E_L_law_10 31 rfl) ml_L_91 mv_X10_news rfl (by decide) (by decide) c1 (by decide) (by decide) rfl rfl (by decide) (fun z τ hP => ?_)
  obtain ⟨zr, c2⟩ := c2 z τ hP
  refine x_aload_n (E_L_law_10 32 rfl) rfl ?_
  refine x_aload_n (E_L_law_10 33 rfl) rfl ?_
  refine x_iload_n (E_L_law_10 34 rfl) rfl ?_
  refine x_iconst (E_L_law_10 35 rfl) ?_
  refine x_iadd (E_L_law_10 36 rfl) ?_
  refine x_sld (E_L_law_10 37 rfl) (by omega) (by omega) ?_
  refine x_aload_n (E_L_law_10 38 rfl) rfl ?_
  refine x_iload_n (E_L_law_10 39 rfl) rfl ?_
  refine x_iconst (E_L_law_10 40 rfl) ?_
  refine x_iadd (E_L_law_10 41 rfl) ?_
  refine x_sld (E_L_law_10 42 rfl) (by omega) (by omega) ?_
  refine x_aload_n (E_L_law_10 43 rfl) rfl ?_
  refine x_iload_n (E_L_law_10 44 rfl) rfl ?_
  refine x_iconst (E_L_law_10 45 rfl) ?_
  refine x_iadd (E_L_law_10 46 rfl) ?_
  refine x_sld (E_L_law_10 47 rfl) (by omega) (by omega) ?_
  refine w_callVi (E_L_law_10 48 rfl) ml_L_94 mv_X11_news rfl (by decide) (by decide) c2 (by decide) (by decide) rfl rfl (Nat.le_of_ble_eq_true rfl) (fun z2 τ2 hP2 => ?_)
  obtain ⟨rfl, hR2⟩ := hP2
  exact x_icmp_eq (E_L_law_10 49 rfl) zr zr (fun _ => kk τ2 hR2) (fun q => absurd rfl q)

theorem lw_18 (hL : G.2.2.2.2.1 ≤ 3584) (hx : ∀ j, rgi (G.2.2.2.2.2 j)) (hR : RR σ) {i : Nat} (hi : i + 7 ≤ G.2.2.2.2.1) (kk : ∀ τ, RR τ → RunX l G M_L_law room_1 1470 [some (vr 1060), some (vr 0), some (vr 114), some (vi (i : Nat))] [] (Wd τ) 174 10272 Q) : RunX l G M_L_law room_1 922 [some (vr 1060), some (vr 0), some (vr 114), some (vi (i : Nat))] [] (Wd σ) 174 10272 Q := by
  refine x_aload_n (E_L_law_10 52 rfl) rfl ?_
  refine x_aload_n (E_L_law_10 53 rfl) rfl ?_
  refine x_iload_n (E_L_law_10 54 rfl) rfl ?_
  refine x_iconst (E_L_law_10 55 rfl) ?_
  refine x_iadd (E_L_law_10 56 rfl) ?_
  refine x_sld (E_L_law_10 57 rfl) (by omega) (by omega) ?_
  refine x_aload_n (E_L_law_10 58 rfl) rfl ?_
  refine x_iload_n (E_L_law_10 59 rfl) rfl ?_
  refine x_iconst (E_L_law_11 0 rfl) ?_
  refine x_iadd (E_L_law_11 1 rfl) ?_
  refine x_sld (E_L_law_11 2 rfl) (by omega) (by omega) ?_
  obtain ⟨P, c1, c2⟩ := pair_rent (l := l) (G := G) (x := (G.2.2.2.2.2 (((i : Nat) : Int) + 1).toNat)) (d := (G.2.2.2.2.2 (((i : Nat) : Int) + 2).toNat)) hR (hx _) (hx _)
  refine w_callVi (E_L_law_11 3 rfl) ml_L_95 mv_X10_rent rfl (by decide) (by decide) c1 (by decide) (by decide) rfl rfl (by decide) (fun z τ hP => ?_)
  obtain ⟨zr, c2⟩ := c2 z τ hP
  refine x_aload_n (E_L_law_11 4 rfl) rfl ?_
  refine x_aload_n (E_L_law_11 5 rfl) rfl ?_
  refine x_iload_n (E_L_law_11 6 rfl) rfl ?_
  refine x_iconst (E_L_law_11 7 rfl) ?_
  refine x_iadd (E_L_law_11 8 rfl) ?_
  refine x_sld (E_L_law_11 9 rfl) (by omega) (by omega) ?_
  refine x_aload_n (E_L_law_11 10 rfl) rfl ?_
  refine x_iload_n (E_L_law_11 11 rfl) rfl ?_
  refine x_iconst (E_L_law_11 12 rfl) ?_
  refine x_iadd (E_L_law_11 13 rfl) ?_
  refine x_sld (E_L_law_11 14 rfl) (by omega) (by omega) ?_
  refine w_callVi (E_L_law_11 15 rfl) ml_L_98 mv_X11_rent rfl (by decide) (by decide) c2 (by decide) (by decide) rfl rfl (Nat.le_of_ble_eq_true rfl) (fun z2 τ2 hP2 => ?_)
  obtain ⟨rfl, hR2⟩ := hP2
  exact x_icmp_eq (E_L_law_11 16 rfl) zr zr (fun _ => kk τ2 hR2) (fun q => absurd rfl q)

theorem lw_19 (hL : G.2.2.2.2.1 ≤ 3584) (hx : ∀ j, rgi (G.2.2.2.2.2 j)) (hR : RR σ) {i : Nat} (hi : i + 7 ≤ G.2.2.2.2.1) (kk : ∀ τ, RR τ → RunX l G M_L_law room_1 1470 [some (vr 1060), some (vr 0), some (vr 114), some (vi (i : Nat))] [] (Wd τ) 174 10272 Q) : RunX l G M_L_law room_1 955 [some (vr 1060), some (vr 0), some (vr 114), some (vi (i : Nat))] [] (Wd σ) 174 10272 Q := by
  refine x_aload_n (E_L_law_11 19 rfl) rfl ?_
  refine x_aload_n (E_L_law_11 20 rfl) rfl ?_
  refine x_iload_n (E_L_law_11 21 rfl) rfl ?_
  refine x_iconst (E_L_law_11 22 rfl) ?_
  refine x_iadd (E_L_law_11 23 rfl) ?_
  refine x_sld (E_L_law_11 24 rfl) (by omega) (by omega) ?_
  refine x_aload_n (E_L_law_11 25 rfl) rfl ?_
  refine x_iload_n (E_L_law_11 26 rfl) rfl ?_
  refine x_iconst (E_L_law_11 27 rfl) ?_
  refine x_iadd (E_L_law_11 28 rfl) ?_
  refine x_sld (E_L_law_11 29 rfl) (by omega) (by omega) ?_
  obtain ⟨P, c1, c2⟩ := pair_weight (l := l) (G := G) (i := (G.2.2.2.2.2 (((i : Nat) : Int) + 1).toNat)) (d := (G.2.2.2.2.2 (((i : Nat) : Int) + 2).toNat)) hR (hx _) (hx _)
  refine w_callVi (E_L_law_11 30 rfl) ml_L_99 mv_X10_weight rfl (by decide) (by decide) c1 (by decide) (by decide) rfl rfl (by decide) (fun z τ hP => ?_)
  obtain ⟨zr, c2⟩ := c2 z τ hP
  refine x_aload_n (E_L_law_11 31 rfl) rfl ?_
  refine x_aload_n (E_L_law_11 32 rfl) rfl ?_
  refine x_iload_n (E_L_law_11 33 rfl) rfl ?_
  refine x_iconst (E_L_law_11 34 rfl) ?_
  refine x_iadd (E_L_law_11 35 rfl) ?_
  refine x_sld (E_L_law_11 36 rfl) (by omega) (by omega) ?_
  refine x_aload_n (E_L_law_11 37 rfl) rfl ?_
  refine x_iload_n (E_L_law_11 38 rfl) rfl ?_
  refine x_iconst (E_L_law_11 39 rfl) ?_
  refine x_iadd (E_L_law_11 40 rfl) ?_
  refine x_sld (E_L_law_11 41 rfl) (by omega) (by omega) ?_
  refine w_callVi (E_L_law_11 42 rfl) ml_L_102 mv_X11_weight rfl (by decide) (by decide) c2 (by decide) (by decide) rfl rfl (Nat.le_of_ble_eq_true rfl) (fun z2 τ2 hP2 => ?_)
  obtain ⟨rfl, hR2⟩ := hP2
  exact x_icmp_eq (E_L_law_11 43 rfl) zr zr (fun _ => kk τ2 hR2) (fun q => absurd rfl q)

theorem lw_20 (hL : G.2.2.2.2.1 ≤ 3584) (hx : ∀ j, rgi (G.2.2.2.2.2 j)) (hR : RR σ) {i : Nat} (hi : i + 7 ≤ G.2.2.2.2.1) (kk : ∀ τ, RR τ → RunX l G M_L_law room_1 1470 [some (vr 1060), some (vr 0), some (vr 114), some (vi (i : Nat))] [] (Wd τ) 174 10272 Q) : RunX l G M_L_law room_1 988 [some (vr 1060), some (vr 0), some (vr 114), some (vi (i : Nat))] [] (Wd σ) 174 10272 Q := by
  refine x_aload_n (E_L_law_11 46 rfl) rfl ?_
  refine x_aload_n (E_L_law_11 47 rfl) rfl ?_
  refine x_iload_n (E_L_law_11 48 rfl) rfl ?_
  refine x_iconst (E_L_law_11 49 rfl) ?_
  refine x_iadd (E_L_law_11 50 rfl) ?_
  refine x_sld (E_L_law_11 51 rfl) (by omega) (by omega) ?_
  refine x_aload_n (E_L_law_11 52 rfl) rfl ?_
  refine x_iload_n (E_L_law_11 53 rfl) rfl ?_
  refine x_iconst (E_L_law_11 54 rfl) ?_
  refine x_iadd (E_L_law_11 55 rfl) ?_
  refine x_sld (E_L_law_11 56 rfl) (by omega) (by omega) ?_
  refine x_aload_n (E_L_law_11 57 rfl) rfl ?_
  refine x_iload_n (E_L_law_11 58 rfl) rfl ?_
  refine x_iconst (E_L_law_11 59 rfl) ?_
  refine x_iadd (E_L_law_12 0 rfl) ?_
  refine x_sld (E_L_law_12 1 rfl) (by omega) (by omega) ?_
  obtain ⟨P, c1, c2⟩ := pair_weigh (l := l) (G := G) (i := (G.2.2.2.2.2 (((i : Nat) : Int) + 1).toNat)) (n := (G.2.2.2.2.2 (((i : Nat) : Int) + 2).toNat)) (w := (G.2.2.2.2.2 (((i : Nat) : Int) + 3).toNat)) hR (hx _) (hx _) (hx _)
  refine w_callVi (E_L_law_12 2 rfl) ml_L_103 mv_X10_weigh rfl (by decide) (by decide) c1 (by decide) (by decide) rfl rfl (by decide) (fun z τ hP => ?_)
  obtain ⟨zr, c2⟩ := c2 z τ hP
  refine x_aload_n (E_L_law_12 3 rfl) rfl ?_
  refine x_aload_n (E_L_law_12 4 rfl) rfl ?_
  refine x_iload_n (E_L_law_12 5 rfl) rfl ?_
  refine x_iconst (E_L_law_12 6 rfl) ?_
  refine x_iadd (E_L_law_12 7 rfl) ?_
  refine x_sld (E_L_law_12 8 rfl) (by omega) (by omega) ?_
  refine x_aload_n (E_L_law_12 9 rfl) rfl ?_
  refine x_iload_n (E_L_law_12 10 rfl) rfl ?_
  refine x_iconst (E_L_law_12 11 rfl) ?_
  refine x_iadd (E_L_law_12 12 rfl) ?_
  refine x_sld (E_L_law_12 13 rfl) (by omega) (by omega) ?_
  refine x_aload_n (E_L_law_12 14 rfl) rfl ?_
  refine x_iload_n (E_L_law_12 15 rfl) rfl ?_
  refine x_iconst (E_L_law_12 16 rfl) ?_
  refine x_iadd (E_L_law_12 17 rfl) ?_
  refine x_sld (E_L_law_12 18 rfl) (by omega) (by omega) ?_
  refine w_callVi (E_L_law_12 19 rfl) ml_L_106 mv_X11_weigh rfl (by decide) (by decide) c2 (by decide) (by decide) rfl rfl (Nat.le_of_ble_eq_true rfl) (fun z2 τ2 hP2 => ?_)
  obtain ⟨rfl, hR2⟩ := hP2
  exact x_icmp_eq (E_L_law_12 20 rfl) zr zr (fun _ => kk τ2 hR2) (fun q => absurd rfl q)

theorem lw_21 (hL : G.2.2.2.2.1 ≤ 3584) (hx : ∀ j, rgi (G.2.2.2.2.2 j)) (hR : RR σ) {i : Nat} (hi : i + 7 ≤ G.2.2.2.2.1) (kk : ∀ τ, RR τ → RunX l G M_L_law room_1 1470 [some (vr 1060), some (vr 0), some (vr 114), some (vi (i : Nat))] [] (Wd τ) 174 10272 Q) : RunX l G M_L_law room_1 1031 [some (vr 1060), some (vr 0), some (vr 114), some (vi (i : Nat))] [] (Wd σ) 174 10272 Q := by
  refine x_aload_n (E_L_law_12 23 rfl) rfl ?_
  refine x_aload_n (E_L_law_12 24 rfl) rfl ?_
  refine x_iload_n (E_L_law_12 25 rfl) rfl ?_
  refine x_iconst (E_L_law_12 26 rfl) ?_
  refine x_iadd (E_L_law_12 27 rfl) ?_
  refine x_sld (E_L_law_12 28 rfl) (by omega) (by omega) ?_
  refine x_aload_n (E_L_law_12 29 rfl) rfl ?_
  refine x_iload_n (E_L_law_12 30 rfl) rfl ?_
  refine x_iconst (E_L_law_12 31 rfl) ?_
  refine x_iadd (E_L_law_12 32 rfl) ?_
  refine x_sld (E_L_law_12 33 rfl) (by omega) (by omega) ?_
  obtain ⟨P, c1, c2⟩ := pair_loss (l := l) (G := G) (i := (G.2.2.2.2.2 (((i : Nat) : Int) + 1).toNat)) (w := (G.2.2.2.2.2 (((i : Nat) : Int) + 2).toNat)) hR (hx _) (hx _)
  refine w_callVi (E_L_law_12 34 rfl) ml_L_107 mv_X10_loss rfl (by decide) (by decide) c1 (by decide) (by decide) rfl rfl (by decide) (fun z τ hP => ?_)
  obtain ⟨zr, c2⟩ := c2 z τ hP
  refine x_aload_n (E_L_law_12 35 rfl) rfl ?_
  refine x_aload_n (E_L_law_12 36 rfl) rfl ?_
  refine x_iload_n (E_L_law_12 37 rfl) rfl ?_
  refine x_iconst (E_L_law_12 38 rfl) ?_
  refine x_iadd (E_L_law_12 39 rfl) ?_
  refine x_sld (E_L_law_12 40 rfl) (by omega) (by omega) ?_
  refine x_aload_n (E_L_law_12 41 rfl) rfl ?_
  refine x_iload_n (E_L_law_12 42 rfl) rfl ?_
  refine x_iconst (E_L_law_12 43 rfl) ?_
  refine x_iadd (E_L_law_12 44 rfl) ?_
  refine x_sld (E_L_law_12 45 rfl) (by omega) (by omega) ?_
  refine w_callVi (E_L_law_12 46 rfl) ml_L_110 mv_X11_loss rfl (by decide) (by decide) c2 (by decide) (by decide) rfl rfl (Nat.le_of_ble_eq_true rfl) (fun z2 τ2 hP2 => ?_)
  obtain ⟨rfl, hR2⟩ := hP2
  exact x_icmp_eq (E_L_law_12 47 rfl) zr zr (fun _ => kk τ2 hR2) (fun q => absurd rfl q)

theorem lw_22 (hL : G.2.2.2.2.1 ≤ 3584) (hx : ∀ j, rgi (G.2.2.2.2.2 j)) (hR : RR σ) {i : Nat} (hi : i + 7 ≤ G.2.2.2.2.1) (kk : ∀ τ, RR τ → RunX l G M_L_law room_1 1470 [some (vr 1060), some (vr 0), some (vr 114), some (vi (i : Nat))] [] (Wd τ) 174 10272 Q) : RunX l G M_L_law room_1 1064 [some (vr 1060), some (vr 0), some (vr 114), some (vi (i : Nat))] [] (Wd σ) 174 10272 Q := by
  refine x_aload_n (E_L_law_12 50 rfl) rfl ?_
  refine x_aload_n (E_L_law_12 51 rfl) rfl ?_
  refine x_iload_n (E_L_law_12 52 rfl) rfl ?_
  refine x_iconst (E_L_law_12 53 rfl) ?_
  refine x_iadd (E_L_law_12 54 rfl) ?_
  refine x_sld (E_L_law_12 55 rfl) (by omega) (by omega) ?_
  refine x_aload_n (E_L_law_12 56 rfl) rfl ?_
  refine x_iload_n (E_L_law_12 57 rfl) rfl ?_
  refine x_iconst (E_L_law_12 58 rfl) ?_
  refine x_iadd (E_L_law_12 59 rfl) ?_
  refine x_sld (E_L_law_13 0 rfl) (by omega) (by omega) ?_
  refine x_aload_n (E_L_law_13 1 rfl) rfl ?_
  refine x_iload_n (E_L_law_13 2 rfl) rfl ?_
  refine x_iconst (E_L_law_13 3 rfl) ?_
  refine x_iadd (E_L_law_13 4 rfl) ?_
  refine x_sld (E_L_law_13 5 rfl) (by omega) (by omega) ?_
  obtain ⟨P, c1, c2⟩ := pair_unpaid (l := l) (G := G) (h := (G.2.2.2.2.2 (((i : Nat) : Int) + 1).toNat)) (i := (G.2.2.2.2.2 (((i : Nat) : Int) + 2).toNat)) (v := (G.2.2.2.2.2 (((i : Nat) : Int) + 3).toNat)) hR (hx _) (hx _) (hx _)
  refine w_callVi (E_L_law_13 6 rfl) ml_L_111 mv_X10_unpaid rfl (by decide) (by decide) c1 (by decide) (by decide) rfl rfl (by decide) (fun z τ hP => ?_)
  obtain ⟨zr, c2⟩ := c2 z τ hP
  refine x_aload_n (E_L_law_13 7 rfl) rfl ?_
  refine x_aload_n (E_L_law_13 8 rfl) rfl ?_
  refine x_iload_n (E_L_law_13 9 rfl) rfl ?_
  refine x_iconst (E_L_law_13 10 rfl) ?_
  refine x_iadd (E_L_law_13 11 rfl) ?_
  refine x_sld (E_L_law_13 12 rfl) (by omega) (by omega) ?_
  refine x_aload_n (E_L_law_13 13 rfl) rfl ?_
  refine x_iload_n (E_L_law_13 14 rfl) rfl ?_
  refine x_iconst (E_L_law_13 15 rfl) ?_
  refine x_iadd (E_L_law_13 16 rfl) ?_
  refine x_sld (E_L_law_13 17 rfl) (by omega) (by omega) ?_
  refine x_aload_n (E_L_law_13 18 rfl) rfl ?_
  refine x_iload_n (E_L_law_13 19 rfl) rfl ?_
  refine x_iconst (E_L_law_13 20 rfl) ?_
  refine x_iadd (E_L_law_13 21 rfl) ?_
  refine x_sld (E_L_law_13 22 rfl) (by omega) (by omega) ?_
  refine w_callVi (E_L_law_13 23 rfl) ml_L_114 mv_X11_unpaid rfl (by decide) (by decide) c2 (by decide) (by decide) rfl rfl (Nat.le_of_ble_eq_true rfl) (fun z2 τ2 hP2 => ?_)
  obtain ⟨rfl, hR2⟩ := hP2
  exact x_icmp_eq (E_L_law_13 24 rfl) zr zr (fun _ => kk τ2 hR2) (fun q => absurd rfl q)

theorem lw_23 (hL : G.2.2.2.2.1 ≤ 3584) (hx : ∀ j, rgi (G.2.2.2.2.2 j)) (hR : RR σ) {i : Nat} (hi : i + 7 ≤ G.2.2.2.2.1) (kk : ∀ τ, RR τ → RunX l G M_L_law room_1 1470 [some (vr 1060), some (vr 0), some (vr 114), some (vi (i : Nat))] [] (Wd τ) 174 10272 Q) : RunX l G M_L_law room_1 1107 [some (vr 1060), some (vr 0), some (vr 114), some (vi (i : Nat))] [] (Wd σ) 174 10272 Q := by
  refine x_aload_n (E_L_law_13 27 rfl) rfl ?_
  refine x_aload_n (E_L_law_13 28 rfl) rfl ?_
  refine x_iload_n (E_L_law_13 29 rfl) rfl ?_
  refine x_iconst (E_L_law_13 30 rfl) ?_
  refine x_iadd (E_L_law_13 31 rfl) ?_
  refine x_sld (E_L_law_13 32 rfl) (by omega) (by omega) ?_
  refine x_aload_n (E_L_law_13 33 rfl) rfl ?_
  refine x_iload_n (E_L_law_13 34 rfl) rfl ?_
  refine x_iconst (E_L_law_13 35 rfl) ?_
  refine x_iadd (E_L_law_13 36 rfl) ?_
  refine x_sld (E_L_law_13 37 rfl) (by omega) (by omega) ?_
  refine x_aload_n (E_L_law_13 38 rfl) rfl ?_
  refine x_iload_n (E_L_law_13 39 rfl) rfl ?_
  refine x_iconst (E_L_law_13 40 rfl) ?_
  refine x_iadd (E_L_law_13 41 rfl) ?_
  refine x_sld (E_L_law_13 42 rfl) (by omega) (by omega) ?_
  refine x_aload_n (E_L_law_13 43 rfl) rfl ?_
  refine x_iload_n (E_L_law_13 44 rfl) rfl ?_
  refine x_iconst (E_L_law_13 45 rfl) ?_
  refine x_iadd (E_L_law_13 46 rfl) ?_
  refine x_sld (E_L_law_13 47 rfl) (by omega) (by omega) ?_
  obtain ⟨P, c1, c2⟩ := pair_money (l := l) (G := G) (x := (G.2.2.2.2.2 (((i : Nat) : Int) + 1).toNat)) (m := (G.2.2.2.2.2 (((i : Nat) : Int) + 2).toNat)) (d := (G.2.2.2.2.2 (((i : Nat) : Int) + 3).toNat)) (q := (G.2.2.2.2.2 (((i : Nat) : Int) + 4).toNat)) hR (hx _) (hx _) (hx _) (hx _)
  refine w_callVi (E_L_law_13 48 rfl) ml_L_115 mv_X10_money rfl (by decide) (by decide) c1 (by decide) (by decide) rfl rfl (by decide) (fun z τ hP => ?_)
  obtain ⟨zr, c2⟩ := c2 z τ hP
  refine x_aload_n (E_L_law_13 49 rfl) rfl ?_
  refine x_aload_n (E_L_law_13 50 rfl) rfl ?_
  refine x_iload_n (E_L_law_13 51 rfl) rfl ?_
  refine x_iconst (E_L_law_13 52 rfl) ?_
  refine x_iadd (E_L_law_13 53 rfl) ?_
  refine x_sld (E_L_law_13 54 rfl) (by omega) (by omega) ?_
  refine x_aload_n (E_L_law_13 55 rfl) rfl ?_
  refine x_iload_n (E_L_law_13 56 rfl) rfl ?_
  refine x_iconst (E_L_law_13 57 rfl) ?_
  refine x_iadd (E_L_law_13 58 rfl) ?_
  refine x_sld (E_L_law_13 59 rfl) (by omega) (by omega) ?_
  refine x_aload_n (E_L_law_14 0 rfl) rfl ?_
  refine x_iload_n (E_L_law_14 1 rfl) rfl ?_
  refine x_iconst (E_L_law_14 2 rfl) ?_
  refine x_iadd (E_L_law_14 3 rfl) ?_
  refine x_sld (E_L_law_14 4 rfl) (by omega) (by omega) ?_
  refine x_aload_n (E_L_law_14 5 rfl) rfl ?_
  refine x_iload_n (E_L_law_14 6 rfl) rfl ?_
  refine x_iconst (E_L_law_14 7 rfl) ?_
  refine x_iadd (E_L_law_14 8 rfl) ?_
  refine x_sld (E_L_law_14 9 rfl) (by omega) (by omega) ?_
  refine w_callVi (E_L_law_14 10 rfl) ml_L_118 mv_X11_money rfl (by decide) (by decide) c2 (by decide) (by decide) rfl rfl (Nat.le_of_ble_eq_true rfl) (fun z2 τ2 hP2 => ?_)
  obtain ⟨rfl, hR2⟩ := hP2
  exact x_icmp_eq (E_L_law_14 11 rfl) zr zr (fun _ => kk τ2 hR2) (fun q => absurd rfl q)

theorem lw_24 (hL : G.2.2.2.2.1 ≤ 3584) (hx : ∀ j, rgi (G.2.2.2.2.2 j)) (hR : RR σ) {i : Nat} (hi : i + 7 ≤ G.2.2.2.2.1) (kk : ∀ τ, RR τ → RunX l G M_L_law room_1 1470 [some (vr 1060), some (vr 0), some (vr 114), some (vi (i : Nat))] [] (Wd τ) 174 10272 Q) : RunX l G M_L_law room_1 1160 [some (vr 1060), some (vr 0), some (vr 114), some (vi (i : Nat))] [] (Wd σ) 174 10272 Q := by
  refine x_aload_n (E_L_law_14 14 rfl) rfl ?_
  refine x_aload_n (E_L_law_14 15 rfl) rfl ?_
  refine x_iload_n (E_L_law_14 16 rfl) rfl ?_
  refine x_iconst (E_L_law_14 17 rfl) ?_
  refine x_iadd (E_L_law_14 18 rfl) ?_
  refine x_sld (E_L_law_14 19 rfl) (by omega) (by omega) ?_
  refine x_aload_n (E_L_law_14 20 rfl) rfl ?_
  refine x_iload_n (E_L_law_14 21 rfl) rfl ?_
  refine x_iconst (E_L_law_14 22 rfl) ?_
  refine x_iadd (E_L_law_14 23 rfl) ?_
  refine x_sld (E_L_law_14 24 rfl) (by omega) (by omega) ?_
  refine x_aload_n (E_L_law_14 25 rfl) rfl ?_
  refine x_iload_n (E_L_law_14 26 rfl) rfl ?_
  refine x_iconst (E_L_law_14 27 rfl) ?_
  refine x_iadd (E_L_law_14 28 rfl) ?_
  refine x_sld (E_L_law_14 29 rfl) (by omega) (by omega) ?_
  refine x_aload_n (E_L_law_14 30 rfl) rfl ?_
  refine x_iload_n (E_L_law_14 31 rfl) rfl ?_
  refine x_iconst (E_L_law_14 32 rfl) ?_
  refine x_iadd (E_L_law_14 33 rfl) ?_
  refine x_sld (E_L_law_14 34 rfl) (by omega) (by omega) ?_
  obtain ⟨P, c1, c2⟩ := pair_sale (l := l) (G := G) (a := (G.2.2.2.2.2 (((i : Nat) : Int) + 1).toNat)) (b := (G.2.2.2.2.2 (((i : Nat) : Int) + 2).toNat)) (so := (G.2.2.2.2.2 (((i : Nat) : Int) + 3).toNat)) (n := (G.2.2.2.2.2 (((i : Nat) : Int) + 4).toNat)) hR (hx _) (hx _) (hx _) (hx _)
  refine w_callVi (E_L_law_14 35 rfl) ml_L_119 mv_X10_sale rfl (by decide) (by decide) c1 (by decide) (by decide) rfl rfl (by decide) (fun z τ hP => ?_)
  obtain ⟨zr, c2⟩ := c2 z τ hP
  refine x_aload_n (E_L_law_14 36 rfl) rfl ?_
  refine x_aload_n (E_L_law_14 37 rfl) rfl ?_
  refine x_iload_n (E_L_law_14 38 rfl) rfl ?_
  refine x_iconst (E_L_law_14 39 rfl) ?_
  refine x_iadd (E_L_law_14 40 rfl) ?_
  refine x_sld (E_L_law_14 41 rfl) (by omega) (by omega) ?_
  refine x_aload_n (E_L_law_14 42 rfl) rfl ?_
  refine x_iload_n (E_L_law_14 43 rfl) rfl ?_
  refine x_iconst (E_L_law_14 44 rfl) ?_
  refine x_iadd (E_L_law_14 45 rfl) ?_
  refine x_sld (E_L_law_14 46 rfl) (by omega) (by omega) ?_
  refine x_aload_n (E_L_law_14 47 rfl) rfl ?_
  refine x_iload_n (E_L_law_14 48 rfl) rfl ?_
  refine x_iconst (E_L_law_14 49 rfl) ?_
  refine x_iadd (E_L_law_14 50 rfl) ?_
  refine x_sld (E_L_law_14 51 rfl) (by omega) (by omega) ?_
  refine x_aload_n (E_L_law_14 52 rfl) rfl ?_
  refine x_iload_n (E_L_law_14 53 rfl) rfl ?_
  refine x_iconst (E_L_law_14 54 rfl) ?_
  refine x_iadd (E_L_law_14 55 rfl) ?_
  refine x_sld (E_L_law_14 56 rfl) (by omega) (by omega) ?_
  refine w_callVi (E_L_law_14 57 rfl) ml_L_122 mv_X11_sale rfl (by decide) (by decide) c2 (by decide) (by decide) rfl rfl (Nat.le_of_ble_eq_true rfl) (fun z2 τ2 hP2 => ?_)
  obtain ⟨rfl, hR2⟩ := hP2
  exact x_icmp_eq (E_L_law_14 58 rfl) zr zr (fun _ => kk τ2 hR2) (fun q => absurd rfl q)

theorem lw_25 (hL : G.2.2.2.2.1 ≤ 3584) (hx : ∀ j, rgi (G.2.2.2.2.2 j)) (hR : RR σ) {i : Nat} (hi : i + 7 ≤ G.2.2.2.2.1) (kk : ∀ τ, RR τ → RunX l G M_L_law room_1 1470 [some (vr 1060), some (vr 0), some (vr 114), some (vi (i : Nat))] [] (Wd τ) 174 10272 Q) : RunX l G M_L_law room_1 1213 [some (vr 1060), some (vr 0), some (vr 114), some (vi (i : Nat))] [] (Wd σ) 174 10272 Q := by
  refine x_aload_n (E_L_law_15 1 rfl) rfl ?_
  refine x_aload_n (E_L_law_15 2 rfl) rfl ?_
  refine x_iload_n (E_L_law_15 3 rfl) rfl ?_
  refine x_iconst (E_L_law_15 4 rfl) ?_
  refine x_iadd (E_L_law_15 5 rfl) ?_
  refine x_sld (E_L_law_15 6 rfl) (by omega) (by omega) ?_
  refine x_aload_n (E_L_law_15 7 rfl) rfl ?_
  refine x_iload_n (E_L_law_15 8 rfl) rfl ?_
  refine x_iconst (E_L_law_15 9 rfl) ?_
  refine x_iadd (E_L_law_15 10 rfl) ?_
  refine x_sld (E_L_law_15 11 rfl) (by omega) (by omega) ?_
  obtain ⟨P, c1, c2⟩ := pair_net (l := l) (G := G) (h := (G.2.2.2.2.2 (((i : Nat) : Int) + 1).toNat)) (so := (G.2.2.2.2.2 (((i : Nat) : Int) + 2).toNat)) hR (hx _) (hx _)
  refine w_callVi (E_L_law_15 12 rfl) ml_L_123 mv_X10_net rfl (by decide) (by decide) c1 (by decide) (by decide) rfl rfl (by decide) (fun z τ hP => ?_)
  obtain ⟨zr, c2⟩ := c2 z τ hP
  refine x_aload_n (E_L_law_15 13 rfl) rfl ?_
  refine x_aload_n (E_L_law_15 14 rfl) rfl ?_
  refine x_iload_n (E_L_law_15 15 rfl) rfl ?_
  refine x_iconst (E_L_law_15 16 rfl) ?_
  refine x_iadd (E_L_law_15 17 rfl) ?_
  refine x_sld (E_L_law_15 18 rfl) (by omega) (by omega) ?_
  refine x_aload_n (E_L_law_15 19 rfl) rfl ?_
  refine x_iload_n (E_L_law_15 20 rfl) rfl ?_
  refine x_iconst (E_L_law_15 21 rfl) ?_
  refine x_iadd (E_L_law_15 22 rfl) ?_
  refine x_sld (E_L_law_15 23 rfl) (by omega) (by omega) ?_
  refine w_callVi (E_L_law_15 24 rfl) ml_L_126 mv_X11_net rfl (by decide) (by decide) c2 (by decide) (by decide) rfl rfl (Nat.le_of_ble_eq_true rfl) (fun z2 τ2 hP2 => ?_)
  obtain ⟨rfl, hR2⟩ := hP2
  exact x_icmp_eq (E_L_law_15 25 rfl) zr zr (fun _ => kk τ2 hR2) (fun q => absurd rfl q)

theorem lw_26 (hL : G.2.2.2.2.1 ≤ 3584) (hx : ∀ j, rgi (G.2.2.2.2.2 j)) (hR : RR σ) {i : Nat} (hi : i + 7 ≤ G.2.2.2.2.1) (kk : ∀ τ, RR τ → RunX l G M_L_law room_1 1470 [some (vr 1060), some (vr 0), some (vr 114), some (vi (i : Nat))] [] (Wd τ) 174 10272 Q) : RunX l G M_L_law room_1 1246 [some (vr 1060), some (vr 0), some (vr 114), some (vi (i : Nat))] [] (Wd σ) 174 10272 Q := by
  refine x_aload_n (E_L_law_15 28 rfl) rfl ?_
  refine x_aload_n (E_L_law_15 29 rfl) rfl ?_
  refine x_iload_n (E_L_law_15 30 rfl) rfl ?_
  refine x_iconst (E_L_law_15 31 rfl) ?_
  refine x_iadd (E_L_law_15 32 rfl) ?_
  refine x_sld (E_L_law_15 33 rfl) (by omega) (by omega) ?_
  obtain ⟨P, c1, c2⟩ := pair_handings (l := l) (G := G) (so := (G.2.2.2.2.2 (((i : Nat) : Int) + 1).toNat)) hR (hx _)
  refine w_callVi (E_L_law_15 34 rfl) ml_L_127 mv_X10_handings rfl (by decide) (by decide) c1 (by decide) (by decide) rfl rfl (by decide) (fun z τ hP => ?_)
  obtain ⟨zr, c2⟩ := c2 z τ hP
  refine x_aload_n (E_L_law_15 35 rfl) rfl ?_
  refine x_aload_n (E_L_law_15 36 rfl) rfl ?_
  refine x_iload_n (E_L_law_15 37 rfl) rfl ?_
  refine x_iconst (E_L_law_15 38 rfl) ?_
  refine x_iadd (E_L_law_15 39 rfl) ?_
  refine x_sld (E_L_law_15 40 rfl) (by omega) (by omega) ?_
  refine w_callVi (E_L_law_15 41 rfl) ml_L_130 mv_X11_handings rfl (by decide) (by decide) c2 (by decide) (by decide) rfl rfl (Nat.le_of_ble_eq_true rfl) (fun z2 τ2 hP2 => ?_)
  obtain ⟨rfl, hR2⟩ := hP2
  exact x_icmp_eq (E_L_law_15 42 rfl) zr zr (fun _ => kk τ2 hR2) (fun q => absurd rfl q)

theorem lw_27 (hL : G.2.2.2.2.1 ≤ 3584) (hx : ∀ j, rgi (G.2.2.2.2.2 j)) (hR : RR σ) {i : Nat} (hi : i + 7 ≤ G.2.2.2.2.1) (kk : ∀ τ, RR τ → RunX l G M_L_law room_1 1470 [some (vr 1060), some (vr 0), some (vr 114), some (vi (i : Nat))] [] (Wd τ) 174 10272 Q) : RunX l G M_L_law room_1 1269 [some (vr 1060), some (vr 0), some (vr 114), some (vi (i : Nat))] [] (Wd σ) 174 10272 Q := by
  refine x_aload_n (E_L_law_15 45 rfl) rfl ?_
  refine x_aload_n (E_L_law_15 46 rfl) rfl ?_
  refine x_iload_n (E_L_law_15 47 rfl) rfl ?_
  refine x_iconst (E_L_law_15 48 rfl) ?_
  refine x_iadd (E_L_law_15 49 rfl) ?_
  refine x_sld (E_L_law_15 50 rfl) (by omega) (by omega) ?_
  refine x_aload_n (E_L_law_15 51 rfl) rfl ?_
  refine x_iload_n (E_L_law_15 52 rfl) rfl ?_
  refine x_iconst (E_L_law_15 53 rfl) ?_
  refine x_iadd (E_L_law_15 54 rfl) ?_
  refine x_sld (E_L_law_15 55 rfl) (by omega) (by omega) ?_
  refine x_aload_n (E_L_law_15 56 rfl) rfl ?_
  refine x_iload_n (E_L_law_15 57 rfl) rfl ?_
  refine x_iconst (E_L_law_15 58 rfl) ?_
  refine x_iadd (E_L_law_15 59 rfl) ?_
  refine x_sld (E_L_law_16 0 rfl) (by omega) (by omega) ?_
  obtain ⟨P, c1, c2⟩ := pair_due (l := l) (G := G) (a := (G.2.2.2.2.2 (((i : Nat) : Int) + 1).toNat)) (b := (G.2.2.2.2.2 (((i : Nat) : Int) + 2).toNat)) (v := (G.2.2.2.2.2 (((i : Nat) : Int) + 3).toNat)) hR (hx _) (hx _) (hx _)
  refine w_callVi (E_L_law_16 1 rfl) ml_L_131 mv_X10_due rfl (by decide) (by decide) c1 (by decide) (by decide) rfl rfl (by decide) (fun z τ hP => ?_)
  obtain ⟨zr, c2⟩ := c2 z τ hP
  refine x_aload_n (E_L_law_16 2 rfl) rfl ?_
  refine x_aload_n (E_L_law_16 3 rfl) rfl ?_
  refine x_iload_n (E_L_law_16 4 rfl) rfl ?_
  refine x_iconst (E_L_law_16 5 rfl) ?_
  refine x_iadd (E_L_law_16 6 rfl) ?_
  refine x_sld (E_L_law_16 7 rfl) (by omega) (by omega) ?_
  refine x_aload_n (E_L_law_16 8 rfl) rfl ?_
  refine x_iload_n (E_L_law_16 9 rfl) rfl ?_
  refine x_iconst (E_L_law_16 10 rfl) ?_
  refine x_iadd (E_L_law_16 11 rfl) ?_
  refine x_sld (E_L_law_16 12 rfl) (by omega) (by omega) ?_
  refine x_aload_n (E_L_law_16 13 rfl) rfl ?_
  refine x_iload_n (E_L_law_16 14 rfl) rfl ?_
  refine x_iconst (E_L_law_16 15 rfl) ?_
  refine x_iadd (E_L_law_16 16 rfl) ?_
  refine x_sld (E_L_law_16 17 rfl) (by omega) (by omega) ?_
  refine w_callVi (E_L_law_16 18 rfl) ml_L_134 mv_X11_due rfl (by decide) (by decide) c2 (by decide) (by decide) rfl rfl (Nat.le_of_ble_eq_true rfl) (fun z2 τ2 hP2 => ?_)
  obtain ⟨rfl, hR2⟩ := hP2
  exact x_icmp_eq (E_L_law_16 19 rfl) zr zr (fun _ => kk τ2 hR2) (fun q => absurd rfl q)

theorem lw_28 (hL : G.2.2.2.2.1 ≤ 3584) (hx : ∀ j, rgi (G.2.2.2.2.2 j)) (hR : RR σ) {i : Nat} (hi : i + 7 ≤ G.2.2.2.2.1) (kk : ∀ τ, RR τ → RunX l G M_L_law room_1 1470 [some (vr 1060), some (vr 0), some (vr 114), some (vi (i : Nat))] [] (Wd τ) 174 10272 Q) : RunX l G M_L_law room_1 1312 [some (vr 1060), some (vr 0), some (vr 114), some (vi (i : Nat))] [] (Wd σ) 174 10272 Q := by
  refine x_aload_n (E_L_law_16 22 rfl) rfl ?_
  refine x_aload_n (E_L_law_16 23 rfl) rfl ?_
  refine x_iload_n (E_L_law_16 24 rfl) rfl ?_
  refine x_iconst (E_L_law_16 25 rfl) ?_
  refine x_iadd (E_L_law_16 26 rfl) ?_
  refine x_sld (E_L_law_16 27 rfl) (by omega) (by omega) ?_
  refine x_aload_n (E_L_law_16 28 rfl) rfl ?_
  refine x_iload_n (E_L_law_16 29 rfl) rfl ?_
  refine x_iconst (E_L_law_16 30 rfl) ?_
  refine x_iadd (E_L_law_16 31 rfl) ?_
  refine x_sld (E_L_law_16 32 rfl) (by omega) (by omega) ?_
  obtain ⟨P, c1, c2⟩ := pair_coin (l := l) (G := G) (h := (G.2.2.2.2.2 (((i : Nat) : Int) + 1).toNat)) (v := (G.2.2.2.2.2 (((i : Nat) : Int) + 2).toNat)) hR (hx _) (hx _)
  refine w_callVi (E_L_law_16 33 rfl) ml_L_135 mv_X10_coin rfl (by decide) (by decide) c1 (by decide) (by decide) rfl rfl (by decide) (fun z τ hP => ?_)
  obtain ⟨zr, c2⟩ := c2 z τ hP
  refine x_aload_n (E_L_law_16 34 rfl) rfl ?_
  refine x_aload_n (E_L_law_16 35 rfl) rfl ?_
  refine x_iload_n (E_L_law_16 36 rfl) rfl ?_
  refine x_iconst (E_L_law_16 37 rfl) ?_
  refine x_iadd (E_L_law_16 38 rfl) ?_
  refine x_sld (E_L_law_16 39 rfl) (by omega) (by omega) ?_
  refine x_aload_n (E_L_law_16 40 rfl) rfl ?_
  refine x_iload_n (E_L_law_16 41 rfl) rfl ?_
  refine x_iconst (E_L_law_16 42 rfl) ?_
  refine x_iadd (E_L_law_16 43 rfl) ?_
  refine x_sld (E_L_law_16 44 rfl) (by omega) (by omega) ?_
  refine w_callVi (E_L_law_16 45 rfl) ml_L_138 mv_X11_coin rfl (by decide) (by decide) c2 (by decide) (by decide) rfl rfl (Nat.le_of_ble_eq_true rfl) (fun z2 τ2 hP2 => ?_)
  obtain ⟨rfl, hR2⟩ := hP2
  exact x_icmp_eq (E_L_law_16 46 rfl) zr zr (fun _ => kk τ2 hR2) (fun q => absurd rfl q)

theorem lw_29 (hL : G.2.2.2.2.1 ≤ 3584) (hx : ∀ j, rgi (G.2.2.2.2.2 j)) (hR : RR σ) {i : Nat} (hi : i + 7 ≤ G.2.2.2.2.1) (kk : ∀ τ, RR τ → RunX l G M_L_law room_1 1470 [some (vr 1060), some (vr 0), some (vr 114), some (vi (i : Nat))] [] (Wd τ) 174 10272 Q) : RunX l G M_L_law room_1 1345 [some (vr 1060), some (vr 0), some (vr 114), some (vi (i : Nat))] [] (Wd σ) 174 10272 Q := by
  refine x_aload_n (E_L_law_16 49 rfl) rfl ?_
  refine x_aload_n (E_L_law_16 50 rfl) rfl ?_
  refine x_iload_n (E_L_law_16 51 rfl) rfl ?_
  refine x_iconst (E_L_law_16 52 rfl) ?_
  refine x_iadd (E_L_law_16 53 rfl) ?_
  refine x_sld (E_L_law_16 54 rfl) (by omega) (by omega) ?_
  refine x_aload_n (E_L_law_16 55 rfl) rfl ?_
  refine x_iload_n (E_L_law_16 56 rfl) rfl ?_
  refine x_iconst (E_L_law_16 57 rfl) ?_
  refine x_iadd (E_L_law_16 58 rfl) ?_
  refine x_sld (E_L_law_16 59 rfl) (by omega) (by omega) ?_
  obtain ⟨P, c1, c2⟩ := pair_fails (l := l) (G := G) (h := (G.2.2.2.2.2 (((i : Nat) : Int) + 1).toNat)) (w := (G.2.2.2.2.2 (((i : Nat) : Int) + 2).toNat)) hR (hx _) (hx _)
  refine w_callVi (E_L_law_17 0 rfl) ml_L_139 mv_X10_fails rfl (by decide) (by decide) c1 (by decide) (by decide) rfl rfl (by decide) (fun z τ hP => ?_)
  obtain ⟨zr, c2⟩ := c2 z τ hP
  refine x_aload_n (E_L_law_17 1 rfl) rfl ?_
  refine x_aload_n (E_L_law_17 2 rfl) rfl ?_
  refine x_iload_n (E_L_law_17 3 rfl) rfl ?_
  refine x_iconst (E_L_law_17 4 rfl) ?_
  refine x_iadd (E_L_law_17 5 rfl) ?_
  refine x_sld (E_L_law_17 6 rfl) (by omega) (by omega) ?_
  refine x_aload_n (E_L_law_17 7 rfl) rfl ?_
  refine x_iload_n (E_L_law_17 8 rfl) rfl ?_
  refine x_iconst (E_L_law_17 9 rfl) ?_
  refine x_iadd (E_L_law_17 10 rfl) ?_
  refine x_sld (E_L_law_17 11 rfl) (by omega) (by omega) ?_
  refine w_callVi (E_L_law_17 12 rfl) ml_L_142 mv_X11_fails rfl (by decide) (by decide) c2 (by decide) (by decide) rfl rfl (Nat.le_of_ble_eq_true rfl) (fun z2 τ2 hP2 => ?_)
  obtain ⟨rfl, hR2⟩ := hP2
  exact x_icmp_eq (E_L_law_17 13 rfl) zr zr (fun _ => kk τ2 hR2) (fun q => absurd rfl q)

theorem lw_30 (hL : G.2.2.2.2.1 ≤ 3584) (hx : ∀ j, rgi (G.2.2.2.2.2 j)) (hR : RR σ) {i : Nat} (hi : i + 7 ≤ G.2.2.2.2.1) (kk : ∀ τ, RR τ → RunX l G M_L_law room_1 1470 [some (vr 1060), some (vr 0), some (vr 114), some (vi (i : Nat))] [] (Wd τ) 174 10272 Q) : RunX l G M_L_law room_1 1378 [some (vr 1060), some (vr 0), some (vr 114), some (vi (i : Nat))] [] (Wd σ) 174 10272 Q := by
  refine x_aload_n (E_L_law_17 16 rfl) rfl ?_
  refine x_aload_n (E_L_law_17 17 rfl) rfl ?_
  refine x_iload_n (E_L_law_17 18 rfl) rfl ?_
  refine x_iconst (E_L_law_17 19 rfl) ?_
  refine x_iadd (E_L_law_17 20 rfl) ?_
  refine x_sld (E_L_law_17 21 rfl) (by omega) (by omega) ?_
  refine x_aload_n (E_L_law_17 22 rfl) rfl ?_
  refine x_iload_n (E_L_law_17 23 rfl) rfl ?_
  refine x_iconst (E_L_law_17 24 rfl) ?_
  refine x_iadd (E_L_law_17 25 rfl) ?_
  refine x_sld (E_L_law_17 26 rfl) (by omega) (by omega) ?_
  refine x_aload_n (E_L_law_17 27 rfl) rfl ?_
  refine x_iload_n (E_L_law_17 28 rfl) rfl ?_
  refine x_iconst (E_L_law_17 29 rfl) ?_
  refine x_iadd (E_L_law_17 30 rfl) ?_
  refine x_sld (E_L_law_17 31 rfl) (by omega) (by omega) ?_
  refine x_if_eq (E_L_law_17 32 rfl) (hx _) (fun c1 => ?_) (fun c1 => ?_)
  · refine x_iconst (E_L_law_17 35 rfl) ?_
    obtain ⟨P, c1a, c2a⟩ := pair_part (l := l) (G := G) (s := (G.2.2.2.2.2 (((i : Nat) : Int) + 1).toNat)) (t := (G.2.2.2.2.2 (((i : Nat) : Int) + 2).toNat)) (b := 0) hR (hx _) (hx _) (by decide)
    refine w_callVi (E_L_law_17 36 rfl) ml_L_143 mv_X10_part rfl (by decide) (by decide) c1a (by decide) (by decide) rfl rfl (by decide) (fun z τ hP => ?_)
    obtain ⟨zr, c2⟩ := c2a z τ hP
    refine x_aload_n (E_L_law_17 37 rfl) rfl ?_
    refine x_aload_n (E_L_law_17 38 rfl) rfl ?_
    refine x_iload_n (E_L_law_17 39 rfl) rfl ?_
    refine x_iconst (E_L_law_17 40 rfl) ?_
    refine x_iadd (E_L_law_17 41 rfl) ?_
    refine x_sld (E_L_law_17 42 rfl) (by omega) (by omega) ?_
    refine x_aload_n (E_L_law_17 43 rfl) rfl ?_
    refine x_iload_n (E_L_law_17 44 rfl) rfl ?_
    refine x_iconst (E_L_law_17 45 rfl) ?_
    refine x_iadd (E_L_law_17 46 rfl) ?_
    refine x_sld (E_L_law_17 47 rfl) (by omega) (by omega) ?_
    refine x_aload_n (E_L_law_17 48 rfl) rfl ?_
    refine x_iload_n (E_L_law_17 49 rfl) rfl ?_
    refine x_iconst (E_L_law_17 50 rfl) ?_
    refine x_iadd (E_L_law_17 51 rfl) ?_
    refine x_sld (E_L_law_17 52 rfl) (by omega) (by omega) ?_
    refine x_if_eq (E_L_law_17 53 rfl) (hx _) (fun c2b => ?_) (fun c2b => ?_)
    · refine x_iconst (E_L_law_17 56 rfl) ?_
      refine w_callVi (E_L_law_17 57 rfl) ml_L_147 mv_X11_part rfl (by decide) (by decide) c2 (by decide) (by decide) rfl rfl (Nat.le_of_ble_eq_true rfl) (fun z2 τ2 hP2 => ?_)
      obtain ⟨rfl, hR2⟩ := hP2
      exact x_icmp_eq (E_L_law_17 58 rfl) zr zr (fun _ => kk τ2 hR2) (fun q => absurd rfl q)
    · exact absurd c1 c2b
  · refine x_iconst (E_L_law_17 33 rfl) ?_
    refine x_goto (E_L_law_17 34 rfl) ?_
    obtain ⟨P, c1a, c2a⟩ := pair_part (l := l) (G := G) (s := (G.2.2.2.2.2 (((i : Nat) : Int) + 1).toNat)) (t := (G.2.2.2.2.2 (((i : Nat) : Int) + 2).toNat)) (b := 1) hR (hx _) (hx _) (by decide)
    refine w_callVi (E_L_law_17 36 rfl) ml_L_143 mv_X10_part rfl (by decide) (by decide) c1a (by decide) (by decide) rfl rfl (by decide) (fun z τ hP => ?_)
    obtain ⟨zr, c2⟩ := c2a z τ hP
    refine x_aload_n (E_L_law_17 37 rfl) rfl ?_
    refine x_aload_n (E_L_law_17 38 rfl) rfl ?_
    refine x_iload_n (E_L_law_17 39 rfl) rfl ?_
    refine x_iconst (E_L_law_17 40 rfl) ?_
    refine x_iadd (E_L_law_17 41 rfl) ?_
    refine x_sld (E_L_law_17 42 rfl) (by omega) (by omega) ?_
    refine x_aload_n (E_L_law_17 43 rfl) rfl ?_
    refine x_iload_n (E_L_law_17 44 rfl) rfl ?_
    refine x_iconst (E_L_law_17 45 rfl) ?_
    refine x_iadd (E_L_law_17 46 rfl) ?_
    refine x_sld (E_L_law_17 47 rfl) (by omega) (by omega) ?_
    refine x_aload_n (E_L_law_17 48 rfl) rfl ?_
    refine x_iload_n (E_L_law_17 49 rfl) rfl ?_
    refine x_iconst (E_L_law_17 50 rfl) ?_
    refine x_iadd (E_L_law_17 51 rfl) ?_
    refine x_sld (E_L_law_17 52 rfl) (by omega) (by omega) ?_
    refine x_if_eq (E_L_law_17 53 rfl) (hx _) (fun c2b => ?_) (fun c2b => ?_)
    · exact absurd c2b c1
    · refine x_iconst (E_L_law_17 54 rfl) ?_
      refine x_goto (E_L_law_17 55 rfl) ?_
      refine w_callVi (E_L_law_17 57 rfl) ml_L_147 mv_X11_part rfl (by decide) (by decide) c2 (by decide) (by decide) rfl rfl (Nat.le_of_ble_eq_true rfl) (fun z2 τ2 hP2 => ?_)
      obtain ⟨rfl, hR2⟩ := hP2
      exact x_icmp_eq (E_L_law_17 58 rfl) zr zr (fun _ => kk τ2 hR2) (fun q => absurd rfl q)

theorem lw_31 (hL : G.2.2.2.2.1 ≤ 3584) (hx : ∀ j, rgi (G.2.2.2.2.2 j)) (hR : RR σ) {i : Nat} (hi : i + 7 ≤ G.2.2.2.2.1) (kk : ∀ τ, RR τ → RunX l G M_L_law room_1 1470 [some (vr 1060), some (vr 0), some (vr 114), some (vi (i : Nat))] [] (Wd τ) 174 10272 Q) : RunX l G M_L_law room_1 1437 [some (vr 1060), some (vr 0), some (vr 114), some (vi (i : Nat))] [] (Wd σ) 174 10272 Q := by
  refine x_aload_n (E_L_law_18 1 rfl) rfl ?_
  refine x_aload_n (E_L_law_18 2 rfl) rfl ?_
  refine x_iload_n (E_L_law_18 3 rfl) rfl ?_
  refine x_iconst (E_L_law_18 4 rfl) ?_
  refine x_iadd (E_L_law_18 5 rfl) ?_
  refine x_sld (E_L_law_18 6 rfl) (by omega) (by omega) ?_
  refine x_aload_n (E_L_law_18 7 rfl) rfl ?_
  refine x_iload_n (E_L_law_18 8 rfl) rfl ?_
  refine x_iconst (E_L_law_18 9 rfl) ?_
  refine x_iadd (E_L_law_18 10 rfl) ?_
  refine x_sld (E_L_law_18 11 rfl) (by omega) (by omega) ?_
  obtain ⟨P, c1, c2⟩ := pair_plan (l := l) (G := G) (set := (G.2.2.2.2.2 (((i : Nat) : Int) + 1).toNat)) (i := (G.2.2.2.2.2 (((i : Nat) : Int) + 2).toNat)) hR (hx _) (hx _)
  refine w_callVi (E_L_law_18 12 rfl) ml_L_148 mv_X10_plan rfl (by decide) (by decide) c1 (by decide) (by decide) rfl rfl (by decide) (fun z τ hP => ?_)
  obtain ⟨zr, c2⟩ := c2 z τ hP
  refine x_aload_n (E_L_law_18 13 rfl) rfl ?_
  refine x_aload_n (E_L_law_18 14 rfl) rfl ?_
  refine x_iload_n (E_L_law_18 15 rfl) rfl ?_
  refine x_iconst (E_L_law_18 16 rfl) ?_
  refine x_iadd (E_L_law_18 17 rfl) ?_
  refine x_sld (E_L_law_18 18 rfl) (by omega) (by omega) ?_
  refine x_aload_n (E_L_law_18 19 rfl) rfl ?_
  refine x_iload_n (E_L_law_18 20 rfl) rfl ?_
  refine x_iconst (E_L_law_18 21 rfl) ?_
  refine x_iadd (E_L_law_18 22 rfl) ?_
  refine x_sld (E_L_law_18 23 rfl) (by omega) (by omega) ?_
  refine w_callVi (E_L_law_18 24 rfl) ml_L_151 mv_X11_plan rfl (by decide) (by decide) c2 (by decide) (by decide) rfl rfl (Nat.le_of_ble_eq_true rfl) (fun z2 τ2 hP2 => ?_)
  obtain ⟨rfl, hR2⟩ := hP2
  exact x_icmp_eq (E_L_law_18 25 rfl) zr zr (fun _ => kk τ2 hR2) (fun q => absurd rfl q)

set_option maxHeartbeats 4000000 in
theorem lw_loop (hL : G.2.2.2.2.1 ≤ 3584) (hx : ∀ j, rgi (G.2.2.2.2.2 j)) : ∀ (k : Nat) (i : Nat) (σ : Nat → Int → Int), i + k = G.2.2.2.2.1 + 7 → RR σ → RunX l G M_L_law room_1 18 [some (vr 1060), some (vr 0), some (vr 114), some (vi (i : Nat))] [] (Wd σ) 174 10272 (fun r _ => r = some (vi 1)) := by
  intro k
  induction k using Nat.strongRecOn with
  | _ k ih =>
  intro i σ hk hR
  refine x_iload_n (E_L_law_0 10 rfl) rfl ?_
  refine x_aload_n (E_L_law_0 11 rfl) rfl ?_
  refine x_slen (E_L_law_0 12 rfl) ?_
  refine x_bipush (z := 7) (E_L_law_0 13 rfl) (by decide) ?_
  refine x_isub (E_L_law_0 14 rfl) ?_
  refine x_icmp_gt (E_L_law_0 15 rfl) (by omega) (by omega) (fun c1 => ?_) (fun c1 => ?_)
  · refine x_iconst (E_L_law_18 30 rfl) ?_
    exact x_ret (r := some (vi 1)) (E_L_law_18 31 rfl) (Or.inr rfl) (by decide) (by decide) rfl
  · have hi : i + 7 ≤ G.2.2.2.2.1 := by omega
    have next : ∀ τ, RR τ → RunX l G M_L_law room_1 1470 [some (vr 1060), some (vr 0), some (vr 114), some (vi (i : Nat))] [] (Wd τ) 174 10272 (fun r _ => r = some (vi 1)) := fun τ hR2 => by
      refine x_iinc (E_L_law_18 28 rfl) rfl rfl ?_
      refine x_goto (E_L_law_18 29 rfl) ?_
      exact ih (k - 7) (by omega) (i + 7) τ (by omega) hR2
    refine x_aload_n (E_L_law_0 16 rfl) rfl ?_
    refine x_iload_n (E_L_law_0 17 rfl) rfl ?_
    refine x_sld (E_L_law_0 18 rfl) (by omega) (by omega) ?_
    refine x_bipush (z := 31) (E_L_law_0 19 rfl) (by decide) ?_
    refine x_iand (E_L_law_0 20 rfl) ?_
    rw [bAnd_31]
    generalize hv : G.2.2.2.2.2 ((i : Nat) : Int).toNat % 32 = v
    have vr : 0 ≤ v ∧ v < 32 := by omega
    by_cases w0 : v = 0
    · subst w0
      refine x_tsw (t := 176) (E_L_law_0 21 rfl) (by decide) (by decide) (by decide) ?_
      exact lw_0 hL hx hR (by omega) next
    by_cases w1 : v = 1
    · subst w1
      refine x_tsw (t := 199) (E_L_law_0 21 rfl) (by decide) (by decide) (by decide) ?_
      exact lw_1 hL hx hR (by omega) next
    by_cases w2 : v = 2
    · subst w2
      refine x_tsw (t := 262) (E_L_law_0 21 rfl) (by decide) (by decide) (by decide) ?_
      exact lw_2 hL hx hR (by omega) next
    by_cases w3 : v = 3
    · subst w3
      refine x_tsw (t := 295) (E_L_law_0 21 rfl) (by decide) (by decide) (by decide) ?_
      exact lw_3 hL hx hR (by omega) next
    by_cases w4 : v = 4
    · subst w4
      refine x_tsw (t := 328) (E_L_law_0 21 rfl) (by decide) (by decide) (by decide) ?_
      exact lw_4 hL hx hR (by omega) next
    by_cases w5 : v = 5
    · subst w5
      refine x_tsw (t := 403) (E_L_law_0 21 rfl) (by decide) (by decide) (by decide) ?_
      exact lw_5 hL hx hR (by omega) next
    by_cases w6 : v = 6
    · subst w6
      refine x_tsw (t := 436) (E_L_law_0 21 rfl) (by decide) (by decide) (by decide) ?_
      exact lw_6 hL hx hR (by omega) next
    by_cases w7 : v = 7
    · subst w7
      refine x_tsw (t := 469) (E_L_law_0 21 rfl) (by decide) (by decide) (by decide) ?_
      exact lw_7 hL hx hR (by omega) next
    by_cases w8 : v = 8
    · subst w8
      refine x_tsw (t := 492) (E_L_law_0 21 rfl) (by decide) (by decide) (by decide) ?_
      exact lw_8 hL hx hR (by omega) next
    by_cases w9 : v = 9
    · subst w9
      refine x_tsw (t := 555) (E_L_law_0 21 rfl) (by decide) (by decide) (by decide) ?_
      exact lw_9 hL hx hR (by omega) next
    by_cases w10 : v = 10
    · subst w10
      refine x_tsw (t := 578) (E_L_law_0 21 rfl) (by decide) (by decide) (by decide) ?_
      exact lw_10 hL hx hR (by omega) next
    by_cases w11 : v = 11
    · subst w11
      refine x_tsw (t := 591) (E_L_law_0 21 rfl) (by decide) (by decide) (by decide) ?_
      exact lw_11 hL hx hR (by omega) next
    by_cases w12 : v = 12
    · subst w12
      refine x_tsw (t := 624) (E_L_law_0 21 rfl) (by decide) (by decide) (by decide) ?_
      exact lw_12 hL hx hR (by omega) next
    by_cases w13 : v = 13
    · subst w13
      refine x_tsw (t := 677) (E_L_law_0 21 rfl) (by decide) (by decide) (by decide) ?_
      exact lw_13 hL hx hR (by omega) next
    by_cases w14 : v = 14
    · subst w14
      refine x_tsw (t := 730) (E_L_law_0 21 rfl) (by decide) (by decide) (by decide) ?_
      exact lw_14 hL hx hR (by omega) next
    by_cases w15 : v = 15
    · subst w15
      refine x_tsw (t := 783) (E_L_law_0 21 rfl) (by decide) (by decide) (by decide) ?_
      exact lw_15 hL hx hR (by omega) next
    by_cases w16 : v = 16
    · subst w16
      refine x_tsw (t := 836) (E_L_law_0 21 rfl) (by decide) (by decide) (by decide) ?_
      exact lw_16 hL hx hR (by omega) next
    by_cases w17 : v = 17
    · subst w17
      refine x_tsw (t := 879) (E_L_law_0 21 rfl) (by decide) (by decide) (by decide) ?_
      exact lw_17 hL hx hR (by omega) next
    by_cases w18 : v = 18
    · subst w18
      refine x_tsw (t := 922) (E_L_law_0 21 rfl) (by decide) (by decide) (by decide) ?_
      exact lw_18 hL hx hR (by omega) next
    by_cases w19 : v = 19
    · subst w19
      refine x_tsw (t := 955) (E_L_law_0 21 rfl) (by decide) (by decide) (by decide) ?_
      exact lw_19 hL hx hR (by omega) next
    by_cases w20 : v = 20
    · subst w20
      refine x_tsw (t := 988) (E_L_law_0 21 rfl) (by decide) (by decide) (by decide) ?_
      exact lw_20 hL hx hR (by omega) next
    by_cases w21 : v = 21
    · subst w21
      refine x_tsw (t := 1031) (E_L_law_0 21 rfl) (by decide) (by decide) (by decide) ?_
      exact lw_21 hL hx hR (by omega) next
    by_cases w22 : v = 22
    · subst w22
      refine x_tsw (t := 1064) (E_L_law_0 21 rfl) (by decide) (by decide) (by decide) ?_
      exact lw_22 hL hx hR (by omega) next
    by_cases w23 : v = 23
    · subst w23
      refine x_tsw (t := 1107) (E_L_law_0 21 rfl) (by decide) (by decide) (by decide) ?_
      exact lw_23 hL hx hR (by omega) next
    by_cases w24 : v = 24
    · subst w24
      refine x_tsw (t := 1160) (E_L_law_0 21 rfl) (by decide) (by decide) (by decide) ?_
      exact lw_24 hL hx hR (by omega) next
    by_cases w25 : v = 25
    · subst w25
      refine x_tsw (t := 1213) (E_L_law_0 21 rfl) (by decide) (by decide) (by decide) ?_
      exact lw_25 hL hx hR (by omega) next
    by_cases w26 : v = 26
    · subst w26
      refine x_tsw (t := 1246) (E_L_law_0 21 rfl) (by decide) (by decide) (by decide) ?_
      exact lw_26 hL hx hR (by omega) next
    by_cases w27 : v = 27
    · subst w27
      refine x_tsw (t := 1269) (E_L_law_0 21 rfl) (by decide) (by decide) (by decide) ?_
      exact lw_27 hL hx hR (by omega) next
    by_cases w28 : v = 28
    · subst w28
      refine x_tsw (t := 1312) (E_L_law_0 21 rfl) (by decide) (by decide) (by decide) ?_
      exact lw_28 hL hx hR (by omega) next
    by_cases w29 : v = 29
    · subst w29
      refine x_tsw (t := 1345) (E_L_law_0 21 rfl) (by decide) (by decide) (by decide) ?_
      exact lw_29 hL hx hR (by omega) next
    by_cases w30 : v = 30
    · subst w30
      refine x_tsw (t := 1378) (E_L_law_0 21 rfl) (by decide) (by decide) (by decide) ?_
      exact lw_30 hL hx hR (by omega) next
    by_cases w31 : v = 31
    · subst w31
      refine x_tsw (t := 1437) (E_L_law_0 21 rfl) (by decide) (by decide) (by decide) ?_
      exact lw_31 hL hx hR (by omega) next
    exfalso; omega
theorem law_run : LawRun := fun l G hL hx => law_start (lw_loop hL hx (G.2.2.2.2.1 + 7) 0 σI (by omega) rr_I)

