/-! terms of the model: findTerms -/
variable {l : Launch} {G : GC} {σ : Nat → Int → Int}

/-- a row of keys in both tellings -/
def KR (v f s : Int) : Prop := (1 ≤ s ∧ s ≤ 4) ∧ (0 ≤ v ∧ v < 4096) ∧ (0 ≤ f ∧ f < 256) ∧ (∀ k : Nat, k < 4 → ((k : Int) < s → v / 8 ^ k % 8 = f / 4 ^ k % 4 + 1) ∧ (s ≤ k → v / 8 ^ k % 8 = 0)) ∧ ∀ a b : Nat, a < b → (b : Int) < s → f / 4 ^ a % 4 ≠ f / 4 ^ b % 4
theorem KR0 : KR 2257 228 4 := by
  refine ⟨by decide, by decide, by decide, ?_, ?_⟩
  · intro k hk
    rcases (by omega : k = 0 ∨ k = 1 ∨ k = 2 ∨ k = 3) with rfl | rfl | rfl | rfl <;> decide
  · intro a b h1 h2
    rcases (by omega : b = 1 ∨ b = 2 ∨ b = 3) with rfl | rfl | rfl
    · rcases (by omega : a = 0) with rfl
      decide
    · rcases (by omega : a = 0 ∨ a = 1) with rfl | rfl <;> decide
    · rcases (by omega : a = 0 ∨ a = 1 ∨ a = 2) with rfl | rfl | rfl <;> decide
/-- the model's terms, told by the class's words -/
def TmM (dy cl : Int → Int) (cd vl : Int → Int → Int) (σ : Nat → Int → Int) : Prop := (0 ≤ σ 114 22 ∧ σ 114 22 ≤ 8) ∧ σ 133 = dy ∧ σ 134 = cl ∧ ∀ t, 0 ≤ t → t < σ 114 22 → (0 ≤ dy t ∧ dy t ≤ 2000) ∧ (0 ≤ cl t ∧ cl t ≤ 10) ∧ ∀ c, 0 ≤ c → c < cl t → ClRel t (cd t c) (vl t c) (σ 135 (10 * t + c)) (σ 136 (10 * t + c)) (σ 137 (10 * t + c))
/-- what findTerms leaves -/
def FtP (dy cl : Int → Int) (cd vl : Int → Int → Int) (d : Int) (σ τ : Nat → Int → Int) : Prop := (∀ q, 0 ≤ q → q < 9 → τ 141 q = heldS dy cl cd vl (σ 114 22).toNat d q) ∧ KR (heldS dy cl cd vl (σ 114 22).toNat d 9) (τ 114 38) (τ 114 39) ∧ Fr [114, 139, 140, 141] σ τ ∧ Fo 114 [38, 39] σ τ
theorem markS_self {cd vl : Int → Int → Int} {t : Int} {s : Int → Bool} : ∀ {C : Nat}, (∀ c : Int, 0 ≤ c → c < C → cd t c = 10 → vl t c ≠ t) → markS cd vl t s C t = s t
  | 0, _ => rfl
  | C + 1, h => by
    have i := markS_self (s := s) (C := C) (fun c a b => h c a (by omega))
    unfold markS
    split
    · rename_i e
      show (if t = vl t C then true else _) = _
      rw [if_neg (fun q => h C (by omega) (by omega) e q.symm)]
      exact i
    · exact i
/-- a clause of the model by its kinds -/
theorem ClRel.cs {t cd vl ck f s : Int} (h : ClRel t cd vl ck f s) : (ck = 3 ↔ cd = 10) ∧ (0 ≤ ck ∧ ck ≤ 3) ∧ (ck = 3 → f = vl ∧ 0 ≤ f ∧ f < t) ∧ (ck = 0 → cd = f ∧ vl = s ∧ 0 ≤ f ∧ f ≤ 4) ∧ (ck = 1 → cd = 5 + f ∧ vl = s ∧ 0 ≤ f ∧ f ≤ 3) ∧ (ck = 2 → cd = 9 ∧ KR vl f s) := by
  rcases h with h | h | ⟨h1, h2, h3, h4, h5, h6, h7, h8, h9, h10⟩ | h
  · obtain ⟨h1, h2, h3, h4, h5, -⟩ := h
    refine ⟨by omega, by omega, by omega, by omega, by omega, fun q => absurd q (by omega)⟩
  · obtain ⟨h1, h2, h3, h4, h5, -⟩ := h
    refine ⟨by omega, by omega, by omega, by omega, by omega, fun q => absurd q (by omega)⟩
  · refine ⟨by omega, by omega, by omega, by omega, by omega, fun _ => ⟨h2, ⟨h3, h4⟩, ⟨h5, h6⟩, ⟨h7, h8⟩, h9, h10⟩⟩
  · obtain ⟨h1, h2, h3, h4, h5⟩ := h
    refine ⟨by omega, by omega, by omega, by omega, by omega, fun q => absurd q (by omega)⟩
set_option maxHeartbeats 4000000 in
theorem c_X11_findTerms {d : Int} {dy cl : Int → Int} {cd vl : Int → Int → Int} (hd : rgi d) (hT : TmM dy cl cd vl σ) : CV l G M_X11_findTerms 0 [vr 114, vi d] σ (FtP dy cl cd vl d σ) := by
  obtain ⟨h22, e133, e134, hT⟩ := hT
  have hlen : (srtL dy (cntS dy cl cd vl d (σ 114 22).toNat) (σ 114 22).toNat).length ≤ (σ 114 22).toNat := srtL_len_le
  refine Ct.of rfl (Nat.le_of_ble_eq_true rfl) ?_
  -- the rows, one after another
  have loop5 : ∀ (R : List Int) (k : Int) (o4 : Option AV) (h : Int → Int) (τ : Nat → Int → Int), (srtL dy (cntS dy cl cd vl d (σ 114 22).toNat) (σ 114 22).toNat).drop k.toNat = R → 0 ≤ k → k + R.length = (srtL dy (cntS dy cl cd vl d (σ 114 22).toNat) (σ 114 22).toNat).length → (∀ q, 0 ≤ q → q < 9 → τ 141 q = h q) → KR (h 9) (τ 114 38) (τ 114 39) → foldS cl cd vl R h = heldS dy cl cd vl (σ 114 22).toNat d → RepL (τ 140) (srtL dy (cntS dy cl cd vl d (σ 114 22).toNat) (σ 114 22).toNat) → Fr [114, 139, 140, 141] σ τ → Fo 114 [38, 39] σ τ → XV l G M_X11_findTerms 0 264 [some (vr 114), some (vi d), some (vi (srtL dy (cntS dy cl cd vl d (σ 114 22).toNat) (σ 114 22).toNat).length), some (vi k), o4] [] τ (FtP dy cl cd vl d σ) := by
    intro R
    induction R with
    | nil =>
      intro k o4 h τ e1 e2 e3 hA hK hh hr hF hO
      simp only [List.length_nil] at e3
      refine x_iload_n (E_X11_findTerms_2 30 rfl) rfl ?_
      refine x_iload_n (E_X11_findTerms_2 31 rfl) rfl ?_
      refine x_icmp_ge (E_X11_findTerms_2 32 rfl) (by omega) (by omega) (fun c1 => ?_) (fun c1 => ?_)
      · refine z_vret (E_X11_findTerms_3 55 rfl) trivial ?_
        have hh : h = _ := hh
        rw [hh] at hA hK
        exact ⟨hA, hK, hF, hO⟩
      · exfalso; omega
    | cons x R ih =>
      intro k o4 h τ e1 e2 e3 hA hK hh hr hF hO
      simp only [List.length_cons] at e3
      have hx : (srtL dy (cntS dy cl cd vl d (σ 114 22).toNat) (σ 114 22).toNat)[k.toNat]? = some x := by
        have : ((srtL dy (cntS dy cl cd vl d (σ 114 22).toNat) (σ 114 22).toNat).drop k.toNat)[0]? = some x := by rw [e1]; rfl
        rw [List.getElem?_drop] at this
        exact this
      have hk : τ 140 k = x := by
        have := hr _ _ hx
        rw [show ((k.toNat : Nat) : Int) = k by omega] at this
        exact this
      have hm := srtL_mem.mp (List.mem_of_getElem? hx)
      have ed : (srtL dy (cntS dy cl cd vl d (σ 114 22).toNat) (σ 114 22).toNat).drop (k + 1).toNat = R := by
        rw [show (k + 1).toNat = k.toNat + 1 by omega, ← List.drop_drop, e1]
        rfl
      have hm2 : 0 ≤ x ∧ x < σ 114 22 := by omega
      obtain ⟨o1, o2, o3⟩ := hT x hm2.1 hm2.2
      have inner : ∀ (m : Nat) (c : Int) (h' : Int → Int) (υ : Nat → Int → Int), c = 10 * x + cl x - m → m ≤ (cl x).toNat → h' = ruleS cd vl x h (c - 10 * x).toNat → (∀ q, 0 ≤ q → q < 9 → υ 141 q = h' q) → KR (h' 9) (υ 114 38) (υ 114 39) → RepL (υ 140) (srtL dy (cntS dy cl cd vl d (σ 114 22).toNat) (σ 114 22).toNat) → Fr [114, 139, 140, 141] σ υ → Fo 114 [38, 39] σ υ → XV l G M_X11_findTerms 0 280 [some (vr 114), some (vi d), some (vi (srtL dy (cntS dy cl cd vl d (σ 114 22).toNat) (σ 114 22).toNat).length), some (vi k), some (vi c)] [] υ (FtP dy cl cd vl d σ) := by
        intro m
        induction m using Nat.strongRecOn with
        | _ m ih2 =>
        intro c h' υ hc hm9 hh2 hA2 hK2 hr2 hF2 hO2
        have hk2 : υ 140 k = x := by
          have := hr2 _ _ hx
          rw [show ((k.toNat : Nat) : Int) = k by omega] at this
          exact this
        have e34 := congrFun ((hF2 134 (by decide)).trans e134) x
        have e34b : υ 134 (υ 140 k) = cl x := by rw [hk2]; exact e34
        have e35 := congrFun (hF2 135 (by decide)) c
        have e36 := congrFun (hF2 136 (by decide)) c
        have e37 := congrFun (hF2 137 (by decide)) c
        refine x_iload (E_X11_findTerms_2 40 rfl) rfl ?_
        refine x_bipush (z := 10) (E_X11_findTerms_2 41 rfl) (by decide) ?_
        refine x_aload_n (E_X11_findTerms_2 42 rfl) rfl ?_
        refine x_getR (E_X11_findTerms_2 43 rfl) fl_X11_90 rfl (by decide) rfl ?_
        refine x_iload_n (E_X11_findTerms_2 44 rfl) rfl ?_
        refine x_ialde (f := υ 140) (E_X11_findTerms_2 45 rfl) rfl (by decide) (by omega) rfl ?_
        refine x_imul (E_X11_findTerms_2 46 rfl) ?_
        refine x_aload_n (E_X11_findTerms_2 47 rfl) rfl ?_
        refine x_getR (E_X11_findTerms_2 48 rfl) fl_X11_68 rfl (by decide) rfl ?_
        refine x_aload_n (E_X11_findTerms_2 49 rfl) rfl ?_
        refine x_getR (E_X11_findTerms_2 50 rfl) fl_X11_90 rfl (by decide) rfl ?_
        refine x_iload_n (E_X11_findTerms_2 51 rfl) rfl ?_
        refine x_ialde (f := υ 140) (E_X11_findTerms_2 52 rfl) rfl (by decide) (by omega) rfl ?_
        refine x_ialde (f := υ 134) (E_X11_findTerms_2 53 rfl) rfl (by decide) (by rw [hk2]; omega) rfl ?_
        refine x_iadd (E_X11_findTerms_2 54 rfl) ?_
        refine x_icmp_ge (E_X11_findTerms_2 55 rfl) (by omega) (by rw [e34b, hk2]; omega) (fun c1 => ?_) (fun c1 => ?_)
        · refine x_iinc (E_X11_findTerms_3 53 rfl) rfl rfl ?_
          refine x_goto (E_X11_findTerms_3 54 rfl) ?_
          refine ih _ _ h' υ ed (by omega) (by omega) hA2 hK2 ?_ hr2 hF2 hO2
          rw [← hh, hh2, show c - 10 * x = cl x by omega]
          rfl
        · have w9 := (o3 (c - 10 * x) (by omega) (by omega)).cs
          rw [show 10 * x + (c - 10 * x) = c by omega] at w9
          have es : (c + 1 - 10 * x).toNat = (c - 10 * x).toNat + 1 := by omega
          have ec : (((c - 10 * x).toNat : Nat) : Int) = c - 10 * x := by omega
          have eR : ruleS cd vl x h (c + 1 - 10 * x).toNat = if cd x (c - 10 * x) ≠ 10 then updI h' (cd x (c - 10 * x)) (vl x (c - 10 * x)) else h' := by
            rw [es, hh2]
            show (if cd x ((c - 10 * x).toNat : Nat) ≠ 10 then updI _ (cd x ((c - 10 * x).toNat : Nat)) (vl x ((c - 10 * x).toNat : Nat)) else _) = _
            rw [ec]
          refine x_aload_n (E_X11_findTerms_2 56 rfl) rfl ?_
          refine x_getR (E_X11_findTerms_2 57 rfl) fl_X11_71 rfl (by decide) rfl ?_
          refine x_iload (E_X11_findTerms_2 58 rfl) rfl ?_
          refine x_ialde (f := υ 135) (E_X11_findTerms_2 59 rfl) rfl (by decide) (by omega) rfl ?_
          refine x_if_ne (E_X11_findTerms_3 0 rfl) (by omega) (fun c2 => ?_) (fun c2 => ?_)
          · refine x_aload_n (E_X11_findTerms_3 13 rfl) rfl ?_
            refine x_getR (E_X11_findTerms_3 14 rfl) fl_X11_71 rfl (by decide) rfl ?_
            refine x_iload (E_X11_findTerms_3 15 rfl) rfl ?_
            refine x_ialde (f := υ 135) (E_X11_findTerms_3 16 rfl) rfl (by decide) (by omega) rfl ?_
            refine x_iconst (E_X11_findTerms_3 17 rfl) ?_
            refine x_icmp_ne (E_X11_findTerms_3 18 rfl) (by omega) (by decide) (fun c3 => ?_) (fun c3 => ?_)
            · refine x_aload_n (E_X11_findTerms_3 33 rfl) rfl ?_
              refine x_getR (E_X11_findTerms_3 34 rfl) fl_X11_71 rfl (by decide) rfl ?_
              refine x_iload (E_X11_findTerms_3 35 rfl) rfl ?_
              refine x_ialde (f := υ 135) (E_X11_findTerms_3 36 rfl) rfl (by decide) (by omega) rfl ?_
              refine x_iconst (E_X11_findTerms_3 37 rfl) ?_
              refine x_icmp_ne (E_X11_findTerms_3 38 rfl) (by omega) (by decide) (fun c4 => ?_) (fun c4 => ?_)
              · rw [if_neg (show ¬ cd x (c - 10 * x) ≠ 10 by omega)] at eR
                refine x_iinc (E_X11_findTerms_3 51 rfl) rfl rfl ?_
                refine x_goto (E_X11_findTerms_3 52 rfl) ?_
                exact ih2 (m - 1) (by omega) _ _ _ (by omega) (by omega) eR.symm hA2 hK2 hr2 hF2 hO2
              · refine x_aload_n (E_X11_findTerms_3 39 rfl) rfl ?_
                refine x_aload_n (E_X11_findTerms_3 40 rfl) rfl ?_
                refine x_getR (E_X11_findTerms_3 41 rfl) fl_X11_74 rfl (by decide) rfl ?_
                refine x_iload (E_X11_findTerms_3 42 rfl) rfl ?_
                refine x_ialde (f := υ 136) (E_X11_findTerms_3 43 rfl) rfl (by decide) (by omega) rfl ?_
                refine x_putI (E_X11_findTerms_3 44 rfl) fl_X11_333 rfl (by decide) ?_
                refine x_aload_n (E_X11_findTerms_3 45 rfl) rfl ?_
                refine x_aload_n (E_X11_findTerms_3 46 rfl) rfl ?_
                refine x_getR (E_X11_findTerms_3 47 rfl) fl_X11_77 rfl (by decide) rfl ?_
                refine x_iload (E_X11_findTerms_3 48 rfl) rfl ?_
                refine x_ialde (f := υ 137) (E_X11_findTerms_3 49 rfl) rfl (by decide) (by omega) rfl ?_
                refine x_putI (E_X11_findTerms_3 50 rfl) fl_X11_336 rfl (by decide) ?_
                have cd9 : cd x (c - 10 * x) ≠ 10 := by omega
                rw [if_pos cd9] at eR
                refine x_iinc (E_X11_findTerms_3 51 rfl) rfl rfl ?_
                refine x_goto (E_X11_findTerms_3 52 rfl) ?_
                have wk := w9.2.2.2.2.2 (by omega)
                refine ih2 (m - 1) (by omega) _ _ _ (by omega) (by omega) eR.symm (fun q a b => ?_) ?_ hr2 ((hF2.up (by decide)).up (by decide)) ((hO2.up (by decide)).up (by decide))
                · show υ 141 q = (if q = cd x (c - 10 * x) then vl x (c - 10 * x) else h' q)
                  rw [if_neg (by omega)]
                  exact hA2 q a b
                · show KR (if (9 : Int) = cd x (c - 10 * x) then vl x (c - 10 * x) else h' 9) (υ 136 c) (υ 137 c)
                  rw [if_pos (by omega), e36, e37]
                  exact wk.2
            · refine x_aload_n (E_X11_findTerms_3 19 rfl) rfl ?_
              refine x_getR (E_X11_findTerms_3 20 rfl) fl_X11_93 rfl (by decide) rfl ?_
              refine x_iconst (E_X11_findTerms_3 21 rfl) ?_
              refine x_aload_n (E_X11_findTerms_3 22 rfl) rfl ?_
              refine x_getR (E_X11_findTerms_3 23 rfl) fl_X11_74 rfl (by decide) rfl ?_
              refine x_iload (E_X11_findTerms_3 24 rfl) rfl ?_
              refine x_ialde (f := υ 136) (E_X11_findTerms_3 25 rfl) rfl (by decide) (by omega) rfl ?_
              refine x_iadd (E_X11_findTerms_3 26 rfl) ?_
              refine x_aload_n (E_X11_findTerms_3 27 rfl) rfl ?_
              refine x_getR (E_X11_findTerms_3 28 rfl) fl_X11_77 rfl (by decide) rfl ?_
              refine x_iload (E_X11_findTerms_3 29 rfl) rfl ?_
              refine x_ialde (f := υ 137) (E_X11_findTerms_3 30 rfl) rfl (by decide) (by omega) rfl ?_
              refine x_iast (E_X11_findTerms_3 31 rfl) rfl (by decide) (by omega) ?_
              refine x_goto (E_X11_findTerms_3 32 rfl) ?_
              have cd9 : cd x (c - 10 * x) ≠ 10 := by omega
              rw [if_pos cd9] at eR
              refine x_iinc (E_X11_findTerms_3 51 rfl) rfl rfl ?_
              refine x_goto (E_X11_findTerms_3 52 rfl) ?_
              refine ih2 (m - 1) (by omega) _ _ _ (by omega) (by omega) eR.symm (fun q a b => ?_) ?_ hr2 (hF2.up (by decide)) (hO2.un (by decide))
              · show (if q = 5 + υ 136 c then υ 137 c else υ 141 q) = (if q = cd x (c - 10 * x) then vl x (c - 10 * x) else h' q)
                rw [show 5 + υ 136 c = cd x (c - 10 * x) by omega, show υ 137 c = vl x (c - 10 * x) by omega, hA2 q a b]
              · show KR (if (9 : Int) = cd x (c - 10 * x) then vl x (c - 10 * x) else h' 9) _ _
                rw [if_neg (by omega)]
                exact hK2
          · refine x_aload_n (E_X11_findTerms_3 1 rfl) rfl ?_
            refine x_getR (E_X11_findTerms_3 2 rfl) fl_X11_93 rfl (by decide) rfl ?_
            refine x_aload_n (E_X11_findTerms_3 3 rfl) rfl ?_
            refine x_getR (E_X11_findTerms_3 4 rfl) fl_X11_74 rfl (by decide) rfl ?_
            refine x_iload (E_X11_findTerms_3 5 rfl) rfl ?_
            refine x_ialde (f := υ 136) (E_X11_findTerms_3 6 rfl) rfl (by decide) (by omega) rfl ?_
            refine x_aload_n (E_X11_findTerms_3 7 rfl) rfl ?_
            refine x_getR (E_X11_findTerms_3 8 rfl) fl_X11_77 rfl (by decide) rfl ?_
            refine x_iload (E_X11_findTerms_3 9 rfl) rfl ?_
            refine x_ialde (f := υ 137) (E_X11_findTerms_3 10 rfl) rfl (by decide) (by omega) rfl ?_
            refine x_iast (E_X11_findTerms_3 11 rfl) rfl (by decide) (by omega) ?_
            refine x_goto (E_X11_findTerms_3 12 rfl) ?_
            have cd9 : cd x (c - 10 * x) ≠ 10 := by omega
            rw [if_pos cd9] at eR
            refine x_iinc (E_X11_findTerms_3 51 rfl) rfl rfl ?_
            refine x_goto (E_X11_findTerms_3 52 rfl) ?_
            refine ih2 (m - 1) (by omega) _ _ _ (by omega) (by omega) eR.symm (fun q a b => ?_) ?_ hr2 (hF2.up (by decide)) (hO2.un (by decide))
            · show (if q = υ 136 c then υ 137 c else υ 141 q) = (if q = cd x (c - 10 * x) then vl x (c - 10 * x) else h' q)
              rw [show υ 136 c = cd x (c - 10 * x) by omega, show υ 137 c = vl x (c - 10 * x) by omega, hA2 q a b]
            · show KR (if (9 : Int) = cd x (c - 10 * x) then vl x (c - 10 * x) else h' 9) _ _
              rw [if_neg (by omega)]
              exact hK2
      refine x_iload_n (E_X11_findTerms_2 30 rfl) rfl ?_
      refine x_iload_n (E_X11_findTerms_2 31 rfl) rfl ?_
      refine x_icmp_ge (E_X11_findTerms_2 32 rfl) (by omega) (by omega) (fun c1 => ?_) (fun c1 => ?_)
      · exfalso; omega
      · refine x_bipush (z := 10) (E_X11_findTerms_2 33 rfl) (by decide) ?_
        refine x_aload_n (E_X11_findTerms_2 34 rfl) rfl ?_
        refine x_getR (E_X11_findTerms_2 35 rfl) fl_X11_90 rfl (by decide) rfl ?_
        refine x_iload_n (E_X11_findTerms_2 36 rfl) rfl ?_
        refine x_ialde (f := τ 140) (E_X11_findTerms_2 37 rfl) rfl (by decide) (by omega) rfl ?_
        refine x_imul (E_X11_findTerms_2 38 rfl) ?_
        refine x_istore (E_X11_findTerms_2 39 rfl) rfl ?_
        rw [hk]
        exact inner (cl x).toNat _ h τ (by omega) (Nat.le_refl _) (by rw [Int.sub_self]; rfl) hA hK hr hF hO
  have loop4 : ∀ (m : Nat) (k : Int) (o4 : Option AV) (τ : Nat → Int → Int), k = 9 - (m : Int) → m ≤ 9 → (∀ q, 0 ≤ q → q < k → τ 141 q = held0 q) → RepL (τ 140) (srtL dy (cntS dy cl cd vl d (σ 114 22).toNat) (σ 114 22).toNat) → Fr [139, 140, 141] σ τ → XV l G M_X11_findTerms 0 204 [some (vr 114), some (vi d), some (vi (srtL dy (cntS dy cl cd vl d (σ 114 22).toNat) (σ 114 22).toNat).length), some (vi k), o4] [] τ (FtP dy cl cd vl d σ) := by
    intro m
    induction m using Nat.strongRecOn with
    | _ m ih =>
    intro k o4 τ hk hm hA hr hF
    have hfo : foldS cl cd vl (srtL dy (cntS dy cl cd vl d (σ 114 22).toNat) (σ 114 22).toNat) held0 = heldS dy cl cd vl (σ 114 22).toNat d := by
      show _ = foldS cl cd vl ((srtL dy (fun _ => true) (σ 114 22).toNat).filter (cntS dy cl cd vl d (σ 114 22).toNat)) held0
      rw [srtL_filter]
      exact congrArg (fun L => foldS cl cd vl L held0) (srtL_cong (fun i _ _ => ⟨rfl, (Bool.true_and _).symm⟩))
    refine x_iload_n (E_X11_findTerms_1 58 rfl) rfl ?_
    refine x_bipush (z := 9) (E_X11_findTerms_1 59 rfl) (by decide) ?_
    refine x_icmp_ge (E_X11_findTerms_2 0 rfl) (by omega) (by decide) (fun c1 => ?_) (fun c1 => ?_)
    · refine x_aload_n (E_X11_findTerms_2 22 rfl) rfl ?_
      refine x_sipush (z := 228) (E_X11_findTerms_2 23 rfl) (by decide) ?_
      refine x_putI (E_X11_findTerms_2 24 rfl) fl_X11_333 rfl (by decide) ?_
      refine x_aload_n (E_X11_findTerms_2 25 rfl) rfl ?_
      refine x_iconst (E_X11_findTerms_2 26 rfl) ?_
      refine x_putI (E_X11_findTerms_2 27 rfl) fl_X11_336 rfl (by decide) ?_
      refine x_iconst (E_X11_findTerms_2 28 rfl) ?_
      refine x_istore_n (E_X11_findTerms_2 29 rfl) rfl ?_
      exact loop5 _ 0 _ held0 _ rfl (by omega) (by show 0 + (((srtL dy (cntS dy cl cd vl d (σ 114 22).toNat) (σ 114 22).toNat).length : Nat) : Int) = _; omega) (fun q a b => hA q a (by omega)) KR0 hfo hr (((hF.sub (by decide)).up (by decide)).up (by decide)) (((Fo.of hF (by decide)).up (by decide)).up (by decide))
    · refine x_aload_n (E_X11_findTerms_2 1 rfl) rfl ?_
      refine x_getR (E_X11_findTerms_2 2 rfl) fl_X11_93 rfl (by decide) rfl ?_
      refine x_iload_n (E_X11_findTerms_2 3 rfl) rfl ?_
      refine x_iload_n (E_X11_findTerms_2 4 rfl) rfl ?_
      refine x_if_ne (E_X11_findTerms_2 5 rfl) (by omega) (fun c2 => ?_) (fun c2 => ?_)
      · refine x_iload_n (E_X11_findTerms_2 8 rfl) rfl ?_
        refine x_iconst (E_X11_findTerms_2 9 rfl) ?_
        refine x_icmp_ne (E_X11_findTerms_2 10 rfl) (by omega) (by decide) (fun c3 => ?_) (fun c3 => ?_)
        · refine x_iload_n (E_X11_findTerms_2 13 rfl) rfl ?_
          refine x_iconst (E_X11_findTerms_2 14 rfl) ?_
          refine x_icmp_ne (E_X11_findTerms_2 15 rfl) (by omega) (by decide) (fun c4 => ?_) (fun c4 => ?_)
          · refine x_iconst (E_X11_findTerms_2 18 rfl) ?_
            refine x_iast (E_X11_findTerms_2 19 rfl) rfl (by decide) (by omega) ?_
            refine x_iinc (E_X11_findTerms_2 20 rfl) rfl rfl ?_
            refine x_goto (E_X11_findTerms_2 21 rfl) ?_
            refine ih (m - 1) (by omega) _ _ _ (by omega) (by omega) (fun q a b => ?_) hr (hF.up (by decide))
            show (if q = k then 0 else τ 141 q) = held0 q
            by_cases e : q = k
            · rw [if_pos e, e]
              rcases (by omega : k = 2 ∨ k = 4 ∨ k = 5 ∨ k = 6 ∨ k = 7 ∨ k = 8) with e | e | e | e | e | e <;> rw [e] <;> rfl
            · rw [if_neg e]; exact hA q a (by omega)
          · refine x_bipush (z := 10) (E_X11_findTerms_2 16 rfl) (by decide) ?_
            refine x_goto (E_X11_findTerms_2 17 rfl) ?_
            refine x_iast (E_X11_findTerms_2 19 rfl) rfl (by decide) (by omega) ?_
            refine x_iinc (E_X11_findTerms_2 20 rfl) rfl rfl ?_
            refine x_goto (E_X11_findTerms_2 21 rfl) ?_
            refine ih (m - 1) (by omega) _ _ _ (by omega) (by omega) (fun q a b => ?_) hr (hF.up (by decide))
            show (if q = k then 10 else τ 141 q) = held0 q
            by_cases e : q = k
            · rw [if_pos e, e]
              rw [show k = 3 by omega]; rfl
            · rw [if_neg e]; exact hA q a (by omega)
        · refine x_iconst (E_X11_findTerms_2 11 rfl) ?_
          refine x_goto (E_X11_findTerms_2 12 rfl) ?_
          refine x_iast (E_X11_findTerms_2 19 rfl) rfl (by decide) (by omega) ?_
          refine x_iinc (E_X11_findTerms_2 20 rfl) rfl rfl ?_
          refine x_goto (E_X11_findTerms_2 21 rfl) ?_
          refine ih (m - 1) (by omega) _ _ _ (by omega) (by omega) (fun q a b => ?_) hr (hF.up (by decide))
          show (if q = k then 1 else τ 141 q) = held0 q
          by_cases e : q = k
          · rw [if_pos e, e]
            rw [show k = 1 by omega]; rfl
          · rw [if_neg e]; exact hA q a (by omega)
      · refine x_iconst (E_X11_findTerms_2 6 rfl) ?_
        refine x_goto (E_X11_findTerms_2 7 rfl) ?_
        refine x_iast (E_X11_findTerms_2 19 rfl) rfl (by decide) (by omega) ?_
        refine x_iinc (E_X11_findTerms_2 20 rfl) rfl rfl ?_
        refine x_goto (E_X11_findTerms_2 21 rfl) ?_
        refine ih (m - 1) (by omega) _ _ _ (by omega) (by omega) (fun q a b => ?_) hr (hF.up (by decide))
        show (if q = k then 2 else τ 141 q) = held0 q
        by_cases e : q = k
        · rw [if_pos e, e]
          rw [show k = 0 by omega]; rfl
        · rw [if_neg e]; exact hA q a (by omega)
  have loop3 : ∀ (k : Nat) (n i : Int) (o4 : Option AV) (τ : Nat → Int → Int), i = σ 114 22 - k → k ≤ (σ 114 22).toNat → n = (srtL dy (cntS dy cl cd vl d (σ 114 22).toNat) i.toNat).length → RepL (τ 140) (srtL dy (cntS dy cl cd vl d (σ 114 22).toNat) i.toNat) → (∀ x, 0 ≤ x → x < σ 114 22 → τ 139 x = b2i ((cntS dy cl cd vl d (σ 114 22).toNat) x)) → Fr [139, 140] σ τ → XV l G M_X11_findTerms 0 115 [some (vr 114), some (vi d), some (vi n), some (vi i), o4] [] τ (FtP dy cl cd vl d σ) := by
    intro k
    induction k using Nat.strongRecOn with
    | _ k ih =>
    intro n i o4 τ hi hk9 hn hL hV hF
    have e22 := congrFun (hF 114 (by decide)) 22
    have hl9 : (srtL dy (cntS dy cl cd vl d (σ 114 22).toNat) i.toNat).length ≤ i.toNat := srtL_len_le
    have hmem : ∀ k : Nat, k < (srtL dy (cntS dy cl cd vl d (σ 114 22).toNat) i.toNat).length → 0 ≤ (srtL dy (cntS dy cl cd vl d (σ 114 22).toNat) i.toNat).getD k 0 ∧ (srtL dy (cntS dy cl cd vl d (σ 114 22).toNat) i.toNat).getD k 0 < i := fun k hk => by
      have := srtL_mem.mp (getD_mem (L := (srtL dy (cntS dy cl cd vl d (σ 114 22).toNat) i.toNat)) hk)
      omega
    have inner : 0 ≤ i → i < σ 114 22 → (cntS dy cl cd vl d (σ 114 22).toNat) i = true → ∀ (m : Nat) (pl : Int) (υ : Nat → Int → Int), pl = m → m ≤ (srtL dy (cntS dy cl cd vl d (σ 114 22).toNat) i.toNat).length → Fr [140] τ υ → (∀ k : Nat, k < m → υ 140 k = (srtL dy (cntS dy cl cd vl d (σ 114 22).toNat) i.toNat).getD k 0) → (∀ k : Nat, m ≤ k → k < (srtL dy (cntS dy cl cd vl d (σ 114 22).toNat) i.toNat).length → υ 140 ((k : Int) + 1) = (srtL dy (cntS dy cl cd vl d (σ 114 22).toNat) i.toNat).getD k 0 ∧ dy i < dy ((srtL dy (cntS dy cl cd vl d (σ 114 22).toNat) i.toNat).getD k 0)) → XV l G M_X11_findTerms 0 135 [some (vr 114), some (vi d), some (vi n), some (vi i), some (vi pl)] [] υ (FtP dy cl cd vl d σ) := by
      intro hi0 hi1 hf m
      induction m using Nat.strongRecOn with
      | _ m ih2 =>
      intro pl υ hpl hm hF2 hI1 hI2
      have e133b : υ 133 = dy := ((hF2 133 (by decide)).trans (hF 133 (by decide))).trans e133
      have exit : (m = 0 ∨ dy (υ 140 (pl - 1)) ≤ dy i) → XV l G M_X11_findTerms 0 185 [some (vr 114), some (vi d), some (vi n), some (vi i), some (vi pl)] [] υ (FtP dy cl cd vl d σ) := by
        intro hx
        refine x_aload_n (E_X11_findTerms_1 48 rfl) rfl ?_
        refine x_getR (E_X11_findTerms_1 49 rfl) fl_X11_90 rfl (by decide) rfl ?_
        refine x_iload (E_X11_findTerms_1 50 rfl) rfl ?_
        refine x_iload_n (E_X11_findTerms_1 51 rfl) rfl ?_
        refine x_iast (E_X11_findTerms_1 52 rfl) rfl (by decide) (by omega) ?_
        refine x_iinc (E_X11_findTerms_1 53 rfl) rfl rfl ?_
        refine x_iinc (E_X11_findTerms_1 54 rfl) rfl rfl ?_
        refine x_goto (E_X11_findTerms_1 55 rfl) ?_
        have e139 : υ 139 = τ 139 := hF2 139 (by decide)
        have eL : srtL dy (cntS dy cl cd vl d (σ 114 22).toNat) (i + 1).toNat = insL dy i (srtL dy (cntS dy cl cd vl d (σ 114 22).toNat) i.toNat) := by
          rw [show (i + 1).toNat = i.toNat + 1 by omega]
          show (if (cntS dy cl cd vl d (σ 114 22).toNat) (i.toNat : Nat) = true then insL dy (i.toNat : Nat) (srtL dy (cntS dy cl cd vl d (σ 114 22).toNat) i.toNat) else _) = _
          rw [show ((i.toNat : Nat) : Int) = i by omega, if_pos hf]
        refine ih (k - 1) (by omega) _ (i + 1) _ _ (by omega) (by omega) ?_ ?_ (fun x a b => ?_) ?_
        · rw [eL, insL_len]; omega
        · rw [eL]
          show RepL (fun k => if k = pl then i else υ 140 k) _
          refine ins_rep (m := m) hm (fun k hk => ?_) (if_pos (by omega)) (fun k h3 h4 => ?_) (fun k h3 h4 => ?_) ?_ srtL_sorted
          · rw [if_neg (by omega)]; exact hI1 k hk
          · rw [if_neg (by omega)]; exact (hI2 k h3 h4).1
          · exact (hI2 k h3 h4).2
          · rcases hx with hx | hx
            · exact Or.inl hx
            · by_cases em : m = 0
              · exact Or.inl em
              · refine Or.inr ?_
                have q1 := hI1 (m - 1) (by omega)
                rw [show ((m - 1 : Nat) : Int) = pl - 1 by omega] at q1
                rw [← q1]; exact hx
        · show υ 139 x = _
          rw [e139]; exact hV x a b
        · exact Fr.up (Fr.trans hF hF2 (fun k h => h) (by decide)) (by decide)
      have d9 := (hT i hi0 hi1).1
      have d8 := congrFun e133b i
      refine x_iload (E_X11_findTerms_1 20 rfl) rfl ?_
      refine x_if_le (E_X11_findTerms_1 21 rfl) (by omega) (fun c1 => ?_) (fun c1 => ?_)
      · exact exit (by omega)
      · have q9 := hI1 (m - 1) (by omega)
        rw [show ((m - 1 : Nat) : Int) = pl - 1 by omega] at q9
        have w9 := hmem (m - 1) (by omega)
        rw [← q9] at w9
        have w8 := (hT _ w9.1 (by omega)).1
        have w7 := congrFun e133b (υ 140 (pl - 1))
        refine x_aload_n (E_X11_findTerms_1 22 rfl) rfl ?_
        refine x_getR (E_X11_findTerms_1 23 rfl) fl_X11_65 rfl (by decide) rfl ?_
        refine x_aload_n (E_X11_findTerms_1 24 rfl) rfl ?_
        refine x_getR (E_X11_findTerms_1 25 rfl) fl_X11_90 rfl (by decide) rfl ?_
        refine x_iload (E_X11_findTerms_1 26 rfl) rfl ?_
        refine x_iconst (E_X11_findTerms_1 27 rfl) ?_
        refine x_isub (E_X11_findTerms_1 28 rfl) ?_
        refine x_ialde (f := υ 140) (E_X11_findTerms_1 29 rfl) rfl (by decide) (by omega) rfl ?_
        refine x_ialde (f := υ 133) (E_X11_findTerms_1 30 rfl) rfl (by decide) (by omega) rfl ?_
        refine x_aload_n (E_X11_findTerms_1 31 rfl) rfl ?_
        refine x_getR (E_X11_findTerms_1 32 rfl) fl_X11_65 rfl (by decide) rfl ?_
        refine x_iload_n (E_X11_findTerms_1 33 rfl) rfl ?_
        refine x_ialde (f := υ 133) (E_X11_findTerms_1 34 rfl) rfl (by decide) (by omega) rfl ?_
        refine x_icmp_le (E_X11_findTerms_1 35 rfl) (by omega) (by omega) (fun c2 => ?_) (fun c2 => ?_)
        · exact exit (by omega)
        · refine x_aload_n (E_X11_findTerms_1 36 rfl) rfl ?_
          refine x_getR (E_X11_findTerms_1 37 rfl) fl_X11_90 rfl (by decide) rfl ?_
          refine x_iload (E_X11_findTerms_1 38 rfl) rfl ?_
          refine x_aload_n (E_X11_findTerms_1 39 rfl) rfl ?_
          refine x_getR (E_X11_findTerms_1 40 rfl) fl_X11_90 rfl (by decide) rfl ?_
          refine x_iload (E_X11_findTerms_1 41 rfl) rfl ?_
          refine x_iconst (E_X11_findTerms_1 42 rfl) ?_
          refine x_isub (E_X11_findTerms_1 43 rfl) ?_
          refine x_ialde (f := υ 140) (E_X11_findTerms_1 44 rfl) rfl (by decide) (by omega) rfl ?_
          refine x_iast (E_X11_findTerms_1 45 rfl) rfl (by decide) (by omega) ?_
          refine x_iinc (E_X11_findTerms_1 46 rfl) rfl rfl ?_
          refine x_goto (E_X11_findTerms_1 47 rfl) ?_
          refine ih2 (m - 1) (by omega) _ _ (by omega) (by omega) (hF2.up (by decide)) (fun k hk => ?_) (fun k h3 h4 => ?_)
          · show (if (k : Int) = pl then _ else υ 140 k) = _
            rw [if_neg (by omega)]; exact hI1 k (by omega)
          · show (if (k : Int) + 1 = pl then υ 140 (pl - 1) else υ 140 ((k : Int) + 1)) = _ ∧ _
            by_cases ek : k = m - 1
            · subst ek
              rw [if_pos (by omega), ← q9]
              exact ⟨rfl, by omega⟩
            · rw [if_neg (by omega)]; exact hI2 k (by omega) h4
    refine x_iload_n (E_X11_findTerms_1 9 rfl) rfl ?_
    refine x_aload_n (E_X11_findTerms_1 10 rfl) rfl ?_
    refine x_getIe (v := τ 114 22) (E_X11_findTerms_1 11 rfl) fl_X11_323 rfl (by decide) rfl ?_
    refine x_icmp_ge (E_X11_findTerms_1 12 rfl) (by omega) (by omega) (fun c1 => ?_) (fun c1 => ?_)
    · refine x_iconst (E_X11_findTerms_1 56 rfl) ?_
      refine x_istore_n (E_X11_findTerms_1 57 rfl) rfl ?_
      rw [show i = σ 114 22 by omega] at hn hL
      subst hn
      exact loop4 9 0 _ τ (by omega) (by omega) (fun q a b => absurd a (by omega)) hL (hF.sub (by decide))
    · have v9 := hV i (by omega) (by omega)
      have v8 : ((cntS dy cl cd vl d (σ 114 22).toNat) i = true ∧ τ 139 i = 1) ∨ (¬ (cntS dy cl cd vl d (σ 114 22).toNat) i = true ∧ τ 139 i = 0) := by
        rw [v9]
        by_cases e : (cntS dy cl cd vl d (σ 114 22).toNat) i = true
        · exact Or.inl ⟨e, if_pos e⟩
        · exact Or.inr ⟨e, if_neg e⟩
      refine x_aload_n (E_X11_findTerms_1 13 rfl) rfl ?_
      refine x_getR (E_X11_findTerms_1 14 rfl) fl_X11_87 rfl (by decide) rfl ?_
      refine x_iload_n (E_X11_findTerms_1 15 rfl) rfl ?_
      refine x_zalde (f := τ 139) (E_X11_findTerms_1 16 rfl) rfl (by decide) (by omega) rfl ?_
      refine x_if_eq (E_X11_findTerms_1 17 rfl) (by omega) (fun c2 => ?_) (fun c2 => ?_)
      · have hf := (v8.resolve_left (by omega)).1
        have eL : srtL dy (cntS dy cl cd vl d (σ 114 22).toNat) (i + 1).toNat = (srtL dy (cntS dy cl cd vl d (σ 114 22).toNat) i.toNat) := by
          rw [show (i + 1).toNat = i.toNat + 1 by omega]
          show (if (cntS dy cl cd vl d (σ 114 22).toNat) (i.toNat : Nat) = true then _ else (srtL dy (cntS dy cl cd vl d (σ 114 22).toNat) i.toNat)) = _
          rw [show ((i.toNat : Nat) : Int) = i by omega, if_neg hf]
        refine x_iinc (E_X11_findTerms_1 54 rfl) rfl rfl ?_
        refine x_goto (E_X11_findTerms_1 55 rfl) ?_
        exact ih (k - 1) (by omega) _ (i + 1) _ _ (by omega) (by omega) (by rw [eL]; exact hn) (by rw [eL]; exact hL) hV hF
      · refine x_iload_n (E_X11_findTerms_1 18 rfl) rfl ?_
        refine x_istore (E_X11_findTerms_1 19 rfl) rfl ?_
        have hf := (v8.resolve_right (by omega)).1
        exact inner (by omega) (by omega) hf (srtL dy (cntS dy cl cd vl d (σ 114 22).toNat) i.toNat).length _ τ hn (Nat.le_refl _) Fr.rf (fun k hk => hL.at hk) (fun k q1 q2 => absurd q2 (by omega))
  have loop2 : ∀ (m j : Nat) (t : Int) (o3 : Option AV) (τ : Nat → Int → Int), t = (m : Int) - 1 → m + j = (σ 114 22).toNat → (∀ x, 0 ≤ x → x < σ 114 22 → τ 139 x = b2i (decide (dy x ≤ d) && !(strS dy cl cd vl d (σ 114 22).toNat j x))) → Fr [139] σ τ → XV l G M_X11_findTerms 0 44 [some (vr 114), some (vi d), some (vi t), o3, none] [] τ (FtP dy cl cd vl d σ) := by
    intro m
    induction m with
    | zero =>
      intro j t o3 τ ht hj hA hF
      refine x_iload_n (E_X11_findTerms_0 26 rfl) rfl ?_
      refine x_if_lt (E_X11_findTerms_0 27 rfl) (by omega) (fun c1 => ?_) (fun c1 => ?_)
      · refine x_iconst (E_X11_findTerms_1 5 rfl) ?_
        refine x_istore_n (E_X11_findTerms_1 6 rfl) rfl ?_
        refine x_iconst (E_X11_findTerms_1 7 rfl) ?_
        refine x_istore_n (E_X11_findTerms_1 8 rfl) rfl ?_
        rw [show j = (σ 114 22).toNat by omega] at hA
        exact loop3 (σ 114 22).toNat 0 0 none τ (by omega) (Nat.le_refl _) rfl (fun k x h => by cases h) hA (hF.sub (by decide))
      · exfalso; omega
    | succ m ih =>
      intro j t o3 τ ht hj hA hF
      have t0 : 0 ≤ t ∧ t < σ 114 22 := by omega
      obtain ⟨u1, u2, u3⟩ := hT t t0.1 t0.2
      have ej : ((σ 114 22).toNat : Int) - 1 - j = t := by omega
      have eS : strS dy cl cd vl d (σ 114 22).toNat (j + 1) = if dy t ≤ d ∧ strS dy cl cd vl d (σ 114 22).toNat j t = false then markS cd vl t (strS dy cl cd vl d (σ 114 22).toNat j) (cl t).toNat else strS dy cl cd vl d (σ 114 22).toNat j := by
        show (if dy (((σ 114 22).toNat : Int) - 1 - j) ≤ d ∧ strS dy cl cd vl d (σ 114 22).toNat j (((σ 114 22).toNat : Int) - 1 - j) = false then markS cd vl (((σ 114 22).toNat : Int) - 1 - j) (strS dy cl cd vl d (σ 114 22).toNat j) (cl (((σ 114 22).toNat : Int) - 1 - j)).toNat else strS dy cl cd vl d (σ 114 22).toNat j) = _
        rw [ej]
      by_cases hc9 : dy t ≤ d ∧ strS dy cl cd vl d (σ 114 22).toNat j t = false
      · have inner : ∀ (k : Nat) (c : Int) (υ : Nat → Int → Int), c = 10 * t + cl t - k → k ≤ (cl t).toNat → (∀ x, 0 ≤ x → x < σ 114 22 → υ 139 x = b2i (decide (dy x ≤ d) && !(markS cd vl t (strS dy cl cd vl d (σ 114 22).toNat j) (c - 10 * t).toNat x))) → Fr [139] σ υ → XV l G M_X11_findTerms 0 53 [some (vr 114), some (vi d), some (vi t), some (vi c), none] [] υ (FtP dy cl cd vl d σ) := by
          intro k
          induction k using Nat.strongRecOn with
          | _ k ih2 =>
          intro c υ hc hk hM hF2
          have e34 := congrFun ((hF2 134 (by decide)).trans e134) t
          have e35 := congrFun (hF2 135 (by decide)) c
          have e36 := congrFun (hF2 136 (by decide)) c
          have on9 : υ 139 t = 1 := by
            rw [hM t t0.1 t0.2, markS_self (fun c a b h => by have w := (u3 c a (by omega)).cs; have w2 := w.2.2.1 (w.1.mpr h); omega), hc9.2, decide_eq_true hc9.1]
            rfl
          refine x_iload_n (E_X11_findTerms_0 32 rfl) rfl ?_
          refine x_bipush (z := 10) (E_X11_findTerms_0 33 rfl) (by decide) ?_
          refine x_iload_n (E_X11_findTerms_0 34 rfl) rfl ?_
          refine x_imul (E_X11_findTerms_0 35 rfl) ?_
          refine x_aload_n (E_X11_findTerms_0 36 rfl) rfl ?_
          refine x_getR (E_X11_findTerms_0 37 rfl) fl_X11_68 rfl (by decide) rfl ?_
          refine x_iload_n (E_X11_findTerms_0 38 rfl) rfl ?_
          refine x_ialde (f := υ 134) (E_X11_findTerms_0 39 rfl) rfl (by decide) (by omega) rfl ?_
          refine x_iadd (E_X11_findTerms_0 40 rfl) ?_
          refine x_icmp_ge (E_X11_findTerms_0 41 rfl) (by omega) (by omega) (fun c1 => ?_) (fun c1 => ?_)
          · refine x_iinc (E_X11_findTerms_1 3 rfl) rfl rfl ?_
            refine x_goto (E_X11_findTerms_1 4 rfl) ?_
            refine ih (j + 1) _ _ _ (by omega) (by omega) ?_ hF2
            rw [eS, if_pos hc9, ← show (c - 10 * t) = cl t by omega]
            exact hM
          · refine x_aload_n (E_X11_findTerms_0 42 rfl) rfl ?_
            refine x_getR (E_X11_findTerms_0 43 rfl) fl_X11_87 rfl (by decide) rfl ?_
            refine x_iload_n (E_X11_findTerms_0 44 rfl) rfl ?_
            refine x_zalde (f := υ 139) (E_X11_findTerms_0 45 rfl) rfl (by decide) (by omega) rfl ?_
            refine x_if_eq (E_X11_findTerms_0 46 rfl) (by omega) (fun c2 => ?_) (fun c2 => ?_)
            · exfalso; omega
            · have w9 := (u3 (c - 10 * t) (by omega) (by omega)).cs
              rw [show 10 * t + (c - 10 * t) = c by omega] at w9
              have es : (c + 1 - 10 * t).toNat = (c - 10 * t).toNat + 1 := by omega
              have ec : (((c - 10 * t).toNat : Nat) : Int) = c - 10 * t := by omega
              refine x_aload_n (E_X11_findTerms_0 47 rfl) rfl ?_
              refine x_getR (E_X11_findTerms_0 48 rfl) fl_X11_71 rfl (by decide) rfl ?_
              refine x_iload_n (E_X11_findTerms_0 49 rfl) rfl ?_
              refine x_ialde (f := υ 135) (E_X11_findTerms_0 50 rfl) rfl (by decide) (by omega) rfl ?_
              refine x_iconst (E_X11_findTerms_0 51 rfl) ?_
              refine x_icmp_ne (E_X11_findTerms_0 52 rfl) (by omega) (by decide) (fun c3 => ?_) (fun c3 => ?_)
              · refine x_iinc (E_X11_findTerms_1 1 rfl) rfl rfl ?_
                refine x_goto (E_X11_findTerms_1 2 rfl) ?_
                refine ih2 (k - 1) (by omega) _ _ (by omega) (by omega) (fun x a b => ?_) hF2
                rw [es]
                show υ 139 x = b2i (decide (dy x ≤ d) && !((if cd t ((c - 10 * t).toNat : Nat) = 10 then _ else markS cd vl t (strS dy cl cd vl d (σ 114 22).toNat j) (c - 10 * t).toNat) x))
                rw [ec, if_neg (by omega)]
                exact hM x a b
              · refine x_aload_n (E_X11_findTerms_0 53 rfl) rfl ?_
                refine x_getR (E_X11_findTerms_0 54 rfl) fl_X11_87 rfl (by decide) rfl ?_
                refine x_aload_n (E_X11_findTerms_0 55 rfl) rfl ?_
                refine x_getR (E_X11_findTerms_0 56 rfl) fl_X11_74 rfl (by decide) rfl ?_
                refine x_iload_n (E_X11_findTerms_0 57 rfl) rfl ?_
                refine x_ialde (f := υ 136) (E_X11_findTerms_0 58 rfl) rfl (by decide) (by omega) rfl ?_
                refine x_iconst (E_X11_findTerms_0 59 rfl) ?_
                refine x_zast (E_X11_findTerms_1 0 rfl) rfl (by decide) (by omega) (Or.inl rfl) ?_
                refine x_iinc (E_X11_findTerms_1 1 rfl) rfl rfl ?_
                refine x_goto (E_X11_findTerms_1 2 rfl) ?_
                refine ih2 (k - 1) (by omega) _ _ (by omega) (by omega) (fun x a b => ?_) (hF2.up (by decide))
                have ef : υ 136 c = vl t (c - 10 * t) := by omega
                rw [es]
                show (if x = υ 136 c then 0 else υ 139 x) = b2i (decide (dy x ≤ d) && !((if cd t ((c - 10 * t).toNat : Nat) = 10 then (fun x => if x = vl t ((c - 10 * t).toNat : Nat) then true else markS cd vl t (strS dy cl cd vl d (σ 114 22).toNat j) (c - 10 * t).toNat x) else _) x))
                rw [ec, ef, if_pos (show cd t (c - 10 * t) = 10 by omega)]
                by_cases e : x = vl t (c - 10 * t)
                · rw [if_pos e]
                  show _ = b2i (decide (dy x ≤ d) && !(if x = vl t (c - 10 * t) then true else _))
                  rw [if_pos e, Bool.not_true, Bool.and_false]; rfl
                · rw [if_neg e]
                  show _ = b2i (decide (dy x ≤ d) && !(if x = vl t (c - 10 * t) then true else _))
                  rw [if_neg e]; exact hM x a b
        refine x_iload_n (E_X11_findTerms_0 26 rfl) rfl ?_
        refine x_if_lt (E_X11_findTerms_0 27 rfl) (by omega) (fun c1 => ?_) (fun c1 => ?_)
        · exfalso; omega
        · refine x_bipush (z := 10) (E_X11_findTerms_0 28 rfl) (by decide) ?_
          refine x_iload_n (E_X11_findTerms_0 29 rfl) rfl ?_
          refine x_imul (E_X11_findTerms_0 30 rfl) ?_
          refine x_istore_n (E_X11_findTerms_0 31 rfl) rfl ?_
          exact inner (cl t).toNat _ τ (by omega) (Nat.le_refl _) (by rw [Int.sub_self]; exact hA) hF
      · have e34 := congrFun ((hF 134 (by decide)).trans e134) t
        have off9 : τ 139 t = 0 := by
          rw [hA t t0.1 t0.2]
          refine if_neg (fun h => hc9 ?_)
          rw [Bool.and_eq_true, decide_eq_true_iff, Bool.not_eq_true'] at h
          exact h
        refine x_iload_n (E_X11_findTerms_0 26 rfl) rfl ?_
        refine x_if_lt (E_X11_findTerms_0 27 rfl) (by omega) (fun c1 => ?_) (fun c1 => ?_)
        · exfalso; omega
        · refine x_bipush (z := 10) (E_X11_findTerms_0 28 rfl) (by decide) ?_
          refine x_iload_n (E_X11_findTerms_0 29 rfl) rfl ?_
          refine x_imul (E_X11_findTerms_0 30 rfl) ?_
          refine x_istore_n (E_X11_findTerms_0 31 rfl) rfl ?_
          refine x_iload_n (E_X11_findTerms_0 32 rfl) rfl ?_
          refine x_bipush (z := 10) (E_X11_findTerms_0 33 rfl) (by decide) ?_
          refine x_iload_n (E_X11_findTerms_0 34 rfl) rfl ?_
          refine x_imul (E_X11_findTerms_0 35 rfl) ?_
          refine x_aload_n (E_X11_findTerms_0 36 rfl) rfl ?_
          refine x_getR (E_X11_findTerms_0 37 rfl) fl_X11_68 rfl (by decide) rfl ?_
          refine x_iload_n (E_X11_findTerms_0 38 rfl) rfl ?_
          refine x_ialde (f := τ 134) (E_X11_findTerms_0 39 rfl) rfl (by decide) (by omega) rfl ?_
          refine x_iadd (E_X11_findTerms_0 40 rfl) ?_
          refine x_icmp_ge (E_X11_findTerms_0 41 rfl) (by omega) (by omega) (fun c2 => ?_) (fun c2 => ?_)
          · refine x_iinc (E_X11_findTerms_1 3 rfl) rfl rfl ?_
            refine x_goto (E_X11_findTerms_1 4 rfl) ?_
            refine ih (j + 1) _ _ _ (by omega) (by omega) ?_ hF
            rw [eS, if_neg hc9]
            exact hA
          · refine x_aload_n (E_X11_findTerms_0 42 rfl) rfl ?_
            refine x_getR (E_X11_findTerms_0 43 rfl) fl_X11_87 rfl (by decide) rfl ?_
            refine x_iload_n (E_X11_findTerms_0 44 rfl) rfl ?_
            refine x_zalde (f := τ 139) (E_X11_findTerms_0 45 rfl) rfl (by decide) (by omega) rfl ?_
            refine x_if_eq (E_X11_findTerms_0 46 rfl) (by omega) (fun c3 => ?_) (fun c3 => ?_)
            · refine x_iinc (E_X11_findTerms_1 3 rfl) rfl rfl ?_
              refine x_goto (E_X11_findTerms_1 4 rfl) ?_
              refine ih (j + 1) _ _ _ (by omega) (by omega) ?_ hF
              rw [eS, if_neg hc9]
              exact hA
            · exfalso; omega
  have loop1 : ∀ (k : Nat) (i : Int) (τ : Nat → Int → Int), i = σ 114 22 - k → k ≤ (σ 114 22).toNat → (∀ x, 0 ≤ x → x < i → τ 139 x = b2i (decide (dy x ≤ d) && !(strS dy cl cd vl d (σ 114 22).toNat 0 x))) → Fr [139] σ τ → XV l G M_X11_findTerms 0 2 [some (vr 114), some (vi d), some (vi i), none, none] [] τ (FtP dy cl cd vl d σ) := by
    intro k
    induction k using Nat.strongRecOn with
    | _ k ih =>
    intro i τ hi hk hZ hF
    have e22 := congrFun (hF 114 (by decide)) 22
    have e33 := congrFun ((hF 133 (by decide)).trans e133) i
    refine x_iload_n (E_X11_findTerms_0 2 rfl) rfl ?_
    refine x_aload_n (E_X11_findTerms_0 3 rfl) rfl ?_
    refine x_getIe (v := τ 114 22) (E_X11_findTerms_0 4 rfl) fl_X11_323 rfl (by decide) rfl ?_
    refine x_icmp_ge (E_X11_findTerms_0 5 rfl) (by omega) (by omega) (fun c1 => ?_) (fun c1 => ?_)
    · refine x_aload_n (E_X11_findTerms_0 21 rfl) rfl ?_
      refine x_getIe (v := τ 114 22) (E_X11_findTerms_0 22 rfl) fl_X11_323 rfl (by decide) rfl ?_
      refine x_iconst (E_X11_findTerms_0 23 rfl) ?_
      refine x_isub (E_X11_findTerms_0 24 rfl) ?_
      refine x_istore_n (E_X11_findTerms_0 25 rfl) rfl ?_
      exact loop2 (σ 114 22).toNat 0 _ none τ (by omega) (by omega) (fun x a b => hZ x a (by omega)) hF
    · have t9 := (hT i (by omega) (by omega)).1
      refine x_aload_n (E_X11_findTerms_0 6 rfl) rfl ?_
      refine x_getR (E_X11_findTerms_0 7 rfl) fl_X11_87 rfl (by decide) rfl ?_
      refine x_iload_n (E_X11_findTerms_0 8 rfl) rfl ?_
      refine x_aload_n (E_X11_findTerms_0 9 rfl) rfl ?_
      refine x_getR (E_X11_findTerms_0 10 rfl) fl_X11_65 rfl (by decide) rfl ?_
      refine x_iload_n (E_X11_findTerms_0 11 rfl) rfl ?_
      refine x_ialde (f := τ 133) (E_X11_findTerms_0 12 rfl) rfl (by decide) (by omega) rfl ?_
      refine x_iload_n (E_X11_findTerms_0 13 rfl) rfl ?_
      refine x_icmp_gt (E_X11_findTerms_0 14 rfl) (by omega) (by omega) (fun c2 => ?_) (fun c2 => ?_)
      · refine x_iconst (E_X11_findTerms_0 17 rfl) ?_
        refine x_zast (E_X11_findTerms_0 18 rfl) rfl (by decide) (by omega) (Or.inl rfl) ?_
        refine x_iinc (E_X11_findTerms_0 19 rfl) rfl rfl ?_
        refine x_goto (E_X11_findTerms_0 20 rfl) ?_
        refine ih (k - 1) (by omega) _ _ (by omega) (by omega) (fun j a b => ?_) (hF.up (by decide))
        show (if j = i then 0 else τ 139 j) = _
        by_cases e : j = i
        · subst e
          rw [if_pos rfl]
          show _ = b2i (decide (dy j ≤ d) && !false)
          rw [decide_eq_false (by omega)]
          rfl
        · rw [if_neg e]; exact hZ j a (by omega)
      · refine x_iconst (E_X11_findTerms_0 15 rfl) ?_
        refine x_goto (E_X11_findTerms_0 16 rfl) ?_
        refine x_zast (E_X11_findTerms_0 18 rfl) rfl (by decide) (by omega) (Or.inr rfl) ?_
        refine x_iinc (E_X11_findTerms_0 19 rfl) rfl rfl ?_
        refine x_goto (E_X11_findTerms_0 20 rfl) ?_
        refine ih (k - 1) (by omega) _ _ (by omega) (by omega) (fun j a b => ?_) (hF.up (by decide))
        show (if j = i then 1 else τ 139 j) = _
        by_cases e : j = i
        · subst e
          rw [if_pos rfl]
          show _ = b2i (decide (dy j ≤ d) && !false)
          rw [decide_eq_true (by omega)]
          rfl
        · rw [if_neg e]; exact hZ j a (by omega)
  refine x_iconst (E_X11_findTerms_0 0 rfl) ?_
  refine x_istore_n (E_X11_findTerms_0 1 rfl) rfl ?_
  exact loop1 (σ 114 22).toNat 0 σ (by omega) (Nat.le_refl _) (fun j a b => absurd a (by omega)) Fr.rf

