/-! the book, again -/
variable {l : Launch} {G : GC} {σ : Nat → Int → Int}

/-- the element at place p among those that f takes, or -1 -/
def atS (f : Int → Bool) : List Int → Int → Int
  | [], _ => -1
  | x :: r, p => if f x = true then (if p = 0 then x else atS f r (p - 1)) else atS f r p
theorem atS_eq {f : Int → Bool} : ∀ {L : List Int} {p : Int}, atS f L p = if 0 ≤ p ∧ p < (L.filter f).length then (L.filter f).getD p.toNat 0 else -1
  | [], p => by
    rw [if_neg (by simp)]
    rfl
  | x :: r, p => by
    unfold atS
    by_cases c : f x = true
    · rw [if_pos c, List.filter_cons, if_pos c]
      by_cases e : p = 0
      · subst e
        rw [if_pos rfl, if_pos ⟨Int.le_refl _, by simp⟩]
        rfl
      · rw [if_neg e, atS_eq (L := r)]
        by_cases q : 0 ≤ p - 1 ∧ p - 1 < (r.filter f).length
        · rw [if_pos q, if_pos ⟨by omega, by rw [List.length_cons]; omega⟩]
          obtain ⟨k, hk⟩ : ∃ k : Nat, p.toNat = k + 1 := ⟨p.toNat - 1, by omega⟩
          rw [hk, show (p - 1).toNat = k by omega]
          rfl
        · rw [if_neg q, if_neg (fun h => q ?_)]
          have := h.2
          rw [List.length_cons] at this
          omega
    · rw [if_neg c, List.filter_cons, if_neg c]
      exact atS_eq
theorem c_X2_isInBook {i : Int} (hi : 0 ≤ i ∧ i < 120) (h10 : 0 ≤ σ 7 10 ∧ σ 7 10 ≤ 120) (hv : σ 16 i = 0 ∨ σ 16 i = 1) : CI l G M_X2_isInBook 0 [vr 7, vi i] σ (BP (i < σ 7 10 ∧ σ 16 i = 0) σ) := by
  refine Ct.of rfl (Nat.le_of_ble_eq_true rfl) ?_
  refine x_iload_n (E_X2_isInBook_0 0 rfl) rfl ?_
  refine x_aload_n (E_X2_isInBook_0 1 rfl) rfl ?_
  refine x_getIe (v := σ 7 10) (E_X2_isInBook_0 2 rfl) fl_X2_48 rfl (by decide) rfl ?_
  refine x_icmp_ge (E_X2_isInBook_0 3 rfl) (by omega) (by omega) (fun c1 => ?_) (fun c1 => ?_)
  · refine x_iconst (E_X2_isInBook_0 11 rfl) ?_
    refine z_iret (E_X2_isInBook_0 12 rfl) (Or.inl rfl) ?_
    exact ⟨rfl, by first | exact Or.inl ⟨rfl, by omega⟩ | exact Or.inr ⟨rfl, by omega⟩⟩
  · refine x_aload_n (E_X2_isInBook_0 4 rfl) rfl ?_
    refine x_getR (E_X2_isInBook_0 5 rfl) fl_X2_36 rfl (by decide) rfl ?_
    refine x_iload_n (E_X2_isInBook_0 6 rfl) rfl ?_
    refine x_zalde (f := σ 16) (E_X2_isInBook_0 7 rfl) rfl (by decide) (by omega) rfl ?_
    refine x_if_ne (E_X2_isInBook_0 8 rfl) (by omega) (fun c2 => ?_) (fun c2 => ?_)
    · refine x_iconst (E_X2_isInBook_0 11 rfl) ?_
      refine z_iret (E_X2_isInBook_0 12 rfl) (Or.inl rfl) ?_
      exact ⟨rfl, by first | exact Or.inl ⟨rfl, by omega⟩ | exact Or.inr ⟨rfl, by omega⟩⟩
    · refine x_iconst (E_X2_isInBook_0 9 rfl) ?_
      refine x_goto (E_X2_isInBook_0 10 rfl) ?_
      refine z_iret (E_X2_isInBook_0 12 rfl) (Or.inr rfl) ?_
      exact ⟨rfl, by first | exact Or.inl ⟨rfl, by omega⟩ | exact Or.inr ⟨rfl, by omega⟩⟩
theorem c_X2_inBookAt {pl : Int} {f : Int → Bool} {O : List Int} (hpl : rgi pl) (hn : σ 7 9 = O.length ∧ O.length ≤ 120) (h10 : 0 ≤ σ 7 10 ∧ σ 7 10 ≤ 120) (hO : RepL (σ 15) O) (hf : ∀ x ∈ O, (0 ≤ x ∧ x < 120) ∧ (σ 16 x = 0 ∨ σ 16 x = 1) ∧ (f x = true ↔ x < σ 7 10 ∧ σ 16 x = 0)) : CI l G M_X2_inBookAt 1 [vr 7, vi pl] σ (IP (atS f O pl) σ) := by
  refine Ct.of rfl (Nat.le_of_ble_eq_true rfl) ?_
  have loop : ∀ (R : List Int) (k seen : Int), O.drop k.toNat = R → 0 ≤ k → k + R.length = O.length → 0 ≤ seen → seen ≤ k → atS f R (pl - seen) = atS f O pl → XI l G M_X2_inBookAt 1 4 [some (vr 7), some (vi pl), some (vi seen), some (vi k)] [] σ (IP (atS f O pl) σ) := by
    intro R
    induction R with
    | nil =>
      intro k seen e1 e2 e3 e4 e5 e6
      simp only [List.length_nil] at e3
      refine x_iload_n (E_X2_inBookAt_0 4 rfl) rfl ?_
      refine x_aload_n (E_X2_inBookAt_0 5 rfl) rfl ?_
      refine x_getIe (v := σ 7 9) (E_X2_inBookAt_0 6 rfl) fl_X2_40 rfl (by decide) rfl ?_
      refine x_icmp_ge (E_X2_inBookAt_0 7 rfl) (by omega) (by omega) (fun c1 => ?_) (fun c1 => ?_)
      · refine x_iconst (E_X2_inBookAt_0 26 rfl) ?_
        refine z_iret (E_X2_inBookAt_0 27 rfl) trivial ?_
        exact ⟨e6, rfl⟩
      · exfalso; omega
    | cons x R ih =>
      intro k seen e1 e2 e3 e4 e5 e6
      simp only [List.length_cons] at e3
      have hx : O[k.toNat]? = some x := by
        have : (O.drop k.toNat)[0]? = some x := by rw [e1]; rfl
        rw [List.getElem?_drop] at this
        exact this
      have hk : σ 15 k = x := by
        have := hO _ _ hx
        rw [show ((k.toNat : Nat) : Int) = k by omega] at this
        exact this
      have hm := hf x (List.mem_of_getElem? hx)
      have ed : O.drop (k + 1).toNat = R := by
        rw [show (k + 1).toNat = k.toNat + 1 by omega, ← List.drop_drop, e1]
        rfl
      have e6 : (if f x = true then (if pl - seen = 0 then x else atS f R (pl - seen - 1)) else atS f R (pl - seen)) = atS f O pl := e6
      refine x_iload_n (E_X2_inBookAt_0 4 rfl) rfl ?_
      refine x_aload_n (E_X2_inBookAt_0 5 rfl) rfl ?_
      refine x_getIe (v := σ 7 9) (E_X2_inBookAt_0 6 rfl) fl_X2_40 rfl (by decide) rfl ?_
      refine x_icmp_ge (E_X2_inBookAt_0 7 rfl) (by omega) (by omega) (fun c1 => ?_) (fun c1 => ?_)
      · exfalso; omega
      · refine x_aload_n (E_X2_inBookAt_0 8 rfl) rfl ?_
        refine x_aload_n (E_X2_inBookAt_0 9 rfl) rfl ?_
        refine x_getR (E_X2_inBookAt_0 10 rfl) fl_X2_33 rfl (by decide) rfl ?_
        refine x_iload_n (E_X2_inBookAt_0 11 rfl) rfl ?_
        refine x_ialde (f := σ 15) (E_X2_inBookAt_0 12 rfl) rfl (by decide) (by omega) rfl ?_
        refine z_callVi (E_X2_inBookAt_0 13 rfl) ml_X2_51 mv_X2_isInBook rfl (by decide) (by decide) (c_X2_isInBook (by omega) (by omega) (by rw [hk]; exact hm.2.1)) (by decide) rfl rfl (Nat.le_of_ble_eq_true rfl) (fun z9 τ9 h9 => ?_)
        obtain ⟨rfl, ⟨rfl, c2⟩ | ⟨rfl, c2⟩⟩ := h9
        · refine x_if_eq (E_X2_inBookAt_0 14 rfl) (by decide) (fun c9 => absurd c9 (by decide)) (fun _ => ?_)
          refine x_iload_n (E_X2_inBookAt_0 15 rfl) rfl ?_
          refine x_iload_n (E_X2_inBookAt_0 16 rfl) rfl ?_
          refine x_icmp_ne (E_X2_inBookAt_0 17 rfl) (by omega) (by omega) (fun c3 => ?_) (fun c3 => ?_)
          · rw [if_pos (hm.2.2.mpr (by rw [← hk]; omega)), if_neg (by omega)] at e6
            refine x_iinc (E_X2_inBookAt_0 23 rfl) rfl rfl ?_
            refine x_iinc (E_X2_inBookAt_0 24 rfl) rfl rfl ?_
            refine x_goto (E_X2_inBookAt_0 25 rfl) ?_
            exact ih _ _ ed (by omega) (by omega) (by omega) (by omega) (by rw [show pl - (seen + 1) = pl - seen - 1 by omega]; exact e6)
          · refine x_aload_n (E_X2_inBookAt_0 18 rfl) rfl ?_
            refine x_getR (E_X2_inBookAt_0 19 rfl) fl_X2_33 rfl (by decide) rfl ?_
            refine x_iload_n (E_X2_inBookAt_0 20 rfl) rfl ?_
            refine x_ialde (f := σ 15) (E_X2_inBookAt_0 21 rfl) rfl (by decide) (by omega) rfl ?_
            refine z_iret (E_X2_inBookAt_0 22 rfl) trivial ?_
            rw [if_pos (hm.2.2.mpr (by rw [← hk]; omega)), if_pos (by omega)] at e6
            exact ⟨hk.trans e6, rfl⟩
        · refine x_if_eq (E_X2_inBookAt_0 14 rfl) (by decide) (fun _ => ?_) (fun c9 => absurd (by decide) c9)
          rw [if_neg (fun h => by have := hm.2.2.mp h; rw [← hk] at this; omega)] at e6
          refine x_iinc (E_X2_inBookAt_0 24 rfl) rfl rfl ?_
          refine x_goto (E_X2_inBookAt_0 25 rfl) ?_
          exact ih _ _ ed (by omega) (by omega) (by omega) (by omega) e6
  refine x_iconst (E_X2_inBookAt_0 0 rfl) ?_
  refine x_istore_n (E_X2_inBookAt_0 1 rfl) rfl ?_
  refine x_iconst (E_X2_inBookAt_0 2 rfl) ?_
  refine x_istore_n (E_X2_inBookAt_0 3 rfl) rfl ?_
  exact loop O 0 0 (by simp) (by omega) (by omega) (by omega) (by omega) (by rw [Int.sub_zero])

/-- what findBook leaves -/
def FbP (kn : Int) (σ τ : Nat → Int → Int) : Prop := (∀ i, 0 ≤ i → i < σ 114 9 → τ 129 i = voidS (σ 122) (σ 125) (σ 124) kn (σ 114 9).toNat i) ∧ RepL (τ 132) (bookS (σ 123) (σ 122) (σ 125) (σ 124) kn (σ 114 9).toNat) ∧ τ 114 21 = (bookS (σ 123) (σ 122) (σ 125) (σ 124) kn (σ 114 9).toNat).length ∧ Fr [114, 129, 132] σ τ ∧ Fo 114 [21] σ τ
set_option maxHeartbeats 2000000 in
theorem c_X11_findBook {kn : Int} (hkn : rgi kn) (hn : 0 ≤ σ 114 9 ∧ σ 114 9 ≤ 120) (hk : ∀ i, 0 ≤ i → i < σ 114 9 → 0 ≤ σ 122 i ∧ σ 122 i ≤ 10) (hT : ∀ i, 0 ≤ i → i < σ 114 9 → σ 122 i = 10 → 0 ≤ σ 125 i ∧ σ 125 i < i) (ht : ∀ i, 0 ≤ i → i < σ 114 9 → 0 ≤ σ 124 i ∧ σ 124 i ≤ 2000) (hd : ∀ i, 0 ≤ i → i < σ 114 9 → 0 ≤ σ 123 i ∧ σ 123 i ≤ 2000) : CV l G M_X11_findBook 0 [vr 114, vi kn] σ (FbP kn σ) := by
  refine Ct.of rfl (Nat.le_of_ble_eq_true rfl) ?_
  have loop3 : ∀ (k : Nat) (i : Int) (o : Option AV) (τ : Nat → Int → Int), i = σ 114 9 - k → k ≤ (σ 114 9).toNat → (∀ j, 0 ≤ j → j < σ 114 9 → τ 129 j = voidS (σ 122) (σ 125) (σ 124) kn (σ 114 9).toNat j) → RepL (τ 132) (srtL (σ 123) (inBS (σ 122) (σ 125) (σ 124) kn (σ 114 9).toNat) i.toNat) → τ 114 21 = (srtL (σ 123) (inBS (σ 122) (σ 125) (σ 124) kn (σ 114 9).toNat) i.toNat).length → Fr [114, 129, 132] σ τ → Fo 114 [21] σ τ → XV l G M_X11_findBook 0 89 [some (vr 114), some (vi kn), some (vi i), o] [] τ (FbP kn σ) := by
    intro k
    induction k using Nat.strongRecOn with
    | _ k ih =>
    intro i o τ hi hk9 hV hL h21 hF hO
    have e9 := hO 9 (by decide)
    have e124 := congrFun (hF 124 (by decide)) i
    have hlen : (srtL (σ 123) (inBS (σ 122) (σ 125) (σ 124) kn (σ 114 9).toNat) i.toNat).length ≤ i.toNat := srtL_len_le
    have hmem : ∀ k : Nat, k < (srtL (σ 123) (inBS (σ 122) (σ 125) (σ 124) kn (σ 114 9).toNat) i.toNat).length → 0 ≤ (srtL (σ 123) (inBS (σ 122) (σ 125) (σ 124) kn (σ 114 9).toNat) i.toNat).getD k 0 ∧ (srtL (σ 123) (inBS (σ 122) (σ 125) (σ 124) kn (σ 114 9).toNat) i.toNat).getD k 0 < i := fun k hk => by
      have := srtL_mem.mp (getD_mem (L := (srtL (σ 123) (inBS (σ 122) (σ 125) (σ 124) kn (σ 114 9).toNat) i.toNat)) hk)
      omega
    have inner : 0 ≤ i → i < σ 114 9 → (inBS (σ 122) (σ 125) (σ 124) kn (σ 114 9).toNat) i = true → ∀ (m : Nat) (pl : Int) (υ : Nat → Int → Int), pl = m → m ≤ (srtL (σ 123) (inBS (σ 122) (σ 125) (σ 124) kn (σ 114 9).toNat) i.toNat).length → Fr [132] τ υ → (∀ k : Nat, k < m → υ 132 k = (srtL (σ 123) (inBS (σ 122) (σ 125) (σ 124) kn (σ 114 9).toNat) i.toNat).getD k 0) → (∀ k : Nat, m ≤ k → k < (srtL (σ 123) (inBS (σ 122) (σ 125) (σ 124) kn (σ 114 9).toNat) i.toNat).length → υ 132 ((k : Int) + 1) = (srtL (σ 123) (inBS (σ 122) (σ 125) (σ 124) kn (σ 114 9).toNat) i.toNat).getD k 0 ∧ σ 123 i < σ 123 ((srtL (σ 123) (inBS (σ 122) (σ 125) (σ 124) kn (σ 114 9).toNat) i.toNat).getD k 0)) → XV l G M_X11_findBook 0 121 [some (vr 114), some (vi kn), some (vi i), some (vi pl)] [] υ (FbP kn σ) := by
      intro hi0 hi1 hf m
      induction m using Nat.strongRecOn with
      | _ m ih2 =>
      intro pl υ hpl hm hF2 hI1 hI2
      have e114 : υ 114 = τ 114 := hF2 114 (by decide)
      have e123 : υ 123 = σ 123 := (hF2 123 (by decide)).trans (hF 123 (by decide))
      have exit : (m = 0 ∨ σ 123 (υ 132 (pl - 1)) ≤ σ 123 i) → XV l G M_X11_findBook 0 167 [some (vr 114), some (vi kn), some (vi i), some (vi pl)] [] υ (FbP kn σ) := by
        intro hx
        refine x_aload_n (E_X11_findBook_1 38 rfl) rfl ?_
        refine x_getR (E_X11_findBook_1 39 rfl) fl_X11_62 rfl (by decide) rfl ?_
        refine x_iload_n (E_X11_findBook_1 40 rfl) rfl ?_
        refine x_iload_n (E_X11_findBook_1 41 rfl) rfl ?_
        refine x_iast (E_X11_findBook_1 42 rfl) rfl (by decide) (by omega) ?_
        refine x_aload_n (E_X11_findBook_1 43 rfl) rfl ?_
        refine x_dupr (E_X11_findBook_1 44 rfl) ?_
        refine x_getIe (v := υ 114 21) (E_X11_findBook_1 45 rfl) fl_X11_255 rfl (by decide) rfl ?_
        refine x_iconst (E_X11_findBook_1 46 rfl) ?_
        refine x_iadd (E_X11_findBook_1 47 rfl) ?_
        refine x_putI (E_X11_findBook_1 48 rfl) fl_X11_255 rfl (by decide) ?_
        refine x_iinc (E_X11_findBook_1 49 rfl) rfl rfl ?_
        refine x_goto (E_X11_findBook_1 50 rfl) ?_
        have e129 : υ 129 = τ 129 := hF2 129 (by decide)
        have es : (i + 1).toNat = i.toNat + 1 := by omega
        have eL : srtL (σ 123) (inBS (σ 122) (σ 125) (σ 124) kn (σ 114 9).toNat) (i + 1).toNat = insL (σ 123) i (srtL (σ 123) (inBS (σ 122) (σ 125) (σ 124) kn (σ 114 9).toNat) i.toNat) := by
          rw [es]
          show (if (inBS (σ 122) (σ 125) (σ 124) kn (σ 114 9).toNat) (i.toNat : Nat) = true then insL (σ 123) (i.toNat : Nat) (srtL (σ 123) (inBS (σ 122) (σ 125) (σ 124) kn (σ 114 9).toNat) i.toNat) else _) = _
          rw [show ((i.toNat : Nat) : Int) = i by omega, if_pos hf]
        refine ih (k - 1) (by omega) (i + 1) _ _ (by omega) (by omega) (fun j a b => ?_) ?_ ?_ ?_ ?_
        · show υ 129 j = _
          rw [e129]; exact hV j a b
        · rw [eL]
          show RepL (fun k => if k = pl then i else υ 132 k) _
          refine ins_rep (m := m) hm (fun k hk => ?_) (if_pos (by omega)) (fun k h3 h4 => ?_) (fun k h3 h4 => ?_) ?_ srtL_sorted
          · rw [if_neg (by omega)]; exact hI1 k hk
          · rw [if_neg (by omega)]; exact (hI2 k h3 h4).1
          · exact (hI2 k h3 h4).2
          · rcases hx with hx | hx
            · exact Or.inl hx
            · by_cases em : m = 0
              · exact Or.inl em
              · refine Or.inr ?_
                have q1 := hI1 (m - 1) (by omega)
                rw [show ((m - 1 : Nat) : Int) = pl - 1 by omega] at q1
                rw [← q1]; exact hx
        · rw [eL, insL_len]
          show υ 114 21 + 1 = _
          rw [e114, h21]
          omega
        · refine (Fr.up (Fr.up ?_ (by decide)) (by decide))
          exact Fr.trans hF hF2 (fun k h => h) (by decide)
        · refine Fo.up (Fo.un ?_ (by decide)) (by decide)
          exact fun j h => by rw [e114]; exact hO j h
      have d9 := hd i hi0 hi1
      have d8 := congrFun e123 i
      refine x_iload_n (E_X11_findBook_1 10 rfl) rfl ?_
      refine x_if_le (E_X11_findBook_1 11 rfl) (by omega) (fun c1 => ?_) (fun c1 => ?_)
      · exact exit (by omega)
      · have q9 := hI1 (m - 1) (by omega)
        rw [show ((m - 1 : Nat) : Int) = pl - 1 by omega] at q9
        have w9 := hmem (m - 1) (by omega)
        rw [← q9] at w9
        have w8 := hd _ w9.1 (by omega)
        have w7 := congrFun e123 (υ 132 (pl - 1))
        refine x_aload_n (E_X11_findBook_1 12 rfl) rfl ?_
        refine x_getR (E_X11_findBook_1 13 rfl) fl_X11_34 rfl (by decide) rfl ?_
        refine x_aload_n (E_X11_findBook_1 14 rfl) rfl ?_
        refine x_getR (E_X11_findBook_1 15 rfl) fl_X11_62 rfl (by decide) rfl ?_
        refine x_iload_n (E_X11_findBook_1 16 rfl) rfl ?_
        refine x_iconst (E_X11_findBook_1 17 rfl) ?_
        refine x_isub (E_X11_findBook_1 18 rfl) ?_
        refine x_ialde (f := υ 132) (E_X11_findBook_1 19 rfl) rfl (by decide) (by omega) rfl ?_
        refine x_ialde (f := υ 123) (E_X11_findBook_1 20 rfl) rfl (by decide) (by omega) rfl ?_
        refine x_aload_n (E_X11_findBook_1 21 rfl) rfl ?_
        refine x_getR (E_X11_findBook_1 22 rfl) fl_X11_34 rfl (by decide) rfl ?_
        refine x_iload_n (E_X11_findBook_1 23 rfl) rfl ?_
        refine x_ialde (f := υ 123) (E_X11_findBook_1 24 rfl) rfl (by decide) (by omega) rfl ?_
        refine x_icmp_le (E_X11_findBook_1 25 rfl) (by omega) (by omega) (fun c2 => ?_) (fun c2 => ?_)
        · exact exit (by omega)
        · refine x_aload_n (E_X11_findBook_1 26 rfl) rfl ?_
          refine x_getR (E_X11_findBook_1 27 rfl) fl_X11_62 rfl (by decide) rfl ?_
          refine x_iload_n (E_X11_findBook_1 28 rfl) rfl ?_
          refine x_aload_n (E_X11_findBook_1 29 rfl) rfl ?_
          refine x_getR (E_X11_findBook_1 30 rfl) fl_X11_62 rfl (by decide) rfl ?_
          refine x_iload_n (E_X11_findBook_1 31 rfl) rfl ?_
          refine x_iconst (E_X11_findBook_1 32 rfl) ?_
          refine x_isub (E_X11_findBook_1 33 rfl) ?_
          refine x_ialde (f := υ 132) (E_X11_findBook_1 34 rfl) rfl (by decide) (by omega) rfl ?_
          refine x_iast (E_X11_findBook_1 35 rfl) rfl (by decide) (by omega) ?_
          refine x_iinc (E_X11_findBook_1 36 rfl) rfl rfl ?_
          refine x_goto (E_X11_findBook_1 37 rfl) ?_
          refine ih2 (m - 1) (by omega) _ _ (by omega) (by omega) (hF2.up (by decide)) (fun k hk => ?_) (fun k h3 h4 => ?_)
          · show (if (k : Int) = pl then _ else υ 132 k) = _
            rw [if_neg (by omega)]; exact hI1 k (by omega)
          · show (if (k : Int) + 1 = pl then υ 132 (pl - 1) else υ 132 ((k : Int) + 1)) = _ ∧ _
            by_cases ek : k = m - 1
            · subst ek
              rw [if_pos (by omega), ← q9]
              exact ⟨rfl, by omega⟩
            · rw [if_neg (by omega)]; exact hI2 k (by omega) h4
    refine x_iload_n (E_X11_findBook_0 52 rfl) rfl ?_
    refine x_aload_n (E_X11_findBook_0 53 rfl) rfl ?_
    refine x_getIe (v := τ 114 9) (E_X11_findBook_0 54 rfl) fl_X11_227 rfl (by decide) rfl ?_
    refine x_icmp_ge (E_X11_findBook_0 55 rfl) (by omega) (by omega) (fun c1 => ?_) (fun c1 => ?_)
    · refine z_vret (E_X11_findBook_1 51 rfl) trivial ?_
      rw [show i = σ 114 9 by omega] at hL h21
      exact ⟨hV, hL, h21, hF, hO⟩
    · have t9 := ht i (by omega) (by omega)
      refine x_aload_n (E_X11_findBook_0 56 rfl) rfl ?_
      refine x_getR (E_X11_findBook_0 57 rfl) fl_X11_37 rfl (by decide) rfl ?_
      refine x_iload_n (E_X11_findBook_0 58 rfl) rfl ?_
      refine x_ialde (f := τ 124) (E_X11_findBook_0 59 rfl) rfl (by decide) (by omega) rfl ?_
      refine x_iload_n (E_X11_findBook_1 0 rfl) rfl ?_
      refine x_icmp_gt (E_X11_findBook_1 1 rfl) (by omega) (by omega) (fun c2 => ?_) (fun c2 => ?_)
      · have hf : ¬ (inBS (σ 122) (σ 125) (σ 124) kn (σ 114 9).toNat) i = true := fun h => by have := of_decide_eq_true h; omega
        have eL : srtL (σ 123) (inBS (σ 122) (σ 125) (σ 124) kn (σ 114 9).toNat) (i + 1).toNat = (srtL (σ 123) (inBS (σ 122) (σ 125) (σ 124) kn (σ 114 9).toNat) i.toNat) := by
          rw [show (i + 1).toNat = i.toNat + 1 by omega]
          show (if (inBS (σ 122) (σ 125) (σ 124) kn (σ 114 9).toNat) (i.toNat : Nat) = true then _ else (srtL (σ 123) (inBS (σ 122) (σ 125) (σ 124) kn (σ 114 9).toNat) i.toNat)) = _
          rw [show ((i.toNat : Nat) : Int) = i by omega, if_neg hf]
        refine x_iinc (E_X11_findBook_1 49 rfl) rfl rfl ?_
        refine x_goto (E_X11_findBook_1 50 rfl) ?_
        exact ih (k - 1) (by omega) (i + 1) _ _ (by omega) (by omega) hV (by rw [eL]; exact hL) (by rw [eL]; exact h21) hF hO
      · have v9 := hV i (by omega) (by omega)
        have v8 := voidS_rg (kd := σ 122) (tg := σ 125) (td := σ 124) (kn := kn) (n := (σ 114 9).toNat) i
        refine x_aload_n (E_X11_findBook_1 2 rfl) rfl ?_
        refine x_getR (E_X11_findBook_1 3 rfl) fl_X11_52 rfl (by decide) rfl ?_
        refine x_iload_n (E_X11_findBook_1 4 rfl) rfl ?_
        refine x_zalde (f := τ 129) (E_X11_findBook_1 5 rfl) rfl (by decide) (by omega) rfl ?_
        refine x_if_ne (E_X11_findBook_1 6 rfl) (by omega) (fun c3 => ?_) (fun c3 => ?_)
        · have hf : ¬ (inBS (σ 122) (σ 125) (σ 124) kn (σ 114 9).toNat) i = true := fun h => by have := of_decide_eq_true h; omega
          have eL : srtL (σ 123) (inBS (σ 122) (σ 125) (σ 124) kn (σ 114 9).toNat) (i + 1).toNat = (srtL (σ 123) (inBS (σ 122) (σ 125) (σ 124) kn (σ 114 9).toNat) i.toNat) := by
            rw [show (i + 1).toNat = i.toNat + 1 by omega]
            show (if (inBS (σ 122) (σ 125) (σ 124) kn (σ 114 9).toNat) (i.toNat : Nat) = true then _ else (srtL (σ 123) (inBS (σ 122) (σ 125) (σ 124) kn (σ 114 9).toNat) i.toNat)) = _
            rw [show ((i.toNat : Nat) : Int) = i by omega, if_neg hf]
          refine x_iinc (E_X11_findBook_1 49 rfl) rfl rfl ?_
          refine x_goto (E_X11_findBook_1 50 rfl) ?_
          exact ih (k - 1) (by omega) (i + 1) _ _ (by omega) (by omega) hV (by rw [eL]; exact hL) (by rw [eL]; exact h21) hF hO
        · refine x_aload_n (E_X11_findBook_1 7 rfl) rfl ?_
          refine x_getIe (v := τ 114 21) (E_X11_findBook_1 8 rfl) fl_X11_255 rfl (by decide) rfl ?_
          refine x_istore_n (E_X11_findBook_1 9 rfl) rfl ?_
          exact inner (by omega) (by omega) (decide_eq_true (by omega)) _ _ τ h21 (Nat.le_refl _) Fr.rf (fun k hk => hL.at hk) (fun k q1 q2 => absurd q2 (by omega))
  have loop2 : ∀ (m : Nat) (i : Int) (v : Int → Int) (τ : Nat → Int → Int), i = (m : Int) - 1 → m ≤ (σ 114 9).toNat → (∀ j, 0 ≤ j → j < σ 114 9 → τ 129 j = v j ∧ (v j = 0 ∨ v j = 1)) → vS (σ 122) (σ 125) (σ 124) kn m v = voidS (σ 122) (σ 125) (σ 124) kn (σ 114 9).toNat → Fr [129] σ τ → XV l G M_X11_findBook 0 30 [some (vr 114), some (vi kn), some (vi i), none] [] τ (FbP kn σ) := by
    intro m
    induction m using Nat.strongRecOn with
    | _ m ih =>
    intro i v τ hi hm hA hv hF
    have e122 := congrFun (hF 122 (by decide)) i
    have e124 := congrFun (hF 124 (by decide)) i
    have e125 := congrFun (hF 125 (by decide)) i
    have j76 : ∀ τ' : Nat → Int → Int, 0 ≤ i → ((τ' = τ ∧ ¬ (σ 124 i ≤ kn ∧ σ 122 i = 10 ∧ v i = 0)) ∨ (τ' = upq τ 129 (τ 125 i) 1 ∧ σ 124 i ≤ kn ∧ σ 122 i = 10 ∧ v i = 0)) → XV l G M_X11_findBook 0 76 [some (vr 114), some (vi kn), some (vi i), none] [] τ' (FbP kn σ) := by
      intro τ' hi0 H
      obtain ⟨m', rfl⟩ : ∃ m', m = m' + 1 := ⟨m - 1, by omega⟩
      have em : (m' : Int) = i := by omega
      have hv2 : vS (σ 122) (σ 125) (σ 124) kn m' (if σ 124 m' ≤ kn ∧ σ 122 m' = 10 ∧ v m' = 0 then updI v (σ 125 m') 1 else v) = voidS (σ 122) (σ 125) (σ 124) kn (σ 114 9).toNat := hv
      rw [em] at hv2
      rcases H with ⟨rfl, H⟩ | ⟨rfl, H⟩
      · rw [if_neg H] at hv2
        refine x_iinc (E_X11_findBook_0 45 rfl) rfl rfl ?_
        refine x_goto (E_X11_findBook_0 46 rfl) ?_
        exact ih m' (by omega) _ v _ (by omega) (by omega) hA hv2 hF
      · rw [if_pos H] at hv2
        have tt := hT i hi0 (by omega) H.2.1
        refine x_iinc (E_X11_findBook_0 45 rfl) rfl rfl ?_
        refine x_goto (E_X11_findBook_0 46 rfl) ?_
        refine ih m' (by omega) _ (updI v (σ 125 i) 1) _ (by omega) (by omega) (fun j a b => ?_) hv2 (hF.up (by decide))
        show (if j = τ 125 i then 1 else τ 129 j) = (if j = σ 125 i then 1 else v j) ∧ ((if j = σ 125 i then 1 else v j) = 0 ∨ (if j = σ 125 i then 1 else v j) = 1)
        rw [e125]
        by_cases e : j = σ 125 i
        · rw [if_pos e, if_pos e]; exact ⟨rfl, Or.inr rfl⟩
        · rw [if_neg e, if_neg e]; exact hA j a b
    refine x_iload_n (E_X11_findBook_0 18 rfl) rfl ?_
    refine x_if_lt (E_X11_findBook_0 19 rfl) (by omega) (fun c1 => ?_) (fun c1 => ?_)
    · refine x_aload_n (E_X11_findBook_0 47 rfl) rfl ?_
      refine x_iconst (E_X11_findBook_0 48 rfl) ?_
      refine x_putI (E_X11_findBook_0 49 rfl) fl_X11_255 rfl (by decide) ?_
      refine x_iconst (E_X11_findBook_0 50 rfl) ?_
      refine x_istore_n (E_X11_findBook_0 51 rfl) rfl ?_
      have hm0 : m = 0 := by omega
      rw [hm0] at hv
      have hv : v = _ := hv
      refine loop3 (σ 114 9).toNat 0 none _ (by omega) (Nat.le_refl _) (fun j a b => ?_) (fun k x h => by cases h) rfl ((hF.sub (by decide)).up (by decide)) ((Fo.of hF (by decide)).up (by decide))
      rw [← hv]
      exact (hA j a b).1
    · have k8 := hk i (by omega) (by omega)
      have a9 := hA i (by omega) (by omega)
      have t9 := ht i (by omega) (by omega)
      refine x_aload_n (E_X11_findBook_0 20 rfl) rfl ?_
      refine x_getR (E_X11_findBook_0 21 rfl) fl_X11_37 rfl (by decide) rfl ?_
      refine x_iload_n (E_X11_findBook_0 22 rfl) rfl ?_
      refine x_ialde (f := τ 124) (E_X11_findBook_0 23 rfl) rfl (by decide) (by omega) rfl ?_
      refine x_iload_n (E_X11_findBook_0 24 rfl) rfl ?_
      refine x_icmp_gt (E_X11_findBook_0 25 rfl) (by omega) (by omega) (fun c2 => ?_) (fun c2 => ?_)
      · exact j76 _ (by omega) (by first | exact Or.inl ⟨rfl, by omega⟩ | exact Or.inr ⟨rfl, by omega⟩)
      · refine x_aload_n (E_X11_findBook_0 26 rfl) rfl ?_
        refine x_getR (E_X11_findBook_0 27 rfl) fl_X11_31 rfl (by decide) rfl ?_
        refine x_iload_n (E_X11_findBook_0 28 rfl) rfl ?_
        refine x_ialde (f := τ 122) (E_X11_findBook_0 29 rfl) rfl (by decide) (by omega) rfl ?_
        refine x_bipush (z := 10) (E_X11_findBook_0 30 rfl) (by decide) ?_
        refine x_icmp_ne (E_X11_findBook_0 31 rfl) (by omega) (by decide) (fun c3 => ?_) (fun c3 => ?_)
        · exact j76 _ (by omega) (by first | exact Or.inl ⟨rfl, by omega⟩ | exact Or.inr ⟨rfl, by omega⟩)
        · refine x_aload_n (E_X11_findBook_0 32 rfl) rfl ?_
          refine x_getR (E_X11_findBook_0 33 rfl) fl_X11_52 rfl (by decide) rfl ?_
          refine x_iload_n (E_X11_findBook_0 34 rfl) rfl ?_
          refine x_zalde (f := τ 129) (E_X11_findBook_0 35 rfl) rfl (by decide) (by omega) rfl ?_
          refine x_if_ne (E_X11_findBook_0 36 rfl) (by omega) (fun c4 => ?_) (fun c4 => ?_)
          · exact j76 _ (by omega) (by first | exact Or.inl ⟨rfl, by omega⟩ | exact Or.inr ⟨rfl, by omega⟩)
          · have tt := hT i (by omega) (by omega) (by omega)
            refine x_aload_n (E_X11_findBook_0 37 rfl) rfl ?_
            refine x_getR (E_X11_findBook_0 38 rfl) fl_X11_52 rfl (by decide) rfl ?_
            refine x_aload_n (E_X11_findBook_0 39 rfl) rfl ?_
            refine x_getR (E_X11_findBook_0 40 rfl) fl_X11_40 rfl (by decide) rfl ?_
            refine x_iload_n (E_X11_findBook_0 41 rfl) rfl ?_
            refine x_ialde (f := τ 125) (E_X11_findBook_0 42 rfl) rfl (by decide) (by omega) rfl ?_
            refine x_iconst (E_X11_findBook_0 43 rfl) ?_
            refine x_zast (E_X11_findBook_0 44 rfl) rfl (by decide) (by omega) (Or.inr rfl) ?_
            exact j76 _ (by omega) (by first | exact Or.inl ⟨rfl, by omega⟩ | exact Or.inr ⟨rfl, by omega⟩)
  have loop1 : ∀ (k : Nat) (i : Int) (τ : Nat → Int → Int), i = σ 114 9 - k → k ≤ (σ 114 9).toNat → (∀ j, 0 ≤ j → j < i → τ 129 j = 0) → Fr [129] σ τ → XV l G M_X11_findBook 0 2 [some (vr 114), some (vi kn), some (vi i), none] [] τ (FbP kn σ) := by
    intro k
    induction k using Nat.strongRecOn with
    | _ k ih =>
    intro i τ hi hk9 hZ hF
    have e9 := congrFun (hF 114 (by decide)) 9
    refine x_iload_n (E_X11_findBook_0 2 rfl) rfl ?_
    refine x_aload_n (E_X11_findBook_0 3 rfl) rfl ?_
    refine x_getIe (v := τ 114 9) (E_X11_findBook_0 4 rfl) fl_X11_227 rfl (by decide) rfl ?_
    refine x_icmp_ge (E_X11_findBook_0 5 rfl) (by omega) (by omega) (fun c1 => ?_) (fun c1 => ?_)
    · refine x_aload_n (E_X11_findBook_0 13 rfl) rfl ?_
      refine x_getIe (v := τ 114 9) (E_X11_findBook_0 14 rfl) fl_X11_227 rfl (by decide) rfl ?_
      refine x_iconst (E_X11_findBook_0 15 rfl) ?_
      refine x_isub (E_X11_findBook_0 16 rfl) ?_
      refine x_istore_n (E_X11_findBook_0 17 rfl) rfl ?_
      exact loop2 (σ 114 9).toNat _ (fun _ => 0) τ (by omega) (Nat.le_refl _) (fun j a b => ⟨hZ j a (by omega), Or.inl rfl⟩) rfl hF
    · refine x_aload_n (E_X11_findBook_0 6 rfl) rfl ?_
      refine x_getR (E_X11_findBook_0 7 rfl) fl_X11_52 rfl (by decide) rfl ?_
      refine x_iload_n (E_X11_findBook_0 8 rfl) rfl ?_
      refine x_iconst (E_X11_findBook_0 9 rfl) ?_
      refine x_zast (E_X11_findBook_0 10 rfl) rfl (by decide) (by omega) (Or.inl rfl) ?_
      refine x_iinc (E_X11_findBook_0 11 rfl) rfl rfl ?_
      refine x_goto (E_X11_findBook_0 12 rfl) ?_
      refine ih (k - 1) (by omega) _ _ (by omega) (by omega) (fun j a b => ?_) (hF.up (by decide))
      show (if j = i then 0 else τ 129 j) = 0
      by_cases e : j = i
      · exact if_pos e
      · rw [if_neg e]; exact hZ j a (by omega)
  refine x_iconst (E_X11_findBook_0 0 rfl) ?_
  refine x_istore_n (E_X11_findBook_0 1 rfl) rfl ?_
  exact loop1 (σ 114 9).toNat 0 σ (by omega) (Nat.le_refl _) (fun j a b => absurd a (by omega)) Fr.rf

