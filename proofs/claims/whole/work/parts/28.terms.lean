/-! terms: strike, rule, hold, on -/
variable {l : Launch} {G : GC} {σ : Nat → Int → Int}

abbrev b2i (b : Bool) : Int := if b = true then 1 else 0
theorem shp_cd {t : Int} (h0 : 0 ≤ t ∧ t ≤ 7) : shp (21 + t.toNat) = (12, 10) ∧ ρ0 20 t = some (21 + t.toNat) := by
  rcases (by omega : t = 0 ∨ t = 1 ∨ t = 2 ∨ t = 3 ∨ t = 4 ∨ t = 5 ∨ t = 6 ∨ t = 7) with rfl | rfl | rfl | rfl | rfl | rfl | rfl | rfl <;> exact ⟨rfl, rfl⟩
theorem shp_vl {t : Int} (h0 : 0 ≤ t ∧ t ≤ 7) : shp (30 + t.toNat) = (12, 10) ∧ ρ0 29 t = some (30 + t.toNat) := by
  rcases (by omega : t = 0 ∨ t = 1 ∨ t = 2 ∨ t = 3 ∨ t = 4 ∨ t = 5 ∨ t = 6 ∨ t = 7) with rfl | rfl | rfl | rfl | rfl | rfl | rfl | rfl <;> exact ⟨rfl, rfl⟩
/-- the class's terms are in their bounds -/
def TmOk (σ : Nat → Int → Int) : Prop := (0 ≤ σ 17 8 ∧ σ 17 8 ≤ 8) ∧ ∀ t, 0 ≤ t → t < σ 17 8 → (0 ≤ σ 18 t ∧ σ 18 t ≤ 2000) ∧ (0 ≤ σ 19 t ∧ σ 19 t ≤ 10) ∧ ∀ c, 0 ≤ c → c < σ 19 t → (0 ≤ cdq σ t c ∧ cdq σ t c ≤ 10) ∧ (0 ≤ vlq σ t c ∧ vlq σ t c ≤ 4095) ∧ (cdq σ t c = 10 → vlq σ t c < t)
theorem RTerms.ok {σ : Nat → Int → Int} (h : RTerms (σ 17 8) (σ 114 22) (σ 18) (σ 19) (σ 133) (σ 134) (cdq σ) (vlq σ) (σ 135) (σ 136) (σ 137) (σ 38)) : TmOk σ := by
  obtain ⟨-, h1, -, h2, -⟩ := h
  refine ⟨h1, fun t a b => ?_⟩
  obtain ⟨q1, q2, q3⟩ := h2 t a b
  refine ⟨q1, q2, fun c e f => ?_⟩
  rcases q3 c e f with ⟨-, w1, w2, w3, w4, w5, w6⟩ | ⟨-, w1, w2, w3, w4, w5, w6⟩ | ⟨-, w1, w2, w3, w4, w5, -⟩ | ⟨-, w1, w2, w3, w4⟩
  · have : mostQ (σ 136 (10 * t + c)) ≤ 999 := by
      rcases (by omega : σ 136 (10 * t + c) = 0 ∨ σ 136 (10 * t + c) = 1 ∨ σ 136 (10 * t + c) = 2 ∨ σ 136 (10 * t + c) = 3 ∨ σ 136 (10 * t + c) = 4) with e | e | e | e | e <;> rw [e] <;> decide
    omega
  · omega
  · omega
  · omega
theorem ruleS_ag {cd vl : Int → Int → Int} {t : Int} {h h' : Int → Int} {q : Int} (e : h q = h' q) : ∀ {c : Nat}, ruleS cd vl t h c q = ruleS cd vl t h' c q
  | 0 => e
  | c + 1 => by
    unfold ruleS
    split
    · unfold updI
      split
      · rfl
      · exact ruleS_ag e
    · exact ruleS_ag e
theorem foldS_ag {cl : Int → Int} {cd vl : Int → Int → Int} {q : Int} : ∀ {L : List Int} {h h' : Int → Int}, h q = h' q → foldS cl cd vl L h q = foldS cl cd vl L h' q
  | [], _, _, e => e
  | _ :: L, _, _, e => foldS_ag (L := L) (ruleS_ag e)
theorem c_X8_rule {t : Int} (hO : TmOk σ) (ht : 0 ≤ t ∧ t < σ 17 8) : CV l G M_X8_rule 0 [vr 17, vi t] σ (fun τ => τ 40 = ruleS (cdq σ) (vlq σ) t (σ 40) (σ 19 t).toNat ∧ Fr [40] σ τ) := by
  obtain ⟨h8, hO⟩ := hO
  obtain ⟨o1, o2, o3⟩ := hO t ht.1 ht.2
  refine Ct.of rfl (Nat.le_of_ble_eq_true rfl) ?_
  have loop : ∀ (k : Nat) (c : Int) (τ : Nat → Int → Int), c = σ 19 t - k → k ≤ (σ 19 t).toNat → τ 40 = ruleS (cdq σ) (vlq σ) t (σ 40) c.toNat → Fr [40] σ τ → XV l G M_X8_rule 0 2 [some (vr 17), some (vi t), some (vi c)] [] τ (fun τ => τ 40 = ruleS (cdq σ) (vlq σ) t (σ 40) (σ 19 t).toNat ∧ Fr [40] σ τ) := by
    intro k
    induction k using Nat.strongRecOn with
    | _ k ih =>
    intro c τ hc hk h40 hF
    have e19 := congrFun (hF 19 (by decide)) t
    have ecd : τ (21 + t.toNat) = cdq σ t := (hF _ (by simp only [List.mem_singleton]; omega)).trans (cdq_at (by omega))
    have evl : τ (30 + t.toNat) = vlq σ t := (hF _ (by simp only [List.mem_singleton]; omega)).trans (vlq_at (by omega))
    have ecd2 := congrFun ecd c
    have evl2 := congrFun evl c
    refine x_iload_n (E_X8_rule_0 2 rfl) rfl ?_
    refine x_aload_n (E_X8_rule_0 3 rfl) rfl ?_
    refine x_getR (E_X8_rule_0 4 rfl) fl_X8_15 rfl (by decide) rfl ?_
    refine x_iload_n (E_X8_rule_0 5 rfl) rfl ?_
    refine x_ialde (f := τ 19) (E_X8_rule_0 6 rfl) rfl (by decide) (by omega) rfl ?_
    refine x_icmp_ge (E_X8_rule_0 7 rfl) (by omega) (by omega) (fun c1 => ?_) (fun c1 => ?_)
    · refine z_vret (E_X8_rule_0 33 rfl) trivial ?_
      rw [show c = σ 19 t by omega] at h40
      exact ⟨h40, hF⟩
    · have o4 := o3 c (by omega) (by omega)
      have es : (c + 1).toNat = c.toNat + 1 := by omega
      have ec : ((c.toNat : Nat) : Int) = c := by omega
      refine x_aload_n (E_X8_rule_0 8 rfl) rfl ?_
      refine x_getR (E_X8_rule_0 9 rfl) fl_X8_22 rfl (by decide) rfl ?_
      refine x_iload_n (E_X8_rule_0 10 rfl) rfl ?_
      refine x_aald (E_X8_rule_0 11 rfl) rfl (by decide) (by omega) (shp_cd (by omega)).2 ?_
      refine x_iload_n (E_X8_rule_0 12 rfl) rfl ?_
      refine x_iald (E_X8_rule_0 13 rfl) (shp_cd (by omega)).1 (by omega) (by omega) ?_
      refine x_bipush (z := 10) (E_X8_rule_0 14 rfl) (by decide) ?_
      refine x_icmp_eq (E_X8_rule_0 15 rfl) (by omega) (by decide) (fun c2 => ?_) (fun c2 => ?_)
      · refine x_iinc (E_X8_rule_0 31 rfl) rfl rfl ?_
        refine x_goto (E_X8_rule_0 32 rfl) ?_
        refine ih (k - 1) (by omega) _ _ (by omega) (by omega) ?_ hF
        rw [es]
        show _ = (if cdq σ t (c.toNat : Nat) ≠ 10 then _ else ruleS (cdq σ) (vlq σ) t (σ 40) c.toNat)
        rw [ec, if_neg (by omega)]
        exact h40
      · refine x_aload_n (E_X8_rule_0 16 rfl) rfl ?_
        refine x_getR (E_X8_rule_0 17 rfl) fl_X8_35 rfl (by decide) rfl ?_
        refine x_aload_n (E_X8_rule_0 18 rfl) rfl ?_
        refine x_getR (E_X8_rule_0 19 rfl) fl_X8_22 rfl (by decide) rfl ?_
        refine x_iload_n (E_X8_rule_0 20 rfl) rfl ?_
        refine x_aald (E_X8_rule_0 21 rfl) rfl (by decide) (by omega) (shp_cd (by omega)).2 ?_
        refine x_iload_n (E_X8_rule_0 22 rfl) rfl ?_
        refine x_iald (E_X8_rule_0 23 rfl) (shp_cd (by omega)).1 (by omega) (by omega) ?_
        refine x_aload_n (E_X8_rule_0 24 rfl) rfl ?_
        refine x_getR (E_X8_rule_0 25 rfl) fl_X8_25 rfl (by decide) rfl ?_
        refine x_iload_n (E_X8_rule_0 26 rfl) rfl ?_
        refine x_aald (E_X8_rule_0 27 rfl) rfl (by decide) (by omega) (shp_vl (by omega)).2 ?_
        refine x_iload_n (E_X8_rule_0 28 rfl) rfl ?_
        refine x_iald (E_X8_rule_0 29 rfl) (shp_vl (by omega)).1 (by omega) (by omega) ?_
        refine x_iast (E_X8_rule_0 30 rfl) rfl (by decide) (by omega) ?_
        refine x_iinc (E_X8_rule_0 31 rfl) rfl rfl ?_
        refine x_goto (E_X8_rule_0 32 rfl) ?_
        refine ih (k - 1) (by omega) _ _ (by omega) (by omega) ?_ (hF.up (by decide))
        rw [es]
        show (fun j => if j = τ (21 + t.toNat) c then τ (30 + t.toNat) c else τ 40 j) = (if cdq σ t (c.toNat : Nat) ≠ 10 then updI (ruleS (cdq σ) (vlq σ) t (σ 40) c.toNat) (cdq σ t (c.toNat : Nat)) (vlq σ t (c.toNat : Nat)) else _)
        rw [ec, if_pos (by omega), ecd2, evl2, h40]
        rfl
  refine x_iconst (E_X8_rule_0 0 rfl) ?_
  refine x_istore_n (E_X8_rule_0 1 rfl) rfl ?_
  exact loop (σ 19 t).toNat 0 σ (by omega) (Nat.le_refl _) rfl Fr.rf

set_option maxHeartbeats 1000000 in
theorem c_X8_strike {d : Int} (hd : rgi d) (hO : TmOk σ) : CV l G M_X8_strike 0 [vr 17, vi d] σ (fun τ => (∀ x, 0 ≤ x → x < σ 17 8 → τ 39 x = b2i (strS (σ 18) (σ 19) (cdq σ) (vlq σ) d (σ 17 8).toNat (σ 17 8).toNat x)) ∧ Fr [39] σ τ) := by
  obtain ⟨h8, hO⟩ := hO
  refine Ct.of rfl (Nat.le_of_ble_eq_true rfl) ?_
  have loop2 : ∀ (m j : Nat) (t : Int) (o3 o4 : Option AV) (τ : Nat → Int → Int), t = (m : Int) - 1 → m + j = (σ 17 8).toNat → (∀ x, 0 ≤ x → x < σ 17 8 → τ 39 x = b2i (strS (σ 18) (σ 19) (cdq σ) (vlq σ) d (σ 17 8).toNat j x)) → Fr [39] σ τ → XV l G M_X8_strike 0 30 [some (vr 17), some (vi d), some (vi t), o3, o4] [] τ (fun τ => (∀ x, 0 ≤ x → x < σ 17 8 → τ 39 x = b2i (strS (σ 18) (σ 19) (cdq σ) (vlq σ) d (σ 17 8).toNat (σ 17 8).toNat x)) ∧ Fr [39] σ τ) := by
    intro m
    induction m with
    | zero =>
      intro j t o3 o4 τ ht hj hA hF
      refine x_iload_n (E_X8_strike_0 18 rfl) rfl ?_
      refine x_if_lt (E_X8_strike_0 19 rfl) (by omega) (fun c1 => ?_) (fun c1 => ?_)
      · refine z_vret (E_X8_strike_1 7 rfl) trivial ?_
        rw [show j = (σ 17 8).toNat by omega] at hA
        exact ⟨hA, hF⟩
      · exfalso; omega
    | succ m ih =>
      intro j t o3 o4 τ ht hj hA hF
      have t0 : 0 ≤ t ∧ t < σ 17 8 := by omega
      obtain ⟨u1, u2, u3⟩ := hO t t0.1 t0.2
      have ej : ((σ 17 8).toNat : Int) - 1 - j = t := by omega
      have a9 := hA t t0.1 t0.2
      have e18 := congrFun (hF 18 (by decide)) t
      have eS : strS (σ 18) (σ 19) (cdq σ) (vlq σ) d (σ 17 8).toNat (j + 1) = if σ 18 t ≤ d ∧ strS (σ 18) (σ 19) (cdq σ) (vlq σ) d (σ 17 8).toNat j t = false then markS (cdq σ) (vlq σ) t (strS (σ 18) (σ 19) (cdq σ) (vlq σ) d (σ 17 8).toNat j) (σ 19 t).toNat else strS (σ 18) (σ 19) (cdq σ) (vlq σ) d (σ 17 8).toNat j := by
        show (if σ 18 (((σ 17 8).toNat : Int) - 1 - j) ≤ d ∧ strS (σ 18) (σ 19) (cdq σ) (vlq σ) d (σ 17 8).toNat j (((σ 17 8).toNat : Int) - 1 - j) = false then markS (cdq σ) (vlq σ) (((σ 17 8).toNat : Int) - 1 - j) (strS (σ 18) (σ 19) (cdq σ) (vlq σ) d (σ 17 8).toNat j) (σ 19 (((σ 17 8).toNat : Int) - 1 - j)).toNat else strS (σ 18) (σ 19) (cdq σ) (vlq σ) d (σ 17 8).toNat j) = _
        rw [ej]
      have inner : (σ 18 t ≤ d ∧ strS (σ 18) (σ 19) (cdq σ) (vlq σ) d (σ 17 8).toNat j t = false) → ∀ (k : Nat) (c : Int) (υ : Nat → Int → Int), c = σ 19 t - k → k ≤ (σ 19 t).toNat → (∀ x, 0 ≤ x → x < σ 17 8 → υ 39 x = b2i (markS (cdq σ) (vlq σ) t (strS (σ 18) (σ 19) (cdq σ) (vlq σ) d (σ 17 8).toNat j) c.toNat x)) → Fr [39] σ υ → XV l G M_X8_strike 0 62 [some (vr 17), some (vi d), some (vi t), some (vi 1), some (vi c)] [] υ (fun τ => (∀ x, 0 ≤ x → x < σ 17 8 → τ 39 x = b2i (strS (σ 18) (σ 19) (cdq σ) (vlq σ) d (σ 17 8).toNat (σ 17 8).toNat x)) ∧ Fr [39] σ τ) := by
        intro hc9 k
        induction k using Nat.strongRecOn with
        | _ k ih2 =>
        intro c υ hc hk hM hF2
        have e19 := congrFun (hF2 19 (by decide)) t
        have ecd : υ (21 + t.toNat) = cdq σ t := (hF2 _ (by simp only [List.mem_singleton]; omega)).trans (cdq_at (by omega))
        have evl : υ (30 + t.toNat) = vlq σ t := (hF2 _ (by simp only [List.mem_singleton]; omega)).trans (vlq_at (by omega))
        have ecd2 := congrFun ecd c
        have evl2 := congrFun evl c
        refine x_iload_n (E_X8_strike_0 37 rfl) rfl ?_
        refine x_if_eq (E_X8_strike_0 38 rfl) (by decide) (fun c1 => ?_) (fun c1 => ?_)
        · exfalso; omega
        · refine x_iload (E_X8_strike_0 39 rfl) rfl ?_
          refine x_aload_n (E_X8_strike_0 40 rfl) rfl ?_
          refine x_getR (E_X8_strike_0 41 rfl) fl_X8_15 rfl (by decide) rfl ?_
          refine x_iload_n (E_X8_strike_0 42 rfl) rfl ?_
          refine x_ialde (f := υ 19) (E_X8_strike_0 43 rfl) rfl (by decide) (by omega) rfl ?_
          refine x_icmp_ge (E_X8_strike_0 44 rfl) (by omega) (by omega) (fun c2 => ?_) (fun c2 => ?_)
          · refine x_iinc (E_X8_strike_1 5 rfl) rfl rfl ?_
            refine x_goto (E_X8_strike_1 6 rfl) ?_
            refine ih (j + 1) _ _ _ _ (by omega) (by omega) ?_ hF2
            rw [eS, if_pos hc9, ← show c = σ 19 t by omega]
            exact hM
          · have u4 := u3 c (by omega) (by omega)
            have es : (c + 1).toNat = c.toNat + 1 := by omega
            have ec : ((c.toNat : Nat) : Int) = c := by omega
            refine x_aload_n (E_X8_strike_0 45 rfl) rfl ?_
            refine x_getR (E_X8_strike_0 46 rfl) fl_X8_22 rfl (by decide) rfl ?_
            refine x_iload_n (E_X8_strike_0 47 rfl) rfl ?_
            refine x_aald (E_X8_strike_0 48 rfl) rfl (by decide) (by omega) (shp_cd (by omega)).2 ?_
            refine x_iload (E_X8_strike_0 49 rfl) rfl ?_
            refine x_iald (E_X8_strike_0 50 rfl) (shp_cd (by omega)).1 (by omega) (by omega) ?_
            refine x_bipush (z := 10) (E_X8_strike_0 51 rfl) (by decide) ?_
            refine x_icmp_ne (E_X8_strike_0 52 rfl) (by omega) (by decide) (fun c3 => ?_) (fun c3 => ?_)
            · refine x_iinc (E_X8_strike_1 3 rfl) rfl rfl ?_
              refine x_goto (E_X8_strike_1 4 rfl) ?_
              refine ih2 (k - 1) (by omega) _ _ (by omega) (by omega) (fun x a b => ?_) hF2
              rw [es]
              show υ 39 x = b2i ((if cdq σ t (c.toNat : Nat) = 10 then _ else markS (cdq σ) (vlq σ) t (strS (σ 18) (σ 19) (cdq σ) (vlq σ) d (σ 17 8).toNat j) c.toNat) x)
              rw [ec, if_neg (by omega)]
              exact hM x a b
            · refine x_aload_n (E_X8_strike_0 53 rfl) rfl ?_
              refine x_getR (E_X8_strike_0 54 rfl) fl_X8_31 rfl (by decide) rfl ?_
              refine x_aload_n (E_X8_strike_0 55 rfl) rfl ?_
              refine x_getR (E_X8_strike_0 56 rfl) fl_X8_25 rfl (by decide) rfl ?_
              refine x_iload_n (E_X8_strike_0 57 rfl) rfl ?_
              refine x_aald (E_X8_strike_0 58 rfl) rfl (by decide) (by omega) (shp_vl (by omega)).2 ?_
              refine x_iload (E_X8_strike_0 59 rfl) rfl ?_
              refine x_iald (E_X8_strike_1 0 rfl) (shp_vl (by omega)).1 (by omega) (by omega) ?_
              refine x_iconst (E_X8_strike_1 1 rfl) ?_
              refine x_zast (E_X8_strike_1 2 rfl) rfl (by decide) (by omega) (Or.inr rfl) ?_
              refine x_iinc (E_X8_strike_1 3 rfl) rfl rfl ?_
              refine x_goto (E_X8_strike_1 4 rfl) ?_
              refine ih2 (k - 1) (by omega) _ _ (by omega) (by omega) (fun x a b => ?_) (hF2.up (by decide))
              rw [es]
              show (if x = υ (30 + t.toNat) c then 1 else υ 39 x) = b2i ((if cdq σ t (c.toNat : Nat) = 10 then (fun x => if x = vlq σ t (c.toNat : Nat) then true else markS (cdq σ) (vlq σ) t (strS (σ 18) (σ 19) (cdq σ) (vlq σ) d (σ 17 8).toNat j) c.toNat x) else _) x)
              rw [ec, evl2, if_pos (show cdq σ t c = 10 by omega)]
              by_cases e : x = vlq σ t c
              · rw [if_pos e]
                show _ = b2i (if x = vlq σ t c then true else _)
                rw [if_pos e]; rfl
              · rw [if_neg e]
                show _ = b2i (if x = vlq σ t c then true else _)
                rw [if_neg e]; exact hM x a b
      have hbs : (strS (σ 18) (σ 19) (cdq σ) (vlq σ) d (σ 17 8).toNat j t = true ∧ τ 39 t = 1) ∨ (strS (σ 18) (σ 19) (cdq σ) (vlq σ) d (σ 17 8).toNat j t = false ∧ τ 39 t = 0) := by
        rw [a9]
        cases strS (σ 18) (σ 19) (cdq σ) (vlq σ) d (σ 17 8).toNat j t
        · exact Or.inr ⟨rfl, rfl⟩
        · exact Or.inl ⟨rfl, rfl⟩
      refine x_iload_n (E_X8_strike_0 18 rfl) rfl ?_
      refine x_if_lt (E_X8_strike_0 19 rfl) (by omega) (fun c1 => ?_) (fun c1 => ?_)
      · exfalso; omega
      · refine x_aload_n (E_X8_strike_0 20 rfl) rfl ?_
        refine x_getR (E_X8_strike_0 21 rfl) fl_X8_11 rfl (by decide) rfl ?_
        refine x_iload_n (E_X8_strike_0 22 rfl) rfl ?_
        refine x_ialde (f := τ 18) (E_X8_strike_0 23 rfl) rfl (by decide) (by omega) rfl ?_
        refine x_iload_n (E_X8_strike_0 24 rfl) rfl ?_
        refine x_icmp_gt (E_X8_strike_0 25 rfl) (by omega) (by omega) (fun c2 => ?_) (fun c2 => ?_)
        · refine x_iconst (E_X8_strike_0 33 rfl) ?_
          have hc9 : ¬ (σ 18 t ≤ d ∧ strS (σ 18) (σ 19) (cdq σ) (vlq σ) d (σ 17 8).toNat j t = false) := fun h => by
            rcases hbs with hb | hb
            · rw [hb.1] at h; cases h.2
            · omega
          refine x_istore_n (E_X8_strike_0 34 rfl) rfl ?_
          refine x_iconst (E_X8_strike_0 35 rfl) ?_
          refine x_istore (E_X8_strike_0 36 rfl) rfl ?_
          refine x_iload_n (E_X8_strike_0 37 rfl) rfl ?_
          refine x_if_eq (E_X8_strike_0 38 rfl) (by decide) (fun c1 => ?_) (fun c1 => ?_)
          · refine x_iinc (E_X8_strike_1 5 rfl) rfl rfl ?_
            refine x_goto (E_X8_strike_1 6 rfl) ?_
            refine ih (j + 1) _ _ _ _ (by omega) (by omega) ?_ hF
            rw [eS, if_neg hc9]
            exact hA
          · exfalso; omega
        · refine x_aload_n (E_X8_strike_0 26 rfl) rfl ?_
          refine x_getR (E_X8_strike_0 27 rfl) fl_X8_31 rfl (by decide) rfl ?_
          refine x_iload_n (E_X8_strike_0 28 rfl) rfl ?_
          refine x_zalde (f := τ 39) (E_X8_strike_0 29 rfl) rfl (by decide) (by omega) rfl ?_
          refine x_if_ne (E_X8_strike_0 30 rfl) (by omega) (fun c3 => ?_) (fun c3 => ?_)
          · refine x_iconst (E_X8_strike_0 33 rfl) ?_
            have hc9 : ¬ (σ 18 t ≤ d ∧ strS (σ 18) (σ 19) (cdq σ) (vlq σ) d (σ 17 8).toNat j t = false) := fun h => by
              rcases hbs with hb | hb
              · rw [hb.1] at h; cases h.2
              · omega
            refine x_istore_n (E_X8_strike_0 34 rfl) rfl ?_
            refine x_iconst (E_X8_strike_0 35 rfl) ?_
            refine x_istore (E_X8_strike_0 36 rfl) rfl ?_
            refine x_iload_n (E_X8_strike_0 37 rfl) rfl ?_
            refine x_if_eq (E_X8_strike_0 38 rfl) (by decide) (fun c1 => ?_) (fun c1 => ?_)
            · refine x_iinc (E_X8_strike_1 5 rfl) rfl rfl ?_
              refine x_goto (E_X8_strike_1 6 rfl) ?_
              refine ih (j + 1) _ _ _ _ (by omega) (by omega) ?_ hF
              rw [eS, if_neg hc9]
              exact hA
            · exfalso; omega
          · refine x_iconst (E_X8_strike_0 31 rfl) ?_
            refine x_goto (E_X8_strike_0 32 rfl) ?_
            have hc9 : σ 18 t ≤ d ∧ strS (σ 18) (σ 19) (cdq σ) (vlq σ) d (σ 17 8).toNat j t = false := by
              rcases hbs with hb | hb
              · exfalso; omega
              · exact ⟨by omega, hb.1⟩
            refine x_istore_n (E_X8_strike_0 34 rfl) rfl ?_
            refine x_iconst (E_X8_strike_0 35 rfl) ?_
            refine x_istore (E_X8_strike_0 36 rfl) rfl ?_
            exact inner hc9 (σ 19 t).toNat 0 τ (by omega) (Nat.le_refl _) hA hF
  have loop1 : ∀ (k : Nat) (i : Int) (τ : Nat → Int → Int), i = σ 17 8 - k → k ≤ (σ 17 8).toNat → (∀ j, 0 ≤ j → j < i → τ 39 j = 0) → Fr [39] σ τ → XV l G M_X8_strike 0 2 [some (vr 17), some (vi d), some (vi i), none, none] [] τ (fun τ => (∀ x, 0 ≤ x → x < σ 17 8 → τ 39 x = b2i (strS (σ 18) (σ 19) (cdq σ) (vlq σ) d (σ 17 8).toNat (σ 17 8).toNat x)) ∧ Fr [39] σ τ) := by
    intro k
    induction k using Nat.strongRecOn with
    | _ k ih =>
    intro i τ hi hk hZ hF
    have e8 := congrFun (hF 17 (by decide)) 8
    refine x_iload_n (E_X8_strike_0 2 rfl) rfl ?_
    refine x_aload_n (E_X8_strike_0 3 rfl) rfl ?_
    refine x_getIe (v := τ 17 8) (E_X8_strike_0 4 rfl) fl_X8_42 rfl (by decide) rfl ?_
    refine x_icmp_ge (E_X8_strike_0 5 rfl) (by omega) (by omega) (fun c1 => ?_) (fun c1 => ?_)
    · refine x_aload_n (E_X8_strike_0 13 rfl) rfl ?_
      refine x_getIe (v := τ 17 8) (E_X8_strike_0 14 rfl) fl_X8_42 rfl (by decide) rfl ?_
      refine x_iconst (E_X8_strike_0 15 rfl) ?_
      refine x_isub (E_X8_strike_0 16 rfl) ?_
      refine x_istore_n (E_X8_strike_0 17 rfl) rfl ?_
      exact loop2 (σ 17 8).toNat 0 _ _ _ τ (by omega) (by omega) (fun x a b => hZ x a (by omega)) hF
    · refine x_aload_n (E_X8_strike_0 6 rfl) rfl ?_
      refine x_getR (E_X8_strike_0 7 rfl) fl_X8_31 rfl (by decide) rfl ?_
      refine x_iload_n (E_X8_strike_0 8 rfl) rfl ?_
      refine x_iconst (E_X8_strike_0 9 rfl) ?_
      refine x_zast (E_X8_strike_0 10 rfl) rfl (by decide) (by omega) (Or.inl rfl) ?_
      refine x_iinc (E_X8_strike_0 11 rfl) rfl rfl ?_
      refine x_goto (E_X8_strike_0 12 rfl) ?_
      refine ih (k - 1) (by omega) _ _ (by omega) (by omega) (fun j a b => ?_) (hF.up (by decide))
      show (if j = i then 0 else τ 39 j) = 0
      by_cases e : j = i
      · exact if_pos e
      · rw [if_neg e]; exact hZ j a (by omega)
  refine x_iconst (E_X8_strike_0 0 rfl) ?_
  refine x_istore_n (E_X8_strike_0 1 rfl) rfl ?_
  exact loop1 (σ 17 8).toNat 0 σ (by omega) (Nat.le_refl _) (fun j a b => absurd a (by omega)) Fr.rf

