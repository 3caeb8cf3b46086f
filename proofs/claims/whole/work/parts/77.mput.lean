/-! plan: the model puts a lot on a floor -/
variable {l : Launch} {G : GC} {σ : Nat → Int → Int}

theorem c_X11_put {th : Int → Int} {x f b : Int} (hx : 0 ≤ x ∧ x < 12) (hf : 0 ≤ f ∧ f ≤ 5) (hso : 0 ≤ σ 115 x ∧ σ 115 x ≤ 3) (hT : CI l G M_X11_there 0 [vr 114, vi x] σ (IP (th x) σ)) : CV l G M_X11_put 1 [vr 114, vi x, vi f, vi b] σ (fun τ => τ = upq (upq σ 172 f (σ 172 f + b * th x)) 173 (4 * f + σ 115 x) (σ 173 (4 * f + σ 115 x) + b)) := by
  refine Ct.of rfl (Nat.le_of_ble_eq_true rfl) ?_
  refine x_aload_n (E_X11_put_0 0 rfl) rfl ?_
  refine x_getR (E_X11_put_0 1 rfl) fl_X11_186 rfl (by decide) rfl ?_
  refine x_iload_n (E_X11_put_0 2 rfl) rfl ?_
  refine x_dup2 (E_X11_put_0 3 rfl) ?_
  refine x_ialde (f := σ 172) (E_X11_put_0 4 rfl) rfl (by decide) (by omega) rfl ?_
  refine x_iload_n (E_X11_put_0 5 rfl) rfl ?_
  refine x_aload_n (E_X11_put_0 6 rfl) rfl ?_
  refine x_iload_n (E_X11_put_0 7 rfl) rfl ?_
  refine z_callVi (E_X11_put_0 8 rfl) ml_X11_348 mv_X11_there rfl (by decide) (by decide) hT (by decide) rfl rfl (Nat.le_of_ble_eq_true rfl) (fun z9 τ9 h9 => ?_)
  obtain ⟨rfl, rfl⟩ := h9
  refine x_imul (E_X11_put_0 9 rfl) ?_
  refine x_iadd (E_X11_put_0 10 rfl) ?_
  refine x_iast (E_X11_put_0 11 rfl) rfl (by decide) (by omega) ?_
  refine x_aload_n (E_X11_put_0 12 rfl) rfl ?_
  refine x_getR (E_X11_put_0 13 rfl) fl_X11_189 rfl (by decide) rfl ?_
  refine x_iconst (E_X11_put_0 14 rfl) ?_
  refine x_iload_n (E_X11_put_0 15 rfl) rfl ?_
  refine x_imul (E_X11_put_0 16 rfl) ?_
  refine x_aload_n (E_X11_put_0 17 rfl) rfl ?_
  refine x_getR (E_X11_put_0 18 rfl) fl_X11_7 rfl (by decide) rfl ?_
  refine x_iload_n (E_X11_put_0 19 rfl) rfl ?_
  refine x_ialde (f := σ 115) (E_X11_put_0 20 rfl) rfl (by decide) (by omega) rfl ?_
  refine x_iadd (E_X11_put_0 21 rfl) ?_
  refine x_dup2 (E_X11_put_0 22 rfl) ?_
  refine x_ialde (f := σ 173) (E_X11_put_0 23 rfl) rfl (by decide) (by omega) rfl ?_
  refine x_iload_n (E_X11_put_0 24 rfl) rfl ?_
  refine x_iadd (E_X11_put_0 25 rfl) ?_
  refine x_iast (E_X11_put_0 26 rfl) rfl (by decide) (by omega) ?_
  refine z_vret (E_X11_put_0 27 rfl) trivial ?_
  rfl

theorem c_X11_mayLie {th : Int → Int} {x f : Int} (hx : 0 ≤ x ∧ x < 12) (hf : 0 ≤ f ∧ f ≤ 5) (hso : 0 ≤ σ 115 x ∧ σ 115 x ≤ 3) (hld : 0 ≤ σ 172 f ∧ σ 172 f ≤ 100000) (hth : 0 ≤ th x ∧ th x ≤ 200) (hro : 0 ≤ σ 121 f ∧ σ 121 f ≤ 999) (hs3 : ∀ j : Nat, j < 4 → rgi (σ 173 (4 * f + j))) (hp : ∀ j : Nat, j < 4 → σ 168 (4 * σ 115 x + j) = 0 ∨ σ 168 (4 * σ 115 x + j) = 1) (hT : CI l G M_X11_there 0 [vr 114, vi x] σ (IP (th x) σ)) : CI l G M_X11_mayLie 1 [vr 114, vi x, vi f] σ (BP (σ 172 f + th x ≤ σ 121 f ∧ ∀ j : Nat, j < 4 → (σ 173 (4 * f + j) = 0 ∨ σ 168 (4 * σ 115 x + j) = 0)) σ) := by
  refine Ct.of rfl (Nat.le_of_ble_eq_true rfl) ?_
  have loop : ∀ (m t : Nat) (b : Int), t + m = 4 → ((b = 1 ∧ (σ 172 f + th x ≤ σ 121 f ∧ ∀ j : Nat, j < t → (σ 173 (4 * f + j) = 0 ∨ σ 168 (4 * σ 115 x + j) = 0))) ∨ (b = 0 ∧ ¬ (σ 172 f + th x ≤ σ 121 f ∧ ∀ j : Nat, j < t → (σ 173 (4 * f + j) = 0 ∨ σ 168 (4 * σ 115 x + j) = 0)))) → XI l G M_X11_mayLie 1 30 [some (vr 114), some (vi x), some (vi f), some (vi b), some (vi (t : Nat))] [] σ (BP (σ 172 f + th x ≤ σ 121 f ∧ ∀ j : Nat, j < 4 → (σ 173 (4 * f + j) = 0 ∨ σ 168 (4 * σ 115 x + j) = 0)) σ) := by
    intro m
    induction m with
    | zero =>
      intro t b ht hb
      obtain rfl : t = 4 := by omega
      have b01 : b = 0 ∨ b = 1 := hb.elim (fun h => Or.inr h.1) (fun h => Or.inl h.1)
      refine x_iload (E_X11_mayLie_0 19 rfl) rfl ?_
      refine x_iconst (E_X11_mayLie_0 20 rfl) ?_
      refine x_icmp_ge (E_X11_mayLie_0 21 rfl) (by omega) (by decide) (fun c1 => ?_) (fun c1 => ?_)
      · refine x_iload_n (E_X11_mayLie_0 51 rfl) rfl ?_
        refine z_iret (E_X11_mayLie_0 52 rfl) b01 ?_
        exact ⟨rfl, hb⟩
      · exfalso; omega
    | succ m ih =>
      intro t b ht hb
      have b01 : b = 0 ∨ b = 1 := hb.elim (fun h => Or.inr h.1) (fun h => Or.inl h.1)
      have s9 := hs3 t (by omega)
      have p9 := hp t (by omega)
      have nx0 : ¬ (σ 172 f + th x ≤ σ 121 f ∧ ∀ j : Nat, j < t + 1 → (σ 173 (4 * f + j) = 0 ∨ σ 168 (4 * σ 115 x + j) = 0)) → XI l G M_X11_mayLie 1 30 [some (vr 114), some (vi x), some (vi f), some (vi 0), some (vi ((t : Nat) + 1))] [] σ (BP (σ 172 f + th x ≤ σ 121 f ∧ ∀ j : Nat, j < 4 → (σ 173 (4 * f + j) = 0 ∨ σ 168 (4 * σ 115 x + j) = 0)) σ) := fun h => ih (t + 1) 0 (by omega) (Or.inr ⟨rfl, h⟩)
      have nx1 : (σ 172 f + th x ≤ σ 121 f ∧ ∀ j : Nat, j < t + 1 → (σ 173 (4 * f + j) = 0 ∨ σ 168 (4 * σ 115 x + j) = 0)) → XI l G M_X11_mayLie 1 30 [some (vr 114), some (vi x), some (vi f), some (vi 1), some (vi ((t : Nat) + 1))] [] σ (BP (σ 172 f + th x ≤ σ 121 f ∧ ∀ j : Nat, j < 4 → (σ 173 (4 * f + j) = 0 ∨ σ 168 (4 * σ 115 x + j) = 0)) σ) := fun h => ih (t + 1) 1 (by omega) (Or.inl ⟨rfl, h⟩)
      refine x_iload (E_X11_mayLie_0 19 rfl) rfl ?_
      refine x_iconst (E_X11_mayLie_0 20 rfl) ?_
      refine x_icmp_ge (E_X11_mayLie_0 21 rfl) (by omega) (by decide) (fun c1 => ?_) (fun c1 => ?_)
      · exfalso; omega
      · refine x_iload_n (E_X11_mayLie_0 22 rfl) rfl ?_
        refine x_if_eq (E_X11_mayLie_0 23 rfl) (by omega) (fun c2 => ?_) (fun c2 => ?_)
        · refine x_iconst (E_X11_mayLie_0 47 rfl) ?_
          refine x_istore_n (E_X11_mayLie_0 48 rfl) rfl ?_
          refine x_iinc (E_X11_mayLie_0 49 rfl) rfl rfl ?_
          refine x_goto (E_X11_mayLie_0 50 rfl) ?_
          refine nx0 (fun h => ?_)
          exact (hb.resolve_left (fun q => by omega)).2 ⟨h.1, fun j hj => h.2 j (by omega)⟩
        · refine x_aload_n (E_X11_mayLie_0 24 rfl) rfl ?_
          refine x_getR (E_X11_mayLie_0 25 rfl) fl_X11_189 rfl (by decide) rfl ?_
          refine x_iconst (E_X11_mayLie_0 26 rfl) ?_
          refine x_iload_n (E_X11_mayLie_0 27 rfl) rfl ?_
          refine x_imul (E_X11_mayLie_0 28 rfl) ?_
          refine x_iload (E_X11_mayLie_0 29 rfl) rfl ?_
          refine x_iadd (E_X11_mayLie_0 30 rfl) ?_
          refine x_ialde (f := σ 173) (E_X11_mayLie_0 31 rfl) rfl (by decide) (by omega) rfl ?_
          refine x_if_eq (E_X11_mayLie_0 32 rfl) (by omega) (fun c3 => ?_) (fun c3 => ?_)
          · refine x_iconst (E_X11_mayLie_0 45 rfl) ?_
            refine x_goto (E_X11_mayLie_0 46 rfl) ?_
            refine x_istore_n (E_X11_mayLie_0 48 rfl) rfl ?_
            refine x_iinc (E_X11_mayLie_0 49 rfl) rfl rfl ?_
            refine x_goto (E_X11_mayLie_0 50 rfl) ?_
            have hb1 := (hb.resolve_right (fun q => by omega)).2
            refine nx1 ⟨hb1.1, fun j hj => ?_⟩
            by_cases e : j = t
            · subst e; omega
            · exact hb1.2 j (by omega)
          · refine x_aload_n (E_X11_mayLie_0 33 rfl) rfl ?_
            refine x_getR (E_X11_mayLie_0 34 rfl) fl_X11_174 rfl (by decide) rfl ?_
            refine x_iconst (E_X11_mayLie_0 35 rfl) ?_
            refine x_aload_n (E_X11_mayLie_0 36 rfl) rfl ?_
            refine x_getR (E_X11_mayLie_0 37 rfl) fl_X11_7 rfl (by decide) rfl ?_
            refine x_iload_n (E_X11_mayLie_0 38 rfl) rfl ?_
            refine x_ialde (f := σ 115) (E_X11_mayLie_0 39 rfl) rfl (by decide) (by omega) rfl ?_
            refine x_imul (E_X11_mayLie_0 40 rfl) ?_
            refine x_iload (E_X11_mayLie_0 41 rfl) rfl ?_
            refine x_iadd (E_X11_mayLie_0 42 rfl) ?_
            refine x_zalde (f := σ 168) (E_X11_mayLie_0 43 rfl) rfl (by decide) (by omega) rfl ?_
            refine x_if_ne (E_X11_mayLie_0 44 rfl) (by omega) (fun c4 => ?_) (fun c4 => ?_)
            · refine x_iconst (E_X11_mayLie_0 47 rfl) ?_
              refine x_istore_n (E_X11_mayLie_0 48 rfl) rfl ?_
              refine x_iinc (E_X11_mayLie_0 49 rfl) rfl rfl ?_
              refine x_goto (E_X11_mayLie_0 50 rfl) ?_
              refine nx0 (fun h => ?_)
              have := h.2 t (by omega)
              omega
            · refine x_iconst (E_X11_mayLie_0 45 rfl) ?_
              refine x_goto (E_X11_mayLie_0 46 rfl) ?_
              refine x_istore_n (E_X11_mayLie_0 48 rfl) rfl ?_
              refine x_iinc (E_X11_mayLie_0 49 rfl) rfl rfl ?_
              refine x_goto (E_X11_mayLie_0 50 rfl) ?_
              have hb1 := (hb.resolve_right (fun q => by omega)).2
              refine nx1 ⟨hb1.1, fun j hj => ?_⟩
              by_cases e : j = t
              · subst e; omega
              · exact hb1.2 j (by omega)
  refine x_aload_n (E_X11_mayLie_0 0 rfl) rfl ?_
  refine x_getR (E_X11_mayLie_0 1 rfl) fl_X11_186 rfl (by decide) rfl ?_
  refine x_iload_n (E_X11_mayLie_0 2 rfl) rfl ?_
  refine x_ialde (f := σ 172) (E_X11_mayLie_0 3 rfl) rfl (by decide) (by omega) rfl ?_
  refine x_aload_n (E_X11_mayLie_0 4 rfl) rfl ?_
  refine x_iload_n (E_X11_mayLie_0 5 rfl) rfl ?_
  refine z_callVi (E_X11_mayLie_0 6 rfl) ml_X11_348 mv_X11_there rfl (by decide) (by decide) hT (by decide) rfl rfl (Nat.le_of_ble_eq_true rfl) (fun z9 τ9 h9 => ?_)
  obtain ⟨rfl, rfl⟩ := h9
  refine x_iadd (E_X11_mayLie_0 7 rfl) ?_
  refine x_aload_n (E_X11_mayLie_0 8 rfl) rfl ?_
  refine x_getR (E_X11_mayLie_0 9 rfl) fl_X11_28 rfl (by decide) rfl ?_
  refine x_iload_n (E_X11_mayLie_0 10 rfl) rfl ?_
  refine x_ialde (f := σ 121) (E_X11_mayLie_0 11 rfl) rfl (by decide) (by omega) rfl ?_
  refine x_icmp_gt (E_X11_mayLie_0 12 rfl) (by omega) (by omega) (fun c1 => ?_) (fun c1 => ?_)
  · refine x_iconst (E_X11_mayLie_0 15 rfl) ?_
    refine x_istore_n (E_X11_mayLie_0 16 rfl) rfl ?_
    refine x_iconst (E_X11_mayLie_0 17 rfl) ?_
    refine x_istore (E_X11_mayLie_0 18 rfl) rfl ?_
    exact loop 4 0 0 rfl (Or.inr ⟨rfl, fun h => by have := h.1; omega⟩)
  · refine x_iconst (E_X11_mayLie_0 13 rfl) ?_
    refine x_goto (E_X11_mayLie_0 14 rfl) ?_
    refine x_istore_n (E_X11_mayLie_0 16 rfl) rfl ?_
    refine x_iconst (E_X11_mayLie_0 17 rfl) ?_
    refine x_istore (E_X11_mayLie_0 18 rfl) rfl ?_
    exact loop 4 0 1 rfl (Or.inl ⟨rfl, by omega, fun j h => absurd h (by omega)⟩)

