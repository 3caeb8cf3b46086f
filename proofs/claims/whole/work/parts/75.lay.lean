/-! plan: the sets of a floor are laid -/
variable {l : Launch} {G : GC} {σ : Nat → Int → Int}

def itL (s : Nat) : Nat → Nat → List Nat
  | 0, _ => []
  | m + 1, p => p :: itL s m ((p - 1) &&& s)
/-- the sets within s, the empty one aside -/
def sbL (s : Nat) : List Nat := itL s (2 ^ cqS (s : Nat) 12 - 1) s
def opF (B Pz : Int → Int) (s : Nat) : Int := (sbL s).foldl (fun acc p => if Pz (p : Nat) < 1152921504606846976 then min acc (B ((s - p : Nat) : Int) + Pz (p : Nat)) else acc) (B (s : Nat))
theorem sbq_all : (List.range 256).all (fun s => decide (cqS (s : Nat) 12 ≤ 8) && (sbL s).all (fun p => decide (0 < p ∧ p ≤ s ∧ p &&& s = p ∧ s ^^^ p = s - p)) && (List.range (s + 1)).all (fun p => p == 0 || p &&& s != p || (sbL s).contains p)) = true := by decide +kernel
theorem sbq_at {s : Nat} (hs : s < 256) : cqS (s : Nat) 12 ≤ 8 ∧ (∀ p ∈ sbL s, 0 < p ∧ p ≤ s ∧ p &&& s = p ∧ s ^^^ p = s - p) ∧ ∀ p, 0 < p → p ≤ s → p &&& s = p → p ∈ sbL s := by
  have a := List.all_eq_true.mp sbq_all s (List.mem_range.mpr hs)
  rw [Bool.and_eq_true, Bool.and_eq_true] at a
  obtain ⟨⟨a, b⟩, c⟩ := a
  refine ⟨of_decide_eq_true a, fun p hp => of_decide_eq_true (List.all_eq_true.mp b p hp), fun p p0 p1 p2 => ?_⟩
  have d := List.all_eq_true.mp c p (List.mem_range.mpr (by omega))
  rw [Bool.or_eq_true, Bool.or_eq_true] at d
  rcases d with (d | d) | d
  · have : p = 0 := eq_of_beq d
    omega
  · rw [p2, bne_self_eq_false] at d
    cases d
  · exact List.contains_iff_mem.mp d
set_option maxHeartbeats 1000000 in
theorem c_X4_openFloor {c : Nat} (hc : c ≤ 8) (h2 : σ 107 2 = (c : Nat)) (hB : ∀ u, 0 ≤ u → u < 2 ^ c → 0 ≤ σ 113 u ∧ σ 113 u ≤ 1152921504606846976) (hP : ∀ u, 0 ≤ u → u < 2 ^ c → 0 ≤ σ 112 u ∧ σ 112 u ≤ 1152921504606846976) : CV l G M_X4_openFloor 1 [vr 107] σ (fun τ => (τ 113 0 = σ 113 0 ∧ ∀ u : Nat, 1 ≤ u → (u : Int) < 2 ^ c → τ 113 u = opF (σ 113) (σ 112) u) ∧ Fr [113] σ τ) := by
  have pc := p2_rg hc
  have ps := p2_sh hc
  refine Ct.of rfl (Nat.le_of_ble_eq_true rfl) ?_
  have outer : ∀ (s : Nat) (o2 o3 : Option AV) (τ : Nat → Int → Int), (s : Int) < 2 ^ c → (∀ u : Nat, s < u → (u : Int) < 2 ^ c → τ 113 u = opF (σ 113) (σ 112) u) → (∀ u, 0 ≤ u → u ≤ (s : Int) → τ 113 u = σ 113 u) → Fr [113] σ τ → XV l G M_X4_openFloor 1 9 [some (vr 107), some (vi (s : Nat)), o2, o3] [] τ (fun τ => (τ 113 0 = σ 113 0 ∧ ∀ u : Nat, 1 ≤ u → (u : Int) < 2 ^ c → τ 113 u = opF (σ 113) (σ 112) u) ∧ Fr [113] σ τ) := by
    intro s
    induction s with
    | zero =>
      intro o2 o3 τ hs hI hR hF
      refine x_iload_n (E_X4_openFloor_0 7 rfl) rfl ?_
      refine x_if_le (E_X4_openFloor_0 8 rfl) (by omega) (fun c1 => ?_) (fun c1 => ?_)
      · refine z_vret (E_X4_openFloor_0 56 rfl) trivial ?_
        exact ⟨⟨hR 0 (by omega) (by omega), fun u a b => hI u (by omega) b⟩, hF⟩
      · exfalso; omega
    | succ s ih =>
      intro o2 o3 τ hs hI hR hF
      obtain ⟨p8, sm, -⟩ := sbq_at (s := s + 1) (by omega)
      have e8 := p2_sh p8
      have r8 := p2_rg p8
      have e12 : τ 112 = σ 112 := hF 112 (by decide)
      have inner : ∀ (m p : Nat) (υ : Nat → Int → Int), (∀ q ∈ itL (s + 1) m p, q ∈ sbL (s + 1)) → (0 ≤ υ 113 ((s + 1 : Nat) : Int) ∧ υ 113 ((s + 1 : Nat) : Int) ≤ 1152921504606846976) → m < 256 → p < 256 → (itL (s + 1) m p).foldl (fun acc p => if σ 112 (p : Nat) < 1152921504606846976 then min acc (σ 113 ((s + 1 - p : Nat) : Int) + σ 112 (p : Nat)) else acc) (υ 113 ((s + 1 : Nat) : Int)) = opF (σ 113) (σ 112) (s + 1) → (∀ u, u ≠ ((s + 1 : Nat) : Int) → υ 113 u = τ 113 u) → Fr [113] σ υ → XV l G M_X4_openFloor 1 22 [some (vr 107), some (vi ((s + 1 : Nat) : Int)), some (vi (p : Nat)), some (vi ((m : Int) + 1))] [] υ (fun τ => (τ 113 0 = σ 113 0 ∧ ∀ u : Nat, 1 ≤ u → (u : Int) < 2 ^ c → τ 113 u = opF (σ 113) (σ 112) u) ∧ Fr [113] σ τ) := by
        intro m
        induction m with
        | zero =>
          intro p υ hq ha hm hp hf ho hG
          have hf : υ 113 ((s + 1 : Nat) : Int) = opF (σ 113) (σ 112) (s + 1) := hf
          refine x_iload_n (E_X4_openFloor_0 16 rfl) rfl ?_
          refine x_iconst (E_X4_openFloor_0 17 rfl) ?_
          refine x_icmp_le (E_X4_openFloor_0 18 rfl) (by omega) (by decide) (fun c1 => ?_) (fun c1 => ?_)
          · refine x_iinc (E_X4_openFloor_0 54 rfl) rfl rfl ?_
            refine x_goto (E_X4_openFloor_0 55 rfl) ?_
            rw [show ((s + 1 : Nat) : Int) + -1 = (s : Nat) by omega]
            refine ih _ _ υ (by omega) (fun u a b => ?_) (fun u a b => (ho u (by omega)).trans (hR u a (by omega))) hG
            by_cases e : u = s + 1
            · subst e; exact hf
            · exact (ho u (by omega)).trans (hI u (by omega) b)
          · exfalso; omega
        | succ m jh =>
          intro p υ hq ha hm hp hf ho hG
          obtain ⟨q0, q1, q2, q3⟩ := sm p (hq p List.mem_cons_self)
          have hq2 : ∀ q ∈ itL (s + 1) m ((p - 1) &&& (s + 1)), q ∈ sbL (s + 1) := fun q h => hq q (List.mem_cons_of_mem _ h)
          have xo : bXor ((s + 1 : Nat) : Int) (p : Nat) = ((s + 1 - p : Nat) : Int) := by
            rw [← q3]; exact bXor_n (by rw [q3]; omega)
          have lp : (p - 1) &&& (s + 1) ≤ p - 1 := Nat.and_le_left
          have an : bAnd ((p : Int) - 1) ((s + 1 : Nat) : Int) = (((p - 1) &&& (s + 1) : Nat) : Int) := by
            rw [show (p : Int) - 1 = ((p - 1 : Nat) : Int) by omega]; exact bAnd_n (by omega)
          have g12 : υ 112 p = σ 112 p := congrFun (hG 112 (by decide)) _
          have b12 := hP (p : Nat) (by omega) (by omega)
          have v9 : υ 113 ((s + 1 - p : Nat) : Int) = σ 113 ((s + 1 - p : Nat) : Int) := (ho _ (by omega)).trans (hR _ (by omega) (by omega))
          have b13 := hB ((s + 1 - p : Nat) : Int) (by omega) (by omega)
          have lc : lCmp (υ 112 p) 1152921504606846976 < 0 ↔ υ 112 p < 1152921504606846976 := lCmp_lt
          refine x_iload_n (E_X4_openFloor_0 16 rfl) rfl ?_
          refine x_iconst (E_X4_openFloor_0 17 rfl) ?_
          refine x_icmp_le (E_X4_openFloor_0 18 rfl) (by omega) (by decide) (fun c1 => ?_) (fun c1 => ?_)
          · exfalso; omega
          · refine x_aload_n (E_X4_openFloor_0 19 rfl) rfl ?_
            refine x_getR (E_X4_openFloor_0 20 rfl) fl_X4_24 rfl (by decide) rfl ?_
            refine x_iload_n (E_X4_openFloor_0 21 rfl) rfl ?_
            refine x_lalde (f := υ 112) (E_X4_openFloor_0 22 rfl) rfl (by decide) (by omega) rfl ?_
            refine x_ldc2 (z := 1152921504606846976) (E_X4_openFloor_0 23 rfl) kc_X4_46 (by decide) ?_
            refine x_lcmp (E_X4_openFloor_0 24 rfl) (by omega) (by decide) ?_
            refine x_if_ge (E_X4_openFloor_0 25 rfl) lCmp_rg (fun c2 => ?_) (fun c2 => ?_)
            · refine x_iload_n (E_X4_openFloor_0 46 rfl) rfl ?_
              refine x_iconst (E_X4_openFloor_0 47 rfl) ?_
              refine x_isub (E_X4_openFloor_0 48 rfl) ?_
              refine x_iload_n (E_X4_openFloor_0 49 rfl) rfl ?_
              refine x_iand (E_X4_openFloor_0 50 rfl) ?_
              rw [an]
              refine x_istore_n (E_X4_openFloor_0 51 rfl) rfl ?_
              refine x_iinc (E_X4_openFloor_0 52 rfl) rfl rfl ?_
              refine x_goto (E_X4_openFloor_0 53 rfl) ?_
              rw [show ((m + 1 : Nat) : Int) + 1 + -1 = (m : Int) + 1 by omega]
              refine jh _ υ hq2 ha (by omega) (by omega) ?_ ho hG
              have hf : List.foldl _ (if σ 112 p < 1152921504606846976 then min (υ 113 ((s + 1 : Nat) : Int)) _ else υ 113 ((s + 1 : Nat) : Int)) (itL (s + 1) m ((p - 1) &&& (s + 1))) = _ := hf
              rw [if_neg (by omega)] at hf
              exact hf
            · refine x_aload_n (E_X4_openFloor_0 26 rfl) rfl ?_
              refine x_getR (E_X4_openFloor_0 27 rfl) fl_X4_28 rfl (by decide) rfl ?_
              refine x_iload_n (E_X4_openFloor_0 28 rfl) rfl ?_
              refine x_aload_n (E_X4_openFloor_0 29 rfl) rfl ?_
              refine x_getR (E_X4_openFloor_0 30 rfl) fl_X4_28 rfl (by decide) rfl ?_
              refine x_iload_n (E_X4_openFloor_0 31 rfl) rfl ?_
              refine x_lalde (f := υ 113) (E_X4_openFloor_0 32 rfl) rfl (by decide) (by omega) rfl ?_
              refine x_aload_n (E_X4_openFloor_0 33 rfl) rfl ?_
              refine x_getR (E_X4_openFloor_0 34 rfl) fl_X4_28 rfl (by decide) rfl ?_
              refine x_iload_n (E_X4_openFloor_0 35 rfl) rfl ?_
              refine x_iload_n (E_X4_openFloor_0 36 rfl) rfl ?_
              refine x_ixor (E_X4_openFloor_0 37 rfl) ?_
              rw [xo]
              refine x_lalde (f := υ 113) (E_X4_openFloor_0 38 rfl) rfl (by decide) (by omega) rfl ?_
              refine x_aload_n (E_X4_openFloor_0 39 rfl) rfl ?_
              refine x_getR (E_X4_openFloor_0 40 rfl) fl_X4_24 rfl (by decide) rfl ?_
              refine x_iload_n (E_X4_openFloor_0 41 rfl) rfl ?_
              refine x_lalde (f := υ 112) (E_X4_openFloor_0 42 rfl) rfl (by decide) (by omega) rfl ?_
              refine x_ladd (E_X4_openFloor_0 43 rfl) ?_
              refine x_mminL (E_X4_openFloor_0 44 rfl) ml_X4_85 (by omega) (by rw [v9, g12]; omega) ⟨by decide, by decide, by decide, by decide, Nat.le_of_ble_eq_true rfl⟩ ?_
              refine x_last (E_X4_openFloor_0 45 rfl) rfl (by decide) (by omega) ?_
              refine x_iload_n (E_X4_openFloor_0 46 rfl) rfl ?_
              refine x_iconst (E_X4_openFloor_0 47 rfl) ?_
              refine x_isub (E_X4_openFloor_0 48 rfl) ?_
              refine x_iload_n (E_X4_openFloor_0 49 rfl) rfl ?_
              refine x_iand (E_X4_openFloor_0 50 rfl) ?_
              rw [an]
              refine x_istore_n (E_X4_openFloor_0 51 rfl) rfl ?_
              refine x_iinc (E_X4_openFloor_0 52 rfl) rfl rfl ?_
              refine x_goto (E_X4_openFloor_0 53 rfl) ?_
              rw [show ((m + 1 : Nat) : Int) + 1 + -1 = (m : Int) + 1 by omega]
              have w9 : (upq υ 113 ((s + 1 : Nat) : Int) (min (υ 113 ((s + 1 : Nat) : Int)) (υ 113 ((s + 1 - p : Nat) : Int) + υ 112 p))) 113 ((s + 1 : Nat) : Int) = min (υ 113 ((s + 1 : Nat) : Int)) (σ 113 ((s + 1 - p : Nat) : Int) + σ 112 p) := (if_pos rfl).trans (by rw [v9, g12])
              refine jh _ _ hq2 (by rw [w9]; omega) (by omega) (by omega) ?_ (fun u hu => (if_neg hu).trans (ho u hu)) (hG.up (by decide))
              have hf : List.foldl _ (if σ 112 p < 1152921504606846976 then min (υ 113 ((s + 1 : Nat) : Int)) (σ 113 ((s + 1 - p : Nat) : Int) + σ 112 p) else υ 113 ((s + 1 : Nat) : Int)) (itL (s + 1) m ((p - 1) &&& (s + 1))) = _ := hf
              rw [if_pos (by omega)] at hf
              rw [w9]
              exact hf
      refine x_iload_n (E_X4_openFloor_0 7 rfl) rfl ?_
      refine x_if_le (E_X4_openFloor_0 8 rfl) (by omega) (fun c1 => ?_) (fun c1 => ?_)
      · exfalso; omega
      · refine x_iload_n (E_X4_openFloor_0 9 rfl) rfl ?_
        refine x_istore_n (E_X4_openFloor_0 10 rfl) rfl ?_
        refine x_iconst (E_X4_openFloor_0 11 rfl) ?_
        refine x_iload_n (E_X4_openFloor_0 12 rfl) rfl ?_
        refine z_callSi (E_X4_openFloor_0 13 rfl) ml_X4_80 ms_J6_bitCount_0f7a4 (c_J6_bitCount (by omega)) (by decide) rfl rfl (Nat.le_of_ble_eq_true rfl) (fun z9 τ9 h9 => ?_)
        obtain ⟨rfl, rfl⟩ := h9
        refine x_ishl (E_X4_openFloor_0 14 rfl) ?_
        rw [e8]
        refine x_istore_n (E_X4_openFloor_0 15 rfl) rfl ?_
        have t2 : (2 : Int) ^ cqS ((s + 1 : Nat) : Int) 12 = ((2 ^ cqS ((s + 1 : Nat) : Int) 12 - 1 : Nat) : Int) + 1 := by
          have e : (2 : Int) ^ cqS ((s + 1 : Nat) : Int) 12 = ((2 ^ cqS ((s + 1 : Nat) : Int) 12 : Nat) : Int) := by push_cast; rfl
          rw [e] at r8 ⊢
          omega
        have t3 : 2 ^ cqS ((s + 1 : Nat) : Int) 12 - 1 < 256 := by omega
        have a9 := hR ((s + 1 : Nat) : Int) (by omega) (by omega)
        rw [t2]
        refine inner _ (s + 1) τ (fun q h => h) (by rw [a9]; exact hB _ (by omega) (by omega)) t3 (by omega) ?_ (fun u _ => rfl) hF
        rw [a9]; rfl
  refine x_iconst (E_X4_openFloor_0 0 rfl) ?_
  refine x_aload_n (E_X4_openFloor_0 1 rfl) rfl ?_
  refine x_getIe (v := σ 107 2) (E_X4_openFloor_0 2 rfl) fl_X4_45 rfl (by decide) rfl ?_
  rw [h2]
  refine x_ishl (E_X4_openFloor_0 3 rfl) ?_
  rw [ps]
  refine x_iconst (E_X4_openFloor_0 4 rfl) ?_
  refine x_isub (E_X4_openFloor_0 5 rfl) ?_
  refine x_istore_n (E_X4_openFloor_0 6 rfl) rfl ?_
  have e9 : (2 : Int) ^ c - 1 = (((2 : Int) ^ c - 1).toNat : Nat) := by omega
  rw [e9]
  exact outer _ none none σ (by omega) (fun u a b => absurd a (by omega)) (fun u _ _ => rfl) Fr.rf

