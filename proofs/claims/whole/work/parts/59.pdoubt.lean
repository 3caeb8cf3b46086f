/-! doubt of the model; the pair -/
variable {l : Launch} {G : GC} {σ τ : Nat → Int → Int}

theorem sumS_set2 {f g : Int → Int} {i : Int} : ∀ {n : Nat}, (∀ j, 0 ≤ j → j < (n : Int) → j ≠ i → g j = f j) → sumS g n = sumS f n + (if 0 ≤ i ∧ i < (n : Int) then g i - f i else 0)
  | 0, _ => by
    rw [if_neg (by omega)]
    rfl
  | n + 1, h => by
    show sumS g n + g n = sumS f n + f n + _
    rw [sumS_set2 (n := n) (fun j a b c => h j a (by omega) c)]
    by_cases e : i = n
    · subst e
      rw [if_neg (by omega), if_pos (by omega)]
      omega
    · rw [h n (by omega) (by omega) (fun q => e q.symm)]
      by_cases q : 0 ≤ i ∧ i < (n : Int)
      · rw [if_pos q, if_pos (by omega)]; omega
      · rw [if_neg q, if_neg (by omega)]; omega
theorem inD_max {c : Int} : ∀ {r : List Int}, (∀ x ∈ r, x ≤ c) → inD c r = c :: r
  | [], _ => rfl
  | y :: r, h => by
    show (if c ≤ y then y :: inD c r else c :: y :: r) = _
    by_cases e : c ≤ y
    · have := h y List.mem_cons_self
      rw [if_pos e, inD_max (fun x hx => h x (List.mem_cons_of_mem _ hx)), show y = c by omega]
    · rw [if_neg e]
theorem cnL_pos {f : Int → Int} {x : Int} : ∀ {n : Nat}, x ∈ cnL f n → 0 < f x
  | 0, h => by cases h
  | n + 1, h => by
    rcases List.mem_append.mp h with h | h
    · have e := List.eq_of_mem_replicate h
      have q := List.mem_replicate.mp h
      rw [e]
      omega
    · exact cnL_pos (n := n) h
theorem cnL_nil {f : Int → Int} (h : ∀ x, f x = 0) : ∀ {n : Nat}, cnL f n = []
  | 0 => rfl
  | n + 1 => by
    show List.replicate (f _).toNat _ ++ cnL f n = []
    rw [cnL_nil h, h]
    rfl
def ofM (o : Option Nat) : Int := match o with
  | some k => k
  | none => 1000
/-- of those from i on that come behind (a, b): how many have n -/
def frQ (cc : Int → Int) (i : Int) (N : Nat) (a b n : Int) : Int := sumS (fun k => if (i ≤ k ∧ (cc k < a ∨ (cc k = a ∧ b < k))) ∧ cc k = n then 1 else 0) N
theorem frQ_0 {cc : Int → Int} {i a b : Int} {N : Nat} (n : Int) : 0 ≤ frQ cc i N a b n := (sumS_rg (B := 1) (fun j _ _ => by split <;> omega)).1
theorem fr_none {cc : Int → Int} {i a b : Int} {N : Nat} (h : ∀ k, 0 ≤ k → k < (N : Int) → ¬ (i ≤ k ∧ (cc k < a ∨ (cc k = a ∧ b < k)))) (n : Int) : frQ cc i N a b n = 0 := sumS_0 (fun j x y => if_neg (fun q => h j x y q.1))
theorem fr_pick {cc : Int → Int} {i a b kb : Int} {N : Nat} (h0 : 0 ≤ kb ∧ kb < (N : Int)) (hi : i ≤ kb) (he : (i ≤ kb ∧ (cc kb < a ∨ (cc kb = a ∧ b < kb)))) (hm : ∀ k, 0 ≤ k → k < (N : Int) → (i ≤ k ∧ (cc k < a ∨ (cc k = a ∧ b < k))) → cc k ≤ cc kb ∧ (k < kb → cc k < cc kb)) (hc : 1 ≤ cc kb ∧ cc kb ≤ 200) : cnL (frQ cc i N a b) 200 = cc kb :: cnL (frQ cc i N (cc kb) kb) 200 := by
  have e : frQ cc i N a b = updI (frQ cc i N (cc kb) kb) (cc kb) (frQ cc i N (cc kb) kb (cc kb) + 1) := by
    funext n
    have s := sumS_set2 (n := N) (i := kb) (f := fun k => if (i ≤ k ∧ (cc k < cc kb ∨ (cc k = cc kb ∧ kb < k))) ∧ cc k = n then 1 else 0) (g := fun k => if (i ≤ k ∧ (cc k < a ∨ (cc k = a ∧ b < k))) ∧ cc k = n then 1 else 0) (fun j x y z => by
      have m := hm j x y
      by_cases q : cc j = n
      · by_cases p1 : i ≤ j ∧ (cc j < a ∨ (cc j = a ∧ b < j))
        · have := m p1
          rw [if_pos ⟨p1, q⟩, if_pos ⟨by omega, q⟩]
        · rw [if_neg (fun w => p1 w.1), if_neg (fun w => p1 (by omega))]
      · rw [if_neg (fun w => q w.2), if_neg (fun w => q w.2)])
    have s : frQ cc i N a b n = frQ cc i N (cc kb) kb n + (if 0 ≤ kb ∧ kb < (N : Int) then (if (i ≤ kb ∧ (cc kb < a ∨ (cc kb = a ∧ b < kb))) ∧ cc kb = n then 1 else 0) - (if (i ≤ kb ∧ (cc kb < cc kb ∨ (cc kb = cc kb ∧ kb < kb))) ∧ cc kb = n then 1 else 0) else 0) := s
    rw [if_pos h0, if_neg (show ¬ ((i ≤ kb ∧ (cc kb < cc kb ∨ (cc kb = cc kb ∧ kb < kb))) ∧ cc kb = n) by omega)] at s
    rw [s]
    unfold updI
    by_cases q : n = cc kb
    · rw [if_pos q, if_pos ⟨he, q.symm⟩, q]; omega
    · rw [if_neg q, if_neg (fun w => q w.2.symm)]; omega
  rw [e, cnL_in frQ_0 hc.1 hc.2, inD_max (fun x hx => ?_)]
  have p := cnL_pos hx
  refine Classical.byContradiction (fun q => ?_)
  have z : frQ cc i N (cc kb) kb x = 0 := sumS_0 (fun j _ _ => if_neg (fun w => by omega))
  omega
theorem drop_cnt {c cc : Int → Int} {I : List Int} {i : Nat} {n : Int} (h : ∀ k : Nat, ∀ hk : k < I.length, cc k = c I[k]) : ∀ {m : Nat}, m ≤ I.length → sumS (fun k => if (i : Int) ≤ k ∧ cc k = n then 1 else 0) m = ctL c ((I.take m).drop i) n
  | 0, _ => by
    unfold ctL
    simp [sumS]
  | m + 1, hm => by
    have ih := drop_cnt (c := c) (cc := cc) (i := i) (n := n) h (m := m) (by omega)
    show sumS _ m + (if (i : Int) ≤ (m : Int) ∧ cc m = n then 1 else 0) = _
    rw [ih, List.take_succ_eq_append_getElem (by omega)]
    by_cases e : i ≤ m
    · rw [List.drop_append_of_le_length (by rw [List.length_take]; omega), ctL_snoc, ← h m (by omega)]
      unfold updI
      by_cases q : n = cc m
      · rw [if_pos q, if_pos ⟨by omega, q.symm⟩, q]
      · rw [if_neg q, if_neg (fun w => q w.2.symm)]; omega
    · rw [if_neg (by omega), List.drop_eq_nil_of_le (by rw [List.length_take]; omega), List.drop_eq_nil_of_le (by rw [List.length_append, List.length_take]; simp; omega)]
      omega

set_option maxHeartbeats 2000000 in
theorem c_X11_fewestFrom {i v : Int} {c : Int → Int} {I : List Int} (hv : -40000 ≤ v ∧ v ≤ 40000) (hN : σ 114 51 = I.length) (h120 : I.length ≤ 120) (hi : 0 ≤ i ∧ i ≤ I.length) (hI : RepL (σ 152) I) (hm : ∀ w ∈ I, (0 ≤ w ∧ w < 120) ∧ (1 ≤ c w ∧ c w ≤ 200) ∧ σ 144 w = c w) : CI l G M_X11_fewestFrom 0 [vr 114, vi i, vi v] σ (IP (ofM (fwO (dsL c (I.drop i.toNat)) v)) σ) := by
  have at9 : ∀ k, 0 ≤ k → k < (I.length : Int) → (0 ≤ σ 152 k ∧ σ 152 k < 120) ∧ 1 ≤ σ 144 (σ 152 k) ∧ σ 144 (σ 152 k) ≤ 200 := fun k a b => by
    have q : I[k.toNat]? = some I[k.toNat] := List.getElem?_eq_getElem (by omega)
    have r := hI _ _ q
    rw [show ((k.toNat : Nat) : Int) = k by omega] at r
    have m := hm _ (List.mem_of_getElem? q)
    rw [r, m.2.2]
    exact ⟨m.1, m.2.1⟩
  have ini : cnL (frQ (fun k => σ 144 (σ 152 k)) i I.length 201 (-1)) 200 = dsL c (I.drop i.toNat) := by
    unfold dsL
    refine cnL_cong (fun n n1 n2 => ?_)
    have dc := drop_cnt (c := c) (cc := (fun k => σ 144 (σ 152 k))) (I := I) (i := i.toNat) (n := n) (fun k hk => by
      have q : I[k]? = some I[k] := List.getElem?_eq_getElem hk
      show σ 144 (σ 152 k) = _
      rw [hI _ _ q]
      exact (hm _ (List.mem_of_getElem? q)).2.2) (m := I.length) (Nat.le_refl _)
    rw [List.take_length, show ((i.toNat : Nat) : Int) = i by omega] at dc
    rw [← dc]
    refine sumS_cong (fun k a b => ?_)
    have := at9 k a b
    by_cases q : i ≤ k ∧ σ 144 (σ 152 k) = n
    · rw [if_pos ⟨⟨q.1, Or.inl (by show σ 144 (σ 152 k) < 201; omega)⟩, q.2⟩, if_pos q]
    · rw [if_neg (fun h => q ⟨h.1.1, h.2⟩), if_neg q]
  refine Ct.of rfl (Nat.le_of_ble_eq_true rfl) ?_
  have loop : ∀ (t : Nat) (left taken last lastAt : Int) (o7 o8 o9 o10 : Option AV), left ≤ t → (-40000 ≤ left ∧ left ≤ 40000) → 0 ≤ taken → (1 ≤ last ∧ last ≤ 201) → (-1 ≤ lastAt ∧ lastAt < 120) → (fwO (cnL (frQ (fun k => σ 144 (σ 152 k)) i I.length last lastAt) 200) left).map (· + taken.toNat) = fwO (dsL c (I.drop i.toNat)) v → XI l G M_X11_fewestFrom 0 13 [some (vr 114), some (vi i), some (vi v), some (vi taken), some (vi left), some (vi last), some (vi lastAt), o7, o8, o9, o10] [] σ (IP (ofM (fwO (dsL c (I.drop i.toNat)) v)) σ) := by
    intro t
    induction t using Nat.strongRecOn with
    | _ t ih =>
    intro left taken last lastAt o7 o8 o9 o10 hlt hl ht hla hlb he
    have inner : 0 < left → ∀ (q : Nat) (k best : Int) (o9 o10 : Option AV), k = (I.length : Int) - q → i ≤ k → ((best = -1 ∧ ∀ j, i ≤ j → j < k → ¬ (i ≤ j ∧ (σ 144 (σ 152 j) < last ∨ (σ 144 (σ 152 j) = last ∧ lastAt < j)))) ∨ ((i ≤ best ∧ best < k) ∧ (i ≤ best ∧ (σ 144 (σ 152 best) < last ∨ (σ 144 (σ 152 best) = last ∧ lastAt < best))) ∧ ∀ j, i ≤ j → j < k → (i ≤ j ∧ (σ 144 (σ 152 j) < last ∨ (σ 144 (σ 152 j) = last ∧ lastAt < j))) → σ 144 (σ 152 j) ≤ σ 144 (σ 152 best) ∧ (j < best → σ 144 (σ 152 j) < σ 144 (σ 152 best)))) → XI l G M_X11_fewestFrom 0 24 [some (vr 114), some (vi i), some (vi v), some (vi taken), some (vi left), some (vi last), some (vi lastAt), some (vi best), some (vi k), o9, o10] [] σ (IP (ofM (fwO (dsL c (I.drop i.toNat)) v)) σ) := by
      intro l0 q
      induction q using Nat.strongRecOn with
      | _ q ih2 =>
      intro k best o9 o10 hk hik hb
      have bb : -1 ≤ best ∧ best < k := by
        rcases hb with h | h
        · omega
        · omega
      have j75 : ∀ b, k < (I.length : Int) → ((b = 1 ∧ (i ≤ k ∧ (σ 144 (σ 152 k) < last ∨ (σ 144 (σ 152 k) = last ∧ lastAt < k)))) ∨ (b = 0 ∧ ¬ (i ≤ k ∧ (σ 144 (σ 152 k) < last ∨ (σ 144 (σ 152 k) = last ∧ lastAt < k))))) → XI l G M_X11_fewestFrom 0 75 [some (vr 114), some (vi i), some (vi v), some (vi taken), some (vi left), some (vi last), some (vi lastAt), some (vi best), some (vi k), some (vi (σ 144 (σ 152 k))), some (vi b)] [] σ (IP (ofM (fwO (dsL c (I.drop i.toNat)) v)) σ) := by
        intro b kN hbk
        have ak := at9 k (by omega) kN
        refine x_iload (E_X11_fewestFrom_0 39 rfl) rfl ?_
        refine x_if_eq (E_X11_fewestFrom_0 40 rfl) (by omega) (fun c1 => ?_) (fun c1 => ?_)
        · refine x_iload (E_X11_fewestFrom_0 54 rfl) rfl ?_
          refine x_istore (E_X11_fewestFrom_0 55 rfl) rfl ?_
          refine x_iinc (E_X11_fewestFrom_0 56 rfl) rfl rfl ?_
          refine x_goto (E_X11_fewestFrom_0 57 rfl) ?_
          refine ih2 (q - 1) (by omega) _ best _ _ (by omega) (by omega) ?_
          rcases hb with h | h
          · refine Or.inl ⟨h.1, fun j a b z => ?_⟩
            by_cases e : j = k
            · subst e; exact (hbk.resolve_left (fun h => by omega)).2 z
            · exact h.2 j a (by omega) z
          · refine Or.inr ⟨by omega, h.2.1, fun j a b z => ?_⟩
            by_cases e : j = k
            · subst e; exact absurd z (hbk.resolve_left (fun h => by omega)).2
            · exact h.2.2 j a (by omega) z
        · refine x_iload (E_X11_fewestFrom_0 41 rfl) rfl ?_
          refine x_if_lt (E_X11_fewestFrom_0 42 rfl) (by omega) (fun c2 => ?_) (fun c2 => ?_)
          · refine x_iload (E_X11_fewestFrom_0 52 rfl) rfl ?_
            refine x_goto (E_X11_fewestFrom_0 53 rfl) ?_
            refine x_istore (E_X11_fewestFrom_0 55 rfl) rfl ?_
            refine x_iinc (E_X11_fewestFrom_0 56 rfl) rfl rfl ?_
            refine x_goto (E_X11_fewestFrom_0 57 rfl) ?_
            refine ih2 (q - 1) (by omega) _ k _ _ (by omega) (by omega) (Or.inr ⟨by omega, (hbk.resolve_right (fun h => by omega)).2, fun j a b z => ?_⟩)
            by_cases e : j = k
            · subst e; exact ⟨Int.le_refl _, fun h => absurd h (by omega)⟩
            · rcases hb with h | h
              · exact absurd z (h.2 j a (by omega))
              · have := h.2.2 j a (by omega) z
                omega
          · have ab := at9 best (by omega) (by omega)
            refine x_iload (E_X11_fewestFrom_0 43 rfl) rfl ?_
            refine x_aload_n (E_X11_fewestFrom_0 44 rfl) rfl ?_
            refine x_getR (E_X11_fewestFrom_0 45 rfl) fl_X11_102 rfl (by decide) rfl ?_
            refine x_aload_n (E_X11_fewestFrom_0 46 rfl) rfl ?_
            refine x_getR (E_X11_fewestFrom_0 47 rfl) fl_X11_126 rfl (by decide) rfl ?_
            refine x_iload (E_X11_fewestFrom_0 48 rfl) rfl ?_
            refine x_ialde (f := σ 152) (E_X11_fewestFrom_0 49 rfl) rfl (by decide) (by omega) rfl ?_
            refine x_ialde (f := σ 144) (E_X11_fewestFrom_0 50 rfl) rfl (by decide) (by omega) rfl ?_
            refine x_icmp_le (E_X11_fewestFrom_0 51 rfl) (by omega) (by omega) (fun c3 => ?_) (fun c3 => ?_)
            · refine x_iload (E_X11_fewestFrom_0 54 rfl) rfl ?_
              refine x_istore (E_X11_fewestFrom_0 55 rfl) rfl ?_
              refine x_iinc (E_X11_fewestFrom_0 56 rfl) rfl rfl ?_
              refine x_goto (E_X11_fewestFrom_0 57 rfl) ?_
              refine ih2 (q - 1) (by omega) _ best _ _ (by omega) (by omega) ?_
              rcases hb with h | h
              · refine Or.inl ⟨h.1, fun j a b z => ?_⟩
                by_cases e : j = k
                · subst e; omega
                · exact h.2 j a (by omega) z
              · refine Or.inr ⟨by omega, h.2.1, fun j a b z => ?_⟩
                by_cases e : j = k
                · subst e; omega
                · exact h.2.2 j a (by omega) z
            · refine x_iload (E_X11_fewestFrom_0 52 rfl) rfl ?_
              refine x_goto (E_X11_fewestFrom_0 53 rfl) ?_
              refine x_istore (E_X11_fewestFrom_0 55 rfl) rfl ?_
              refine x_iinc (E_X11_fewestFrom_0 56 rfl) rfl rfl ?_
              refine x_goto (E_X11_fewestFrom_0 57 rfl) ?_
              refine ih2 (q - 1) (by omega) _ k _ _ (by omega) (by omega) (Or.inr ⟨by omega, (hbk.resolve_right (fun h => by omega)).2, fun j a b z => ?_⟩)
              by_cases e : j = k
              · subst e; exact ⟨Int.le_refl _, fun h => absurd h (by omega)⟩
              · rcases hb with h | h
                · exact absurd z (h.2 j a (by omega))
                · have := h.2.2 j a (by omega) z
                  omega
      refine x_iload (E_X11_fewestFrom_0 14 rfl) rfl ?_
      refine x_aload_n (E_X11_fewestFrom_0 15 rfl) rfl ?_
      refine x_getIe (v := σ 114 51) (E_X11_fewestFrom_0 16 rfl) fl_X11_407 rfl (by decide) rfl ?_
      refine x_icmp_ge (E_X11_fewestFrom_0 17 rfl) (by omega) (by omega) (fun c1 => ?_) (fun c1 => ?_)
      · refine x_iload (E_X11_fewestFrom_0 58 rfl) rfl ?_
        refine x_if_ge (E_X11_fewestFrom_0 59 rfl) (by omega) (fun c2 => ?_) (fun c2 => ?_)
        · have ab := at9 best (by omega) (by omega)
          refine x_aload_n (E_X11_fewestFrom_1 2 rfl) rfl ?_
          refine x_getR (E_X11_fewestFrom_1 3 rfl) fl_X11_102 rfl (by decide) rfl ?_
          refine x_aload_n (E_X11_fewestFrom_1 4 rfl) rfl ?_
          refine x_getR (E_X11_fewestFrom_1 5 rfl) fl_X11_126 rfl (by decide) rfl ?_
          refine x_iload (E_X11_fewestFrom_1 6 rfl) rfl ?_
          refine x_ialde (f := σ 152) (E_X11_fewestFrom_1 7 rfl) rfl (by decide) (by omega) rfl ?_
          refine x_ialde (f := σ 144) (E_X11_fewestFrom_1 8 rfl) rfl (by decide) (by omega) rfl ?_
          refine x_istore (E_X11_fewestFrom_1 9 rfl) rfl ?_
          refine x_iload (E_X11_fewestFrom_1 10 rfl) rfl ?_
          refine x_istore (E_X11_fewestFrom_1 11 rfl) rfl ?_
          refine x_iload (E_X11_fewestFrom_1 12 rfl) rfl ?_
          refine x_iload (E_X11_fewestFrom_1 13 rfl) rfl ?_
          refine x_isub (E_X11_fewestFrom_1 14 rfl) ?_
          refine x_istore (E_X11_fewestFrom_1 15 rfl) rfl ?_
          refine x_iinc (E_X11_fewestFrom_1 16 rfl) rfl rfl ?_
          refine x_goto (E_X11_fewestFrom_1 17 rfl) ?_
          have hb := hb.resolve_left (fun h => by omega)
          have pk := fr_pick (cc := (fun k => σ 144 (σ 152 k))) (i := i) (a := last) (b := lastAt) (kb := best) (N := I.length) (by omega) hb.1.1 hb.2.1 (fun k a b c => hb.2.2 k c.1 (by omega) c) ab.2
          rw [pk, fwO_cons (by omega), Option.map_map] at he
          refine ih (t - 1) (by omega) _ _ _ _ _ _ _ _ (by omega) (by omega) (by omega) (by omega) (by omega) ?_
          rw [← he]
          congr 1
          funext z
          show z + (taken + 1).toNat = z + 1 + taken.toNat
          omega
        · refine x_sipush (z := 1000) (E_X11_fewestFrom_1 0 rfl) (by decide) ?_
          refine z_iret (E_X11_fewestFrom_1 1 rfl) trivial ?_
          have nE : ∀ j, 0 ≤ j → j < (I.length : Int) → ¬ (i ≤ j ∧ (σ 144 (σ 152 j) < last ∨ (σ 144 (σ 152 j) = last ∧ lastAt < j))) := by
            rcases hb with h | h
            · exact fun j a b q => h.2 j q.1 (by omega) q
            · omega
          rw [cnL_nil (fr_none (cc := (fun k => σ 144 (σ 152 k))) nE)] at he
          have z : fwO [] left = none := if_neg (by omega)
          rw [z] at he
          rw [← he]
          exact ⟨rfl, rfl⟩
      · have ak := at9 k (by omega) (by omega)
        refine x_aload_n (E_X11_fewestFrom_0 18 rfl) rfl ?_
        refine x_getR (E_X11_fewestFrom_0 19 rfl) fl_X11_102 rfl (by decide) rfl ?_
        refine x_aload_n (E_X11_fewestFrom_0 20 rfl) rfl ?_
        refine x_getR (E_X11_fewestFrom_0 21 rfl) fl_X11_126 rfl (by decide) rfl ?_
        refine x_iload (E_X11_fewestFrom_0 22 rfl) rfl ?_
        refine x_ialde (f := σ 152) (E_X11_fewestFrom_0 23 rfl) rfl (by decide) (by omega) rfl ?_
        refine x_ialde (f := σ 144) (E_X11_fewestFrom_0 24 rfl) rfl (by decide) (by omega) rfl ?_
        refine x_istore (E_X11_fewestFrom_0 25 rfl) rfl ?_
        refine x_iload (E_X11_fewestFrom_0 26 rfl) rfl ?_
        refine x_iload (E_X11_fewestFrom_0 27 rfl) rfl ?_
        refine x_icmp_lt (E_X11_fewestFrom_0 28 rfl) (by omega) (by omega) (fun c3 => ?_) (fun c3 => ?_)
        · refine x_iconst (E_X11_fewestFrom_0 35 rfl) ?_
          refine x_goto (E_X11_fewestFrom_0 36 rfl) ?_
          refine x_istore (E_X11_fewestFrom_0 38 rfl) rfl ?_
          exact j75 1 (by omega) (Or.inl ⟨rfl, by omega⟩)
        · refine x_iload (E_X11_fewestFrom_0 29 rfl) rfl ?_
          refine x_iload (E_X11_fewestFrom_0 30 rfl) rfl ?_
          refine x_icmp_ne (E_X11_fewestFrom_0 31 rfl) (by omega) (by omega) (fun c4 => ?_) (fun c4 => ?_)
          · refine x_iconst (E_X11_fewestFrom_0 37 rfl) ?_
            refine x_istore (E_X11_fewestFrom_0 38 rfl) rfl ?_
            exact j75 0 (by omega) (Or.inr ⟨rfl, by omega⟩)
          · refine x_iload (E_X11_fewestFrom_0 32 rfl) rfl ?_
            refine x_iload (E_X11_fewestFrom_0 33 rfl) rfl ?_
            refine x_icmp_le (E_X11_fewestFrom_0 34 rfl) (by omega) (by omega) (fun c5 => ?_) (fun c5 => ?_)
            · refine x_iconst (E_X11_fewestFrom_0 37 rfl) ?_
              refine x_istore (E_X11_fewestFrom_0 38 rfl) rfl ?_
              exact j75 0 (by omega) (Or.inr ⟨rfl, by omega⟩)
            · refine x_iconst (E_X11_fewestFrom_0 35 rfl) ?_
              refine x_goto (E_X11_fewestFrom_0 36 rfl) ?_
              refine x_istore (E_X11_fewestFrom_0 38 rfl) rfl ?_
              exact j75 1 (by omega) (Or.inl ⟨rfl, by omega⟩)
    refine x_iload (E_X11_fewestFrom_0 8 rfl) rfl ?_
    refine x_if_le (E_X11_fewestFrom_0 9 rfl) (by omega) (fun c1 => ?_) (fun c1 => ?_)
    · refine x_iload_n (E_X11_fewestFrom_1 18 rfl) rfl ?_
      refine z_iret (E_X11_fewestFrom_1 19 rfl) trivial ?_
      rw [fwO_0 (by omega)] at he
      rw [← he]
      refine ⟨?_, rfl⟩
      show taken = ((0 + taken.toNat : Nat) : Int)
      omega
    · refine x_iconst (E_X11_fewestFrom_0 10 rfl) ?_
      refine x_istore (E_X11_fewestFrom_0 11 rfl) rfl ?_
      refine x_iload_n (E_X11_fewestFrom_0 12 rfl) rfl ?_
      refine x_istore (E_X11_fewestFrom_0 13 rfl) rfl ?_
      exact inner (by omega) (I.length - i.toNat) i (-1) _ _ (by omega) (Int.le_refl _) (Or.inl ⟨rfl, fun j a b => absurd a (by omega)⟩)
  refine x_iconst (E_X11_fewestFrom_0 0 rfl) ?_
  refine x_istore_n (E_X11_fewestFrom_0 1 rfl) rfl ?_
  refine x_iload_n (E_X11_fewestFrom_0 2 rfl) rfl ?_
  refine x_istore (E_X11_fewestFrom_0 3 rfl) rfl ?_
  refine x_sipush (z := 201) (E_X11_fewestFrom_0 4 rfl) (by decide) ?_
  refine x_istore (E_X11_fewestFrom_0 5 rfl) rfl ?_
  refine x_iconst (E_X11_fewestFrom_0 6 rfl) ?_
  refine x_istore (E_X11_fewestFrom_0 7 rfl) rfl ?_
  refine loop v.toNat v 0 201 (-1) none none none none (by omega) hv (by omega) (by omega) (by omega) ?_
  rw [ini]
  cases fwO (dsL c (I.drop i.toNat)) v <;> rfl

/-- the answer of doubt -/
def dbZ (T : List Int) (i : Int) : Int := if i = -1 then ((T.length : Nat) : Int) else if 0 ≤ i ∧ i < T.length then T.getD i.toNat 0 else -1
theorem db_kz (hR : RR σ) {d kn x : Int} (hx : 0 ≤ x ∧ x < σ 1 5) : fwO (dsL ((Yq σ d kn) 4) (ilF (fun w => decide ((Yq σ d kn) 1 w = 1 ∧ (Yq σ d kn) 3 w = x ∧ 0 < (Yq σ d kn) 4 w)) (nq σ) 0)) (max 0 (onS (Yq σ d kn) (nq σ) x - thS (σ 3) (Yq σ d kn) x)) = some ((fwO (dsL ((Yq σ d kn) 4) (ilF (fun w => decide ((Yq σ d kn) 1 w = 1 ∧ (Yq σ d kn) 3 w = x ∧ 0 < (Yq σ d kn) 4 w)) (nq σ) 0)) (max 0 (onS (Yq σ d kn) (nq σ) x - thS (σ 3) (Yq σ d kn) x))).getD 0) ∧ ((fwO (dsL ((Yq σ d kn) 4) (ilF (fun w => decide ((Yq σ d kn) 1 w = 1 ∧ (Yq σ d kn) 3 w = x ∧ 0 < (Yq σ d kn) 4 w)) (nq σ) 0)) (max 0 (onS (Yq σ d kn) (nq σ) x - thS (σ 3) (Yq σ d kn) x))).getD 0) ≤ 120 := by
  obtain ⟨k, h1, h2⟩ := db_k hR (d := d) (kn := kn) hx
  rw [h1]
  exact ⟨rfl, h2⟩
theorem c_X0_at {i : Int} {T : List Int} (hi : rgi i) (hc : σ 71 2 = T.length) (h120 : T.length ≤ 120) (hT : RepL (σ 73) T) (h1 : i ≠ -1) : CI l G M_X0_at 0 [vr 71, vi i] σ (IP (dbZ T i) σ) := by
  refine Ct.of rfl (Nat.le_of_ble_eq_true rfl) ?_
  refine x_iload_n (E_X0_at_0 0 rfl) rfl ?_
  refine x_if_lt (E_X0_at_0 1 rfl) (by omega) (fun c1 => ?_) (fun c1 => ?_)
  · refine x_iconst (E_X0_at_0 11 rfl) ?_
    refine z_iret (E_X0_at_0 12 rfl) trivial ?_
    exact ⟨by unfold dbZ; rw [if_neg h1, if_neg (by omega)], rfl⟩
  · refine x_iload_n (E_X0_at_0 2 rfl) rfl ?_
    refine x_aload_n (E_X0_at_0 3 rfl) rfl ?_
    refine x_getIe (v := σ 71 2) (E_X0_at_0 4 rfl) fl_X0_18 rfl (by decide) rfl ?_
    refine x_icmp_ge (E_X0_at_0 5 rfl) (by omega) (by omega) (fun c2 => ?_) (fun c2 => ?_)
    · refine x_iconst (E_X0_at_0 11 rfl) ?_
      refine z_iret (E_X0_at_0 12 rfl) trivial ?_
      exact ⟨by unfold dbZ; rw [if_neg h1, if_neg (by omega)], rfl⟩
    · have r9 := hT.at (k := i.toNat) (by omega)
      rw [show ((i.toNat : Nat) : Int) = i by omega] at r9
      refine x_aload_n (E_X0_at_0 6 rfl) rfl ?_
      refine x_getR (E_X0_at_0 7 rfl) fl_X0_15 rfl (by decide) rfl ?_
      refine x_iload_n (E_X0_at_0 8 rfl) rfl ?_
      refine x_ialde (f := σ 73) (E_X0_at_0 9 rfl) rfl (by decide) (by omega) rfl ?_
      refine x_goto (E_X0_at_0 10 rfl) ?_
      refine z_iret (E_X0_at_0 12 rfl) trivial ?_
      exact ⟨by unfold dbZ; rw [if_neg h1, if_pos (by omega), r9], rfl⟩
set_option maxHeartbeats 1000000 in
theorem c_X10_doubt {x d kn i : Int} (hR : RR σ) (q1 : rgi x) (q2 : rgi d) (q3 : rgi kn) (q4 : rgi i) : CI l G M_X10_doubt 6 [vr 0, vi x, vi d, vi kn, vi i] σ (fun z υ => (¬ (0 ≤ x ∧ x < σ 1 5) ∧ z = -1001 ∧ υ = σ) ∨ ((0 ≤ x ∧ x < σ 1 5) ∧ ¬ ((0 ≤ d ∧ d ≤ 2000) ∧ 0 ≤ kn ∧ kn ≤ σ 0 0) ∧ z = -1002 ∧ υ = σ) ∨ ((0 ≤ x ∧ x < σ 1 5) ∧ ((0 ≤ d ∧ d ≤ 2000) ∧ 0 ≤ kn ∧ kn ≤ σ 0 0) ∧ z = dbZ (dbS ((Yq σ d kn) 4) (ilF (fun w => decide ((Yq σ d kn) 1 w = 1 ∧ (Yq σ d kn) 3 w = x ∧ 0 < (Yq σ d kn) 4 w)) (nq σ) 0) (max 0 (onS (Yq σ d kn) (nq σ) x - thS (σ 3) (Yq σ d kn) x)) ((fwO (dsL ((Yq σ d kn) 4) (ilF (fun w => decide ((Yq σ d kn) 1 w = 1 ∧ (Yq σ d kn) 3 w = x ∧ 0 < (Yq σ d kn) 4 w)) (nq σ) 0)) (max 0 (onS (Yq σ d kn) (nq σ) x - thS (σ 3) (Yq σ d kn) x))).getD 0)) i ∧ Sc σ υ ∧ RR υ)) := by
  have now := hR.now
  have nl12 := hR.lots
  have n120 := hR.n9
  refine Ct.of rfl (Nat.le_of_ble_eq_true rfl) ?_
  refine x_aload_n (E_X10_doubt_0 0 rfl) rfl ?_
  refine x_getR (E_X10_doubt_0 1 rfl) fl_X10_16 rfl (by decide) rfl ?_
  refine x_iload_n (E_X10_doubt_0 2 rfl) rfl ?_
  refine z_callVi (E_X10_doubt_0 3 rfl) ml_X10_121 mv_X3_has rfl (by decide) (by decide) (c_X3_has q1 nl12) (by decide) rfl rfl (Nat.le_of_ble_eq_true rfl) (fun z9 τ9 h9 => ?_)
  obtain ⟨rfl, ⟨rfl, c1⟩ | ⟨rfl, c1⟩⟩ := h9
  · refine x_if_ne (E_X10_doubt_0 4 rfl) (by decide) (fun _ => ?_) (fun c9 => absurd c9 (by decide))
    refine x_aload_n (E_X10_doubt_0 7 rfl) rfl ?_
    refine x_iload_n (E_X10_doubt_0 8 rfl) rfl ?_
    refine x_iload_n (E_X10_doubt_0 9 rfl) rfl ?_
    refine z_callVi (E_X10_doubt_0 10 rfl) ml_X10_235 mv_X10_isAsked rfl (by decide) (by decide) (c_X10_isAsked q2 q3 now) (by decide) rfl rfl (Nat.le_of_ble_eq_true rfl) (fun z9 τ9 h9 => ?_)
    obtain ⟨rfl, ⟨rfl, c2⟩ | ⟨rfl, c2⟩⟩ := h9
    · refine x_if_ne (E_X10_doubt_0 11 rfl) (by decide) (fun _ => ?_) (fun c9 => absurd c9 (by decide))
      refine x_aload_n (E_X10_doubt_0 14 rfl) rfl ?_
      refine x_getR (E_X10_doubt_0 15 rfl) fl_X10_46 rfl (by decide) rfl ?_
      refine x_iload_n (E_X10_doubt_0 16 rfl) rfl ?_
      refine x_iload_n (E_X10_doubt_0 17 rfl) rfl ?_
      refine z_callVv (E_X10_doubt_0 18 rfl) ml_X10_174 mv_X7_tell rfl (by decide) (by decide) (tC hR q2 q3) (by decide) rfl rfl (Nat.le_of_ble_eq_true rfl) (fun τ9 h9 => ?_)
      have e79 : τ9 7 9 = σ 7 9 := h9.sc.2 (7, 9) (by decide)
      have hx : 0 ≤ x ∧ x < σ 1 5 := by omega
      have kz := db_kz hR (d := d) (kn := kn) hx
      have tl : (dbS ((Yq σ d kn) 4) (ilF (fun w => decide ((Yq σ d kn) 1 w = 1 ∧ (Yq σ d kn) 3 w = x ∧ 0 < (Yq σ d kn) 4 w)) (nq σ) 0) (max 0 (onS (Yq σ d kn) (nq σ) x - thS (σ 3) (Yq σ d kn) x)) ((fwO (dsL ((Yq σ d kn) 4) (ilF (fun w => decide ((Yq σ d kn) 1 w = 1 ∧ (Yq σ d kn) 3 w = x ∧ 0 < (Yq σ d kn) 4 w)) (nq σ) 0)) (max 0 (onS (Yq σ d kn) (nq σ) x - thS (σ 3) (Yq σ d kn) x))).getD 0)).length = ((fwO (dsL ((Yq σ d kn) 4) (ilF (fun w => decide ((Yq σ d kn) 1 w = 1 ∧ (Yq σ d kn) 3 w = x ∧ 0 < (Yq σ d kn) 4 w)) (nq σ) 0)) (max 0 (onS (Yq σ d kn) (nq σ) x - thS (σ 3) (Yq σ d kn) x))).getD 0) := dbS_len (db_c hR) kz.1
      refine x_aload_n (E_X10_doubt_0 19 rfl) rfl ?_
      refine x_getR (E_X10_doubt_0 20 rfl) fl_X10_56 rfl (by decide) rfl ?_
      refine x_aload_n (E_X10_doubt_0 21 rfl) rfl ?_
      refine x_getR (E_X10_doubt_0 22 rfl) fl_X10_46 rfl (by decide) rfl ?_
      refine x_aload_n (E_X10_doubt_0 23 rfl) rfl ?_
      refine x_getR (E_X10_doubt_0 24 rfl) fl_X10_23 rfl (by decide) rfl ?_
      refine x_getIe (v := τ9 7 9) (E_X10_doubt_0 25 rfl) fl_X10_140 rfl (by decide) rfl ?_
      refine x_iload_n (E_X10_doubt_0 26 rfl) rfl ?_
      rw [e79]
      refine z_callVv (E_X10_doubt_0 27 rfl) ml_X10_281 mv_X0_find rfl (by decide) (by decide) (c_X0_find hR h9 hx kz) (by decide) rfl rfl (Nat.le_of_ble_eq_true rfl) (fun τ8 h8 => ?_)
      obtain ⟨f1, f2, hF⟩ := h8
      have s8 : Sd τ9 τ8 := ⟨⟨List.forall_mem_cons.mpr ⟨hF 2 (by decide), List.forall_mem_cons.mpr ⟨hF 3 (by decide), List.forall_mem_cons.mpr ⟨hF 4 (by decide), List.forall_mem_cons.mpr ⟨hF 5 (by decide), List.forall_mem_cons.mpr ⟨hF 6 (by decide), List.forall_mem_cons.mpr ⟨hF 115 (by decide), List.forall_mem_cons.mpr ⟨hF 116 (by decide), List.forall_mem_cons.mpr ⟨hF 117 (by decide), List.forall_mem_cons.mpr ⟨hF 119 (by decide), List.forall_mem_cons.mpr ⟨hF 120 (by decide), List.forall_mem_cons.mpr ⟨hF 105 (by decide), List.forall_mem_cons.mpr ⟨hF 121 (by decide), List.forall_mem_cons.mpr ⟨hF 8 (by decide), List.forall_mem_cons.mpr ⟨hF 9 (by decide), List.forall_mem_cons.mpr ⟨hF 10 (by decide), List.forall_mem_cons.mpr ⟨hF 11 (by decide), List.forall_mem_cons.mpr ⟨hF 12 (by decide), List.forall_mem_cons.mpr ⟨hF 13 (by decide), List.forall_mem_cons.mpr ⟨hF 14 (by decide), List.forall_mem_cons.mpr ⟨hF 122 (by decide), List.forall_mem_cons.mpr ⟨hF 123 (by decide), List.forall_mem_cons.mpr ⟨hF 124 (by decide), List.forall_mem_cons.mpr ⟨hF 125 (by decide), List.forall_mem_cons.mpr ⟨hF 126 (by decide), List.forall_mem_cons.mpr ⟨hF 127 (by decide), List.forall_mem_cons.mpr ⟨hF 128 (by decide), List.forall_mem_cons.mpr ⟨hF 15 (by decide), List.forall_mem_cons.mpr ⟨hF 18 (by decide), List.forall_mem_cons.mpr ⟨hF 19 (by decide), List.forall_mem_cons.mpr ⟨hF 133 (by decide), List.forall_mem_cons.mpr ⟨hF 134 (by decide), List.forall_mem_cons.mpr ⟨hF 21 (by decide), List.forall_mem_cons.mpr ⟨hF 22 (by decide), List.forall_mem_cons.mpr ⟨hF 23 (by decide), List.forall_mem_cons.mpr ⟨hF 24 (by decide), List.forall_mem_cons.mpr ⟨hF 25 (by decide), List.forall_mem_cons.mpr ⟨hF 26 (by decide), List.forall_mem_cons.mpr ⟨hF 27 (by decide), List.forall_mem_cons.mpr ⟨hF 28 (by decide), List.forall_mem_cons.mpr ⟨hF 30 (by decide), List.forall_mem_cons.mpr ⟨hF 31 (by decide), List.forall_mem_cons.mpr ⟨hF 32 (by decide), List.forall_mem_cons.mpr ⟨hF 33 (by decide), List.forall_mem_cons.mpr ⟨hF 34 (by decide), List.forall_mem_cons.mpr ⟨hF 35 (by decide), List.forall_mem_cons.mpr ⟨hF 36 (by decide), List.forall_mem_cons.mpr ⟨hF 37 (by decide), List.forall_mem_cons.mpr ⟨hF 135 (by decide), List.forall_mem_cons.mpr ⟨hF 136 (by decide), List.forall_mem_cons.mpr ⟨hF 137 (by decide), List.forall_mem_cons.mpr ⟨hF 38 (by decide), List.forall_mem_cons.mpr ⟨hF 42 (by decide), List.forall_mem_cons.mpr ⟨hF 138 (by decide), List.forall_mem_cons.mpr ⟨hF 75 (by decide), List.forall_mem_cons.mpr ⟨hF 76 (by decide), List.forall_mem_cons.mpr ⟨hF 77 (by decide), List.forall_mem_cons.mpr ⟨hF 78 (by decide), List.forall_mem_cons.mpr ⟨hF 155 (by decide), List.forall_mem_cons.mpr ⟨hF 156 (by decide), List.forall_mem_cons.mpr ⟨hF 157 (by decide), List.forall_mem_cons.mpr ⟨hF 158 (by decide), List.forall_mem_cons.mpr ⟨hF 80 (by decide), List.forall_mem_cons.mpr ⟨hF 81 (by decide), List.forall_mem_cons.mpr ⟨hF 82 (by decide), List.forall_mem_cons.mpr ⟨hF 83 (by decide), List.forall_mem_cons.mpr ⟨hF 84 (by decide), List.forall_mem_cons.mpr ⟨hF 85 (by decide), List.forall_mem_cons.mpr ⟨hF 86 (by decide), List.forall_mem_cons.mpr ⟨hF 87 (by decide), List.forall_mem_cons.mpr ⟨hF 159 (by decide), List.forall_mem_cons.mpr ⟨hF 89 (by decide), List.forall_mem_cons.mpr ⟨hF 90 (by decide), List.forall_mem_cons.mpr ⟨hF 91 (by decide), List.forall_mem_cons.mpr ⟨hF 92 (by decide), List.forall_mem_cons.mpr ⟨hF 160 (by decide), List.forall_mem_cons.mpr ⟨hF 97 (by decide), List.forall_mem_cons.mpr ⟨hF 98 (by decide), List.forall_mem_cons.mpr ⟨hF 99 (by decide), List.forall_mem_cons.mpr ⟨hF 162 (by decide), List.forall_mem_cons.mpr ⟨hF 163 (by decide), List.forall_mem_cons.mpr ⟨hF 164 (by decide), List.forall_mem_cons.mpr ⟨hF 101 (by decide), List.forall_mem_cons.mpr ⟨hF 167 (by decide), List.forall_mem_cons.mpr ⟨hF 106 (by decide), List.forall_mem_cons.mpr ⟨hF 168 (by decide), fun _ h => nomatch h⟩⟩⟩⟩⟩⟩⟩⟩⟩⟩⟩⟩⟩⟩⟩⟩⟩⟩⟩⟩⟩⟩⟩⟩⟩⟩⟩⟩⟩⟩⟩⟩⟩⟩⟩⟩⟩⟩⟩⟩⟩⟩⟩⟩⟩⟩⟩⟩⟩⟩⟩⟩⟩⟩⟩⟩⟩⟩⟩⟩⟩⟩⟩⟩⟩⟩⟩⟩⟩⟩⟩⟩⟩⟩⟩⟩⟩⟩⟩⟩⟩⟩⟩⟩⟩, List.forall_mem_cons.mpr ⟨congrFun (hF 0 (by decide)) 0, List.forall_mem_cons.mpr ⟨congrFun (hF 114 (by decide)) 0, List.forall_mem_cons.mpr ⟨congrFun (hF 1 (by decide)) 5, List.forall_mem_cons.mpr ⟨congrFun (hF 114 (by decide)) 1, List.forall_mem_cons.mpr ⟨congrFun (hF 7 (by decide)) 9, List.forall_mem_cons.mpr ⟨congrFun (hF 114 (by decide)) 9, List.forall_mem_cons.mpr ⟨congrFun (hF 17 (by decide)) 8, List.forall_mem_cons.mpr ⟨congrFun (hF 114 (by decide)) 22, List.forall_mem_cons.mpr ⟨congrFun (hF 41 (by decide)) 1, List.forall_mem_cons.mpr ⟨congrFun (hF 114 (by decide)) 29, List.forall_mem_cons.mpr ⟨congrFun (hF 41 (by decide)) 6, List.forall_mem_cons.mpr ⟨congrFun (hF 114 (by decide)) 32, List.forall_mem_cons.mpr ⟨congrFun (hF 74 (by decide)) 4, List.forall_mem_cons.mpr ⟨congrFun (hF 114 (by decide)) 54, List.forall_mem_cons.mpr ⟨congrFun (hF 88 (by decide)) 7, List.forall_mem_cons.mpr ⟨congrFun (hF 114 (by decide)) 60, List.forall_mem_cons.mpr ⟨congrFun (hF 96 (by decide)) 4, List.forall_mem_cons.mpr ⟨congrFun (hF 114 (by decide)) 63, fun _ h => nomatch h⟩⟩⟩⟩⟩⟩⟩⟩⟩⟩⟩⟩⟩⟩⟩⟩⟩⟩⟩, congrFun (hF 17 (by decide)) 7, hF 40 (by decide)⟩
      refine x_iload (E_X10_doubt_0 28 rfl) rfl ?_
      refine x_iconst (E_X10_doubt_0 29 rfl) ?_
      refine x_icmp_ne (E_X10_doubt_0 30 rfl) (by omega) (by decide) (fun c3 => ?_) (fun c3 => ?_)
      · refine x_aload_n (E_X10_doubt_0 35 rfl) rfl ?_
        refine x_getR (E_X10_doubt_0 36 rfl) fl_X10_56 rfl (by decide) rfl ?_
        refine x_iload (E_X10_doubt_0 37 rfl) rfl ?_
        refine z_callVi (E_X10_doubt_0 38 rfl) ml_X10_286 mv_X0_at rfl (by decide) (by decide) (c_X0_at q4 f1 (by omega) f2 (by omega)) (by decide) rfl rfl (Nat.le_of_ble_eq_true rfl) (fun v7 τ7 k7 => ?_)
        obtain ⟨z7, rfl⟩ := k7
        refine z_iret (E_X10_doubt_0 39 rfl) trivial ?_
        exact Or.inr (Or.inr ⟨by omega, by omega, z7, h9.sc.trans s8.1, s8.rr (h9.rr hR)⟩)
      · refine x_aload_n (E_X10_doubt_0 31 rfl) rfl ?_
        refine x_getR (E_X10_doubt_0 32 rfl) fl_X10_56 rfl (by decide) rfl ?_
        refine x_getIe (v := τ8 71 2) (E_X10_doubt_0 33 rfl) fl_X10_285 rfl (by decide) rfl ?_
        refine x_goto (E_X10_doubt_0 34 rfl) ?_
        refine z_iret (E_X10_doubt_0 39 rfl) trivial ?_
        exact Or.inr (Or.inr ⟨by omega, by omega, f1.trans (by unfold dbZ; rw [if_pos (by omega)]), h9.sc.trans s8.1, s8.rr (h9.rr hR)⟩)
    · refine x_if_ne (E_X10_doubt_0 11 rfl) (by decide) (fun c9 => absurd c9 (by decide)) (fun _ => ?_)
      refine x_sipush (z := (-1002)) (E_X10_doubt_0 12 rfl) (by decide) ?_
      refine z_iret (E_X10_doubt_0 13 rfl) trivial ?_
      exact Or.inr (Or.inl ⟨by omega, by omega, rfl, rfl⟩)
  · refine x_if_ne (E_X10_doubt_0 4 rfl) (by decide) (fun c9 => absurd c9 (by decide)) (fun _ => ?_)
    refine x_sipush (z := (-1001)) (E_X10_doubt_0 5 rfl) (by decide) ?_
    refine z_iret (E_X10_doubt_0 6 rfl) trivial ?_
    exact Or.inl ⟨by omega, rfl, rfl⟩
theorem dbS_mem {c : Int → Int} : ∀ {S : List Int} {v : Int} {k : Nat} {z : Int}, z ∈ dbS c S v k → z ∈ S
  | [], v, k, z, h => h
  | w :: S, v, k, z, h => by
    have h : z ∈ (if k = 0 then [] else if fwO (dsL c S) (v - c w) = some (k - 1) then w :: dbS c S (v - c w) (k - 1) else dbS c S v k) := h
    split at h
    · cases h
    · split at h
      · rcases List.mem_cons.mp h with e | e
        · rw [e]; exact List.mem_cons_self
        · exact List.mem_cons_of_mem _ (dbS_mem e)
      · exact List.mem_cons_of_mem _ (dbS_mem h)
theorem dbZ_rg {T : List Int} {i : Int} (h : T.length ≤ 120) (hm : ∀ z ∈ T, 0 ≤ z ∧ z < 120) : rgi (dbZ T i) := by
  unfold dbZ
  split
  · omega
  · split
    · rename_i c
      have := hm _ (getD_mem (L := T) (k := i.toNat) (by omega))
      omega
    · omega

set_option maxHeartbeats 2000000 in
theorem c_X11_doubt {x d kn i : Int} (hR : RR σ) (sc : Sc σ τ) (q1 : rgi x) (q2 : rgi d) (q3 : rgi kn) (q4 : rgi i) : CI l G M_X11_doubt 4 [vr 114, vi x, vi d, vi kn, vi i] τ (fun z υ => (¬ (0 ≤ x ∧ x < σ 1 5) ∧ z = -1001 ∧ υ = τ) ∨ ((0 ≤ x ∧ x < σ 1 5) ∧ ¬ ((0 ≤ d ∧ d ≤ 2000) ∧ 0 ≤ kn ∧ kn ≤ σ 0 0) ∧ z = -1002 ∧ υ = τ) ∨ ((0 ≤ x ∧ x < σ 1 5) ∧ ((0 ≤ d ∧ d ≤ 2000) ∧ 0 ≤ kn ∧ kn ≤ σ 0 0) ∧ z = dbZ (dbS ((Yq σ d kn) 4) (ilF (fun w => decide ((Yq σ d kn) 1 w = 1 ∧ (Yq σ d kn) 3 w = x ∧ 0 < (Yq σ d kn) 4 w)) (nq σ) 0) (max 0 (onS (Yq σ d kn) (nq σ) x - thS (σ 3) (Yq σ d kn) x)) ((fwO (dsL ((Yq σ d kn) 4) (ilF (fun w => decide ((Yq σ d kn) 1 w = 1 ∧ (Yq σ d kn) 3 w = x ∧ 0 < (Yq σ d kn) 4 w)) (nq σ) 0)) (max 0 (onS (Yq σ d kn) (nq σ) x - thS (σ 3) (Yq σ d kn) x))).getD 0)) i ∧ Sd τ υ)) := by
  have f0 : τ 114 0 = σ 0 0 := (sc.2 (114, 0) (by decide)).trans hR.1.1
  have f1 : τ 114 1 = σ 1 5 := (sc.2 (114, 1) (by decide)).trans hR.2.1.1
  have f9 : τ 114 9 = σ 7 9 := (sc.2 (114, 9) (by decide)).trans hR.2.2.2.1.1
  have f122 : τ 122 = σ 8 := (sc.1 122 (by decide)).trans hR.2.2.2.1.2.2.1.1
  have now := hR.now
  have nl12 := hR.lots
  have n120 := hR.n9
  have hy : YOk (nq σ) (σ 1 5) (σ 3) (Yq σ d kn) := hR.yok
  have hc := db_c hR (d := d) (kn := kn) (x := x)
  have il : ((ilF (fun w => decide ((Yq σ d kn) 1 w = 1 ∧ (Yq σ d kn) 3 w = x ∧ 0 < (Yq σ d kn) 4 w)) (nq σ) 0)).length ≤ nq σ := ilF_len
  refine Ct.of rfl (Nat.le_of_ble_eq_true rfl) ?_
  have main : ∀ (υ ρ : Nat → Int → Int), (0 ≤ x ∧ x < σ 1 5) → ((0 ≤ d ∧ d ≤ 2000) ∧ 0 ≤ kn ∧ kn ≤ σ 0 0) → TmP σ d kn τ υ → SM (nq σ) (σ 1 5) ρ = (Yq σ d kn) → Fr [114, 152] υ ρ → Fo 114 [51] υ ρ → RepL (ρ 152) (ilF (fun w => decide ((Yq σ d kn) 1 w = 1 ∧ (Yq σ d kn) 3 w = x ∧ 0 < (Yq σ d kn) 4 w)) (nq σ) 0) → ρ 114 51 = ((ilF (fun w => decide ((Yq σ d kn) 1 w = 1 ∧ (Yq σ d kn) 3 w = x ∧ 0 < (Yq σ d kn) 4 w)) (nq σ) 0)).length → ∀ (t : Nat) (n0 : Nat) (left told at0 n : Int) (A : List Int) (kk : Nat), kk = t → (n0 : Int) = at0 → n0 ≤ ((ilF (fun w => decide ((Yq σ d kn) 1 w = 1 ∧ (Yq σ d kn) 3 w = x ∧ 0 < (Yq σ d kn) 4 w)) (nq σ) 0)).length → A.length = n → n + kk = (((fwO (dsL ((Yq σ d kn) 4) (ilF (fun w => decide ((Yq σ d kn) 1 w = 1 ∧ (Yq σ d kn) 3 w = x ∧ 0 < (Yq σ d kn) 4 w)) (nq σ) 0)) (max 0 (onS (Yq σ d kn) (nq σ) x - thS (σ 3) (Yq σ d kn) x))).getD 0) : Nat) → (-40000 ≤ left ∧ left ≤ 40000) → fwO (dsL ((Yq σ d kn) 4) (((ilF (fun w => decide ((Yq σ d kn) 1 w = 1 ∧ (Yq σ d kn) 3 w = x ∧ 0 < (Yq σ d kn) 4 w)) (nq σ) 0)).drop n0)) left = some kk → A ++ dbS ((Yq σ d kn) 4) (((ilF (fun w => decide ((Yq σ d kn) 1 w = 1 ∧ (Yq σ d kn) 3 w = x ∧ 0 < (Yq σ d kn) 4 w)) (nq σ) 0)).drop n0) left kk = (dbS ((Yq σ d kn) 4) (ilF (fun w => decide ((Yq σ d kn) 1 w = 1 ∧ (Yq σ d kn) 3 w = x ∧ 0 < (Yq σ d kn) 4 w)) (nq σ) 0) (max 0 (onS (Yq σ d kn) (nq σ) x - thS (σ 3) (Yq σ d kn) x)) ((fwO (dsL ((Yq σ d kn) 4) (ilF (fun w => decide ((Yq σ d kn) 1 w = 1 ∧ (Yq σ d kn) 3 w = x ∧ 0 < (Yq σ d kn) 4 w)) (nq σ) 0)) (max 0 (onS (Yq σ d kn) (nq σ) x - thS (σ 3) (Yq σ d kn) x))).getD 0)) → told = (if 0 ≤ i ∧ i < A.length then A.getD i.toNat 0 else -1) → XI l G M_X11_doubt 4 137 [some (vr 114), some (vi x), some (vi d), some (vi kn), some (vi i), some (vi left), some (vi ((((fwO (dsL ((Yq σ d kn) 4) (ilF (fun w => decide ((Yq σ d kn) 1 w = 1 ∧ (Yq σ d kn) 3 w = x ∧ 0 < (Yq σ d kn) 4 w)) (nq σ) 0)) (max 0 (onS (Yq σ d kn) (nq σ) x - thS (σ 3) (Yq σ d kn) x))).getD 0) : Nat) : Int)), some (vi told), some (vi at0), some (vi n)] [] ρ (fun z υ => (¬ (0 ≤ x ∧ x < σ 1 5) ∧ z = -1001 ∧ υ = τ) ∨ ((0 ≤ x ∧ x < σ 1 5) ∧ ¬ ((0 ≤ d ∧ d ≤ 2000) ∧ 0 ≤ kn ∧ kn ≤ σ 0 0) ∧ z = -1002 ∧ υ = τ) ∨ ((0 ≤ x ∧ x < σ 1 5) ∧ ((0 ≤ d ∧ d ≤ 2000) ∧ 0 ≤ kn ∧ kn ≤ σ 0 0) ∧ z = dbZ (dbS ((Yq σ d kn) 4) (ilF (fun w => decide ((Yq σ d kn) 1 w = 1 ∧ (Yq σ d kn) 3 w = x ∧ 0 < (Yq σ d kn) 4 w)) (nq σ) 0) (max 0 (onS (Yq σ d kn) (nq σ) x - thS (σ 3) (Yq σ d kn) x)) ((fwO (dsL ((Yq σ d kn) 4) (ilF (fun w => decide ((Yq σ d kn) 1 w = 1 ∧ (Yq σ d kn) 3 w = x ∧ 0 < (Yq σ d kn) 4 w)) (nq σ) 0)) (max 0 (onS (Yq σ d kn) (nq σ) x - thS (σ 3) (Yq σ d kn) x))).getD 0)) i ∧ Sd τ υ)) := by
    intro υ ρ a1 a2 h9 sm hF hO hrep hN t
    have kz := db_kz hR (d := d) (kn := kn) a1
    have sd : Sd τ ρ := h9.sd.trans ⟨⟨List.forall_mem_cons.mpr ⟨hF 2 (by decide), List.forall_mem_cons.mpr ⟨hF 3 (by decide), List.forall_mem_cons.mpr ⟨hF 4 (by decide), List.forall_mem_cons.mpr ⟨hF 5 (by decide), List.forall_mem_cons.mpr ⟨hF 6 (by decide), List.forall_mem_cons.mpr ⟨hF 115 (by decide), List.forall_mem_cons.mpr ⟨hF 116 (by decide), List.forall_mem_cons.mpr ⟨hF 117 (by decide), List.forall_mem_cons.mpr ⟨hF 119 (by decide), List.forall_mem_cons.mpr ⟨hF 120 (by decide), List.forall_mem_cons.mpr ⟨hF 105 (by decide), List.forall_mem_cons.mpr ⟨hF 121 (by decide), List.forall_mem_cons.mpr ⟨hF 8 (by decide), List.forall_mem_cons.mpr ⟨hF 9 (by decide), List.forall_mem_cons.mpr ⟨hF 10 (by decide), List.forall_mem_cons.mpr ⟨hF 11 (by decide), List.forall_mem_cons.mpr ⟨hF 12 (by decide), List.forall_mem_cons.mpr ⟨hF 13 (by decide), List.forall_mem_cons.mpr ⟨hF 14 (by decide), List.forall_mem_cons.mpr ⟨hF 122 (by decide), List.forall_mem_cons.mpr ⟨hF 123 (by decide), List.forall_mem_cons.mpr ⟨hF 124 (by decide), List.forall_mem_cons.mpr ⟨hF 125 (by decide), List.forall_mem_cons.mpr ⟨hF 126 (by decide), List.forall_mem_cons.mpr ⟨hF 127 (by decide), List.forall_mem_cons.mpr ⟨hF 128 (by decide), List.forall_mem_cons.mpr ⟨hF 15 (by decide), List.forall_mem_cons.mpr ⟨hF 18 (by decide), List.forall_mem_cons.mpr ⟨hF 19 (by decide), List.forall_mem_cons.mpr ⟨hF 133 (by decide), List.forall_mem_cons.mpr ⟨hF 134 (by decide), List.forall_mem_cons.mpr ⟨hF 21 (by decide), List.forall_mem_cons.mpr ⟨hF 22 (by decide), List.forall_mem_cons.mpr ⟨hF 23 (by decide), List.forall_mem_cons.mpr ⟨hF 24 (by decide), List.forall_mem_cons.mpr ⟨hF 25 (by decide), List.forall_mem_cons.mpr ⟨hF 26 (by decide), List.forall_mem_cons.mpr ⟨hF 27 (by decide), List.forall_mem_cons.mpr ⟨hF 28 (by decide), List.forall_mem_cons.mpr ⟨hF 30 (by decide), List.forall_mem_cons.mpr ⟨hF 31 (by decide), List.forall_mem_cons.mpr ⟨hF 32 (by decide), List.forall_mem_cons.mpr ⟨hF 33 (by decide), List.forall_mem_cons.mpr ⟨hF 34 (by decide), List.forall_mem_cons.mpr ⟨hF 35 (by decide), List.forall_mem_cons.mpr ⟨hF 36 (by decide), List.forall_mem_cons.mpr ⟨hF 37 (by decide), List.forall_mem_cons.mpr ⟨hF 135 (by decide), List.forall_mem_cons.mpr ⟨hF 136 (by decide), List.forall_mem_cons.mpr ⟨hF 137 (by decide), List.forall_mem_cons.mpr ⟨hF 38 (by decide), List.forall_mem_cons.mpr ⟨hF 42 (by decide), List.forall_mem_cons.mpr ⟨hF 138 (by decide), List.forall_mem_cons.mpr ⟨hF 75 (by decide), List.forall_mem_cons.mpr ⟨hF 76 (by decide), List.forall_mem_cons.mpr ⟨hF 77 (by decide), List.forall_mem_cons.mpr ⟨hF 78 (by decide), List.forall_mem_cons.mpr ⟨hF 155 (by decide), List.forall_mem_cons.mpr ⟨hF 156 (by decide), List.forall_mem_cons.mpr ⟨hF 157 (by decide), List.forall_mem_cons.mpr ⟨hF 158 (by decide), List.forall_mem_cons.mpr ⟨hF 80 (by decide), List.forall_mem_cons.mpr ⟨hF 81 (by decide), List.forall_mem_cons.mpr ⟨hF 82 (by decide), List.forall_mem_cons.mpr ⟨hF 83 (by decide), List.forall_mem_cons.mpr ⟨hF 84 (by decide), List.forall_mem_cons.mpr ⟨hF 85 (by decide), List.forall_mem_cons.mpr ⟨hF 86 (by decide), List.forall_mem_cons.mpr ⟨hF 87 (by decide), List.forall_mem_cons.mpr ⟨hF 159 (by decide), List.forall_mem_cons.mpr ⟨hF 89 (by decide), List.forall_mem_cons.mpr ⟨hF 90 (by decide), List.forall_mem_cons.mpr ⟨hF 91 (by decide), List.forall_mem_cons.mpr ⟨hF 92 (by decide), List.forall_mem_cons.mpr ⟨hF 160 (by decide), List.forall_mem_cons.mpr ⟨hF 97 (by decide), List.forall_mem_cons.mpr ⟨hF 98 (by decide), List.forall_mem_cons.mpr ⟨hF 99 (by decide), List.forall_mem_cons.mpr ⟨hF 162 (by decide), List.forall_mem_cons.mpr ⟨hF 163 (by decide), List.forall_mem_cons.mpr ⟨hF 164 (by decide), List.forall_mem_cons.mpr ⟨hF 101 (by decide), List.forall_mem_cons.mpr ⟨hF 167 (by decide), List.forall_mem_cons.mpr ⟨hF 106 (by decide), List.forall_mem_cons.mpr ⟨hF 168 (by decide), fun _ h => nomatch h⟩⟩⟩⟩⟩⟩⟩⟩⟩⟩⟩⟩⟩⟩⟩⟩⟩⟩⟩⟩⟩⟩⟩⟩⟩⟩⟩⟩⟩⟩⟩⟩⟩⟩⟩⟩⟩⟩⟩⟩⟩⟩⟩⟩⟩⟩⟩⟩⟩⟩⟩⟩⟩⟩⟩⟩⟩⟩⟩⟩⟩⟩⟩⟩⟩⟩⟩⟩⟩⟩⟩⟩⟩⟩⟩⟩⟩⟩⟩⟩⟩⟩⟩⟩⟩, List.forall_mem_cons.mpr ⟨congrFun (hF 0 (by decide)) 0, List.forall_mem_cons.mpr ⟨hO 0 (by decide), List.forall_mem_cons.mpr ⟨congrFun (hF 1 (by decide)) 5, List.forall_mem_cons.mpr ⟨hO 1 (by decide), List.forall_mem_cons.mpr ⟨congrFun (hF 7 (by decide)) 9, List.forall_mem_cons.mpr ⟨hO 9 (by decide), List.forall_mem_cons.mpr ⟨congrFun (hF 17 (by decide)) 8, List.forall_mem_cons.mpr ⟨hO 22 (by decide), List.forall_mem_cons.mpr ⟨congrFun (hF 41 (by decide)) 1, List.forall_mem_cons.mpr ⟨hO 29 (by decide), List.forall_mem_cons.mpr ⟨congrFun (hF 41 (by decide)) 6, List.forall_mem_cons.mpr ⟨hO 32 (by decide), List.forall_mem_cons.mpr ⟨congrFun (hF 74 (by decide)) 4, List.forall_mem_cons.mpr ⟨hO 54 (by decide), List.forall_mem_cons.mpr ⟨congrFun (hF 88 (by decide)) 7, List.forall_mem_cons.mpr ⟨hO 60 (by decide), List.forall_mem_cons.mpr ⟨congrFun (hF 96 (by decide)) 4, List.forall_mem_cons.mpr ⟨hO 63 (by decide), fun _ h => nomatch h⟩⟩⟩⟩⟩⟩⟩⟩⟩⟩⟩⟩⟩⟩⟩⟩⟩⟩⟩, congrFun (hF 17 (by decide)) 7, hF 40 (by decide)⟩
    have hm : ∀ w ∈ (ilF (fun w => decide ((Yq σ d kn) 1 w = 1 ∧ (Yq σ d kn) 3 w = x ∧ 0 < (Yq σ d kn) 4 w)) (nq σ) 0), (0 ≤ w ∧ w < 120) ∧ (1 ≤ ((Yq σ d kn) 4) w ∧ ((Yq σ d kn) 4) w ≤ 200) ∧ ρ 144 w = ((Yq σ d kn) 4) w := fun w hw => by
      have m := ilF_mem hw
      have p := of_decide_eq_true m.2
      have r4 := (StG_rd (show SM (nq σ) (σ 1 5) ρ 1 w = 1 by rw [sm]; exact p.1)).2.2.2.1
      have q := sm
      unfold SM at q
      rw [q] at r4
      exact ⟨by omega, hc w hw, r4.symm⟩
    induction t using Nat.strongRecOn with
    | _ t ih =>
    intro n0 left told at0 n A kk hkt hn0 hn1 hAl hnk hl hfw hA htold
    have wh : ∀ (q : Nat) (n0 : Nat) (at0 : Int), n0 + q = ((ilF (fun w => decide ((Yq σ d kn) 1 w = 1 ∧ (Yq σ d kn) 3 w = x ∧ 0 < (Yq σ d kn) 4 w)) (nq σ) 0)).length → (n0 : Int) = at0 → 1 ≤ kk → fwO (dsL ((Yq σ d kn) 4) (((ilF (fun w => decide ((Yq σ d kn) 1 w = 1 ∧ (Yq σ d kn) 3 w = x ∧ 0 < (Yq σ d kn) 4 w)) (nq σ) 0)).drop n0)) left = some kk → A ++ dbS ((Yq σ d kn) 4) (((ilF (fun w => decide ((Yq σ d kn) 1 w = 1 ∧ (Yq σ d kn) 3 w = x ∧ 0 < (Yq σ d kn) 4 w)) (nq σ) 0)).drop n0) left kk = (dbS ((Yq σ d kn) 4) (ilF (fun w => decide ((Yq σ d kn) 1 w = 1 ∧ (Yq σ d kn) 3 w = x ∧ 0 < (Yq σ d kn) 4 w)) (nq σ) 0) (max 0 (onS (Yq σ d kn) (nq σ) x - thS (σ 3) (Yq σ d kn) x)) ((fwO (dsL ((Yq σ d kn) 4) (ilF (fun w => decide ((Yq σ d kn) 1 w = 1 ∧ (Yq σ d kn) 3 w = x ∧ 0 < (Yq σ d kn) 4 w)) (nq σ) 0)) (max 0 (onS (Yq σ d kn) (nq σ) x - thS (σ 3) (Yq σ d kn) x))).getD 0)) → XI l G M_X11_doubt 4 144 [some (vr 114), some (vi x), some (vi d), some (vi kn), some (vi i), some (vi left), some (vi ((((fwO (dsL ((Yq σ d kn) 4) (ilF (fun w => decide ((Yq σ d kn) 1 w = 1 ∧ (Yq σ d kn) 3 w = x ∧ 0 < (Yq σ d kn) 4 w)) (nq σ) 0)) (max 0 (onS (Yq σ d kn) (nq σ) x - thS (σ 3) (Yq σ d kn) x))).getD 0) : Nat) : Int)), some (vi told), some (vi at0), some (vi n)] [] ρ (fun z υ => (¬ (0 ≤ x ∧ x < σ 1 5) ∧ z = -1001 ∧ υ = τ) ∨ ((0 ≤ x ∧ x < σ 1 5) ∧ ¬ ((0 ≤ d ∧ d ≤ 2000) ∧ 0 ≤ kn ∧ kn ≤ σ 0 0) ∧ z = -1002 ∧ υ = τ) ∨ ((0 ≤ x ∧ x < σ 1 5) ∧ ((0 ≤ d ∧ d ≤ 2000) ∧ 0 ≤ kn ∧ kn ≤ σ 0 0) ∧ z = dbZ (dbS ((Yq σ d kn) 4) (ilF (fun w => decide ((Yq σ d kn) 1 w = 1 ∧ (Yq σ d kn) 3 w = x ∧ 0 < (Yq σ d kn) 4 w)) (nq σ) 0) (max 0 (onS (Yq σ d kn) (nq σ) x - thS (σ 3) (Yq σ d kn) x)) ((fwO (dsL ((Yq σ d kn) 4) (ilF (fun w => decide ((Yq σ d kn) 1 w = 1 ∧ (Yq σ d kn) 3 w = x ∧ 0 < (Yq σ d kn) 4 w)) (nq σ) 0)) (max 0 (onS (Yq σ d kn) (nq σ) x - thS (σ 3) (Yq σ d kn) x))).getD 0)) i ∧ Sd τ υ)) := by
      intro q
      induction q using Nat.strongRecOn with
      | _ q ih2 =>
      intro n0 at0 hq hn0 hk1 hfw hA
      have lt : n0 < ((ilF (fun w => decide ((Yq σ d kn) 1 w = 1 ∧ (Yq σ d kn) 3 w = x ∧ 0 < (Yq σ d kn) 4 w)) (nq σ) 0)).length := Classical.byContradiction (fun e => by
        rw [List.drop_eq_nil_of_le (by omega), dsL_nil] at hfw
        have hfw : (if left ≤ 0 then some 0 else none) = some kk := hfw
        split at hfw
        · have := Option.some.inj hfw; omega
        · cases hfw)
      obtain ⟨w, hw⟩ : ∃ w, w = ((ilF (fun w => decide ((Yq σ d kn) 1 w = 1 ∧ (Yq σ d kn) 3 w = x ∧ 0 < (Yq σ d kn) 4 w)) (nq σ) 0))[n0] := ⟨_, rfl⟩
      have eD : ((ilF (fun w => decide ((Yq σ d kn) 1 w = 1 ∧ (Yq σ d kn) 3 w = x ∧ 0 < (Yq σ d kn) 4 w)) (nq σ) 0)).drop n0 = w :: ((ilF (fun w => decide ((Yq σ d kn) 1 w = 1 ∧ (Yq σ d kn) 3 w = x ∧ 0 < (Yq σ d kn) 4 w)) (nq σ) 0)).drop (n0 + 1) := by rw [hw]; exact List.drop_eq_getElem_cons lt
      rw [eD] at hfw hA
      have wI : ((ilF (fun w => decide ((Yq σ d kn) 1 w = 1 ∧ (Yq σ d kn) 3 w = x ∧ 0 < (Yq σ d kn) 4 w)) (nq σ) 0))[n0]? = some w := by rw [hw]; exact List.getElem?_eq_getElem lt
      have wm := hm w (List.mem_of_getElem? wI)
      have rw0 : ρ 152 at0 = w := by rw [← hn0]; exact hrep _ _ wI
      obtain ⟨k1, rfl⟩ : ∃ k1, kk = k1 + 1 := ⟨kk - 1, by omega⟩
      have st := db_step wm.2.1 hfw
      have hA : A ++ (if k1 + 1 = 0 then [] else if fwO (dsL ((Yq σ d kn) 4) (((ilF (fun w => decide ((Yq σ d kn) 1 w = 1 ∧ (Yq σ d kn) 3 w = x ∧ 0 < (Yq σ d kn) 4 w)) (nq σ) 0)).drop (n0 + 1))) (left - (Yq σ d kn) 4 w) = some (k1 + 1 - 1) then w :: dbS ((Yq σ d kn) 4) (((ilF (fun w => decide ((Yq σ d kn) 1 w = 1 ∧ (Yq σ d kn) 3 w = x ∧ 0 < (Yq σ d kn) 4 w)) (nq σ) 0)).drop (n0 + 1)) (left - (Yq σ d kn) 4 w) (k1 + 1 - 1) else dbS ((Yq σ d kn) 4) (((ilF (fun w => decide ((Yq σ d kn) 1 w = 1 ∧ (Yq σ d kn) 3 w = x ∧ 0 < (Yq σ d kn) 4 w)) (nq σ) 0)).drop (n0 + 1)) left (k1 + 1)) = (dbS ((Yq σ d kn) 4) (ilF (fun w => decide ((Yq σ d kn) 1 w = 1 ∧ (Yq σ d kn) 3 w = x ∧ 0 < (Yq σ d kn) 4 w)) (nq σ) 0) (max 0 (onS (Yq σ d kn) (nq σ) x - thS (σ 3) (Yq σ d kn) x)) ((fwO (dsL ((Yq σ d kn) 4) (ilF (fun w => decide ((Yq σ d kn) 1 w = 1 ∧ (Yq σ d kn) 3 w = x ∧ 0 < (Yq σ d kn) 4 w)) (nq σ) 0)) (max 0 (onS (Yq σ d kn) (nq σ) x - thS (σ 3) (Yq σ d kn) x))).getD 0)) := hA
      rw [if_neg (by omega), Nat.add_sub_cancel] at hA
      have l0 : 0 < left := Classical.byContradiction (fun h => by rw [fwO_0 (by omega)] at hfw; exact absurd (Option.some.inj hfw) (by omega))
      have ff := c_X11_fewestFrom (l := l) (G := G) (σ := ρ) (i := at0 + 1) (v := left - (Yq σ d kn) 4 w) (c := ((Yq σ d kn) 4)) (I := (ilF (fun w => decide ((Yq σ d kn) 1 w = 1 ∧ (Yq σ d kn) 3 w = x ∧ 0 < (Yq σ d kn) 4 w)) (nq σ) 0)) (by omega) hN (by omega) (by omega) hrep hm
      rw [show (at0 + 1).toNat = n0 + 1 by omega] at ff
      have fr : 0 ≤ ofM (fwO (dsL ((Yq σ d kn) 4) (((ilF (fun w => decide ((Yq σ d kn) 1 w = 1 ∧ (Yq σ d kn) 3 w = x ∧ 0 < (Yq σ d kn) 4 w)) (nq σ) 0)).drop (n0 + 1))) (left - (Yq σ d kn) 4 w)) ∧ ofM (fwO (dsL ((Yq σ d kn) 4) (((ilF (fun w => decide ((Yq σ d kn) 1 w = 1 ∧ (Yq σ d kn) 3 w = x ∧ 0 < (Yq σ d kn) 4 w)) (nq σ) 0)).drop (n0 + 1))) (left - (Yq σ d kn) 4 w)) ≤ 1000 := by
        cases q : fwO (dsL ((Yq σ d kn) 4) (((ilF (fun w => decide ((Yq σ d kn) 1 w = 1 ∧ (Yq σ d kn) 3 w = x ∧ 0 < (Yq σ d kn) 4 w)) (nq σ) 0)).drop (n0 + 1))) (left - (Yq σ d kn) 4 w) with
        | none => exact ⟨by decide, by decide⟩
        | some j =>
          have a : j ≤ (dsL ((Yq σ d kn) 4) (((ilF (fun w => decide ((Yq σ d kn) 1 w = 1 ∧ (Yq σ d kn) 3 w = x ∧ 0 < (Yq σ d kn) 4 w)) (nq σ) 0)).drop (n0 + 1))).length := ((fwO_iff (fun x hx => (cnL_mem hx).1)).mp q).1
          have s2 := (dsL_sum (c := ((Yq σ d kn) 4)) (S := ((ilF (fun w => decide ((Yq σ d kn) 1 w = 1 ∧ (Yq σ d kn) 3 w = x ∧ 0 < (Yq σ d kn) 4 w)) (nq σ) 0)).drop (n0 + 1)) (fun w hw => hc w (List.mem_of_mem_drop hw))).2
          rw [s2, List.length_drop] at a
          show 0 ≤ (j : Int) ∧ (j : Int) ≤ 1000
          omega
      have r4 : ρ 144 (ρ 152 at0) = (Yq σ d kn) 4 w := by rw [rw0]; exact wm.2.2
      refine x_iconst (E_X11_doubt_1 16 rfl) ?_
      refine x_aload_n (E_X11_doubt_1 17 rfl) rfl ?_
      refine x_iload (E_X11_doubt_1 18 rfl) rfl ?_
      refine x_iconst (E_X11_doubt_1 19 rfl) ?_
      refine x_iadd (E_X11_doubt_1 20 rfl) ?_
      refine x_iload (E_X11_doubt_1 21 rfl) rfl ?_
      refine x_aload_n (E_X11_doubt_1 22 rfl) rfl ?_
      refine x_getR (E_X11_doubt_1 23 rfl) fl_X11_102 rfl (by decide) rfl ?_
      refine x_aload_n (E_X11_doubt_1 24 rfl) rfl ?_
      refine x_getR (E_X11_doubt_1 25 rfl) fl_X11_126 rfl (by decide) rfl ?_
      refine x_iload (E_X11_doubt_1 26 rfl) rfl ?_
      refine x_ialde (f := ρ 152) (E_X11_doubt_1 27 rfl) rfl (by decide) (by omega) rfl ?_
      refine x_ialde (f := ρ 144) (E_X11_doubt_1 28 rfl) rfl (by decide) (by omega) rfl ?_
      rw [r4]
      refine x_isub (E_X11_doubt_1 29 rfl) ?_
      refine z_callVi (E_X11_doubt_1 30 rfl) ml_X11_410 mv_X11_fewestFrom rfl (by decide) (by decide) ff (by decide) rfl rfl (Nat.le_of_ble_eq_true rfl) (fun v7 τ7 k7 => ?_)
      obtain ⟨z7, rfl⟩ := k7
      refine x_iadd (E_X11_doubt_1 31 rfl) ?_
      refine x_iload (E_X11_doubt_1 32 rfl) rfl ?_
      refine x_iload (E_X11_doubt_1 33 rfl) rfl ?_
      refine x_isub (E_X11_doubt_1 34 rfl) ?_
      refine x_icmp_eq (E_X11_doubt_1 35 rfl) (by omega) (by omega) (fun c1 => ?_) (fun c1 => ?_)
      · have eq : fwO (dsL ((Yq σ d kn) 4) (((ilF (fun w => decide ((Yq σ d kn) 1 w = 1 ∧ (Yq σ d kn) 3 w = x ∧ 0 < (Yq σ d kn) 4 w)) (nq σ) 0)).drop (n0 + 1))) (left - (Yq σ d kn) 4 w) = some k1 := by
          cases q9 : fwO (dsL ((Yq σ d kn) 4) (((ilF (fun w => decide ((Yq σ d kn) 1 w = 1 ∧ (Yq σ d kn) 3 w = x ∧ 0 < (Yq σ d kn) 4 w)) (nq σ) 0)).drop (n0 + 1))) (left - (Yq σ d kn) 4 w) with
          | none =>
            rw [q9] at z7
            have z7 : v7 = (1000 : Int) := z7
            have := kz.2
            omega
          | some j =>
            rw [q9] at z7
            have z7 : v7 = (j : Int) := z7
            rw [show j = k1 by omega]
        rw [if_pos eq] at hA
        have nx : ∀ tv, tv = (if 0 ≤ i ∧ i < (A ++ [w]).length then (A ++ [w]).getD i.toNat 0 else -1) → XI l G M_X11_doubt 4 137 [some (vr 114), some (vi x), some (vi d), some (vi kn), some (vi i), some (vi (left - (Yq σ d kn) 4 w)), some (vi ((((fwO (dsL ((Yq σ d kn) 4) (ilF (fun w => decide ((Yq σ d kn) 1 w = 1 ∧ (Yq σ d kn) 3 w = x ∧ 0 < (Yq σ d kn) 4 w)) (nq σ) 0)) (max 0 (onS (Yq σ d kn) (nq σ) x - thS (σ 3) (Yq σ d kn) x))).getD 0) : Nat) : Int)), some (vi tv), some (vi (at0 + 1)), some (vi (n + 1))] [] ρ (fun z υ => (¬ (0 ≤ x ∧ x < σ 1 5) ∧ z = -1001 ∧ υ = τ) ∨ ((0 ≤ x ∧ x < σ 1 5) ∧ ¬ ((0 ≤ d ∧ d ≤ 2000) ∧ 0 ≤ kn ∧ kn ≤ σ 0 0) ∧ z = -1002 ∧ υ = τ) ∨ ((0 ≤ x ∧ x < σ 1 5) ∧ ((0 ≤ d ∧ d ≤ 2000) ∧ 0 ≤ kn ∧ kn ≤ σ 0 0) ∧ z = dbZ (dbS ((Yq σ d kn) 4) (ilF (fun w => decide ((Yq σ d kn) 1 w = 1 ∧ (Yq σ d kn) 3 w = x ∧ 0 < (Yq σ d kn) 4 w)) (nq σ) 0) (max 0 (onS (Yq σ d kn) (nq σ) x - thS (σ 3) (Yq σ d kn) x)) ((fwO (dsL ((Yq σ d kn) 4) (ilF (fun w => decide ((Yq σ d kn) 1 w = 1 ∧ (Yq σ d kn) 3 w = x ∧ 0 < (Yq σ d kn) 4 w)) (nq σ) 0)) (max 0 (onS (Yq σ d kn) (nq σ) x - thS (σ 3) (Yq σ d kn) x))).getD 0)) i ∧ Sd τ υ)) := fun tv htv => ih k1 (by omega) (n0 + 1) _ tv _ _ (A ++ [w]) k1 rfl (by omega) (by omega) (by rw [List.length_append]; simp; omega) (by omega) (by omega) eq (by rw [List.append_assoc]; exact hA) htv
        refine x_iload (E_X11_doubt_1 38 rfl) rfl ?_
        refine x_iload (E_X11_doubt_1 39 rfl) rfl ?_
        refine x_icmp_ne (E_X11_doubt_1 40 rfl) (by omega) (by omega) (fun c1 => ?_) (fun c1 => ?_)
        · refine x_iload (E_X11_doubt_1 46 rfl) rfl ?_
          refine x_istore (E_X11_doubt_1 47 rfl) rfl ?_
          refine x_iload (E_X11_doubt_1 48 rfl) rfl ?_
          refine x_aload_n (E_X11_doubt_1 49 rfl) rfl ?_
          refine x_getR (E_X11_doubt_1 50 rfl) fl_X11_102 rfl (by decide) rfl ?_
          refine x_aload_n (E_X11_doubt_1 51 rfl) rfl ?_
          refine x_getR (E_X11_doubt_1 52 rfl) fl_X11_126 rfl (by decide) rfl ?_
          refine x_iload (E_X11_doubt_1 53 rfl) rfl ?_
          refine x_ialde (f := ρ 152) (E_X11_doubt_1 54 rfl) rfl (by decide) (by omega) rfl ?_
          refine x_ialde (f := ρ 144) (E_X11_doubt_1 55 rfl) rfl (by decide) (by omega) rfl ?_
          rw [r4]
          refine x_isub (E_X11_doubt_1 56 rfl) ?_
          refine x_istore (E_X11_doubt_1 57 rfl) rfl ?_
          refine x_iinc (E_X11_doubt_1 58 rfl) rfl rfl ?_
          refine x_iinc (E_X11_doubt_1 59 rfl) rfl rfl ?_
          refine x_goto (E_X11_doubt_2 0 rfl) ?_
          refine nx _ ?_
          rw [htold]
          by_cases q9 : 0 ≤ i ∧ i < A.length
          · rw [if_pos q9, if_pos (by rw [List.length_append]; simp; omega), List.getD_eq_getElem?_getD, List.getD_eq_getElem?_getD, List.getElem?_append_left (by omega)]
          · rw [if_neg q9, if_neg (by rw [List.length_append]; simp; omega)]
        · refine x_aload_n (E_X11_doubt_1 41 rfl) rfl ?_
          refine x_getR (E_X11_doubt_1 42 rfl) fl_X11_126 rfl (by decide) rfl ?_
          refine x_iload (E_X11_doubt_1 43 rfl) rfl ?_
          
          refine x_ialde (f := ρ 152) (E_X11_doubt_1 44 rfl) rfl (by decide) (by omega) rfl ?_
          refine x_goto (E_X11_doubt_1 45 rfl) ?_
          refine x_istore (E_X11_doubt_1 47 rfl) rfl ?_
          refine x_iload (E_X11_doubt_1 48 rfl) rfl ?_
          refine x_aload_n (E_X11_doubt_1 49 rfl) rfl ?_
          refine x_getR (E_X11_doubt_1 50 rfl) fl_X11_102 rfl (by decide) rfl ?_
          refine x_aload_n (E_X11_doubt_1 51 rfl) rfl ?_
          refine x_getR (E_X11_doubt_1 52 rfl) fl_X11_126 rfl (by decide) rfl ?_
          refine x_iload (E_X11_doubt_1 53 rfl) rfl ?_
          refine x_ialde (f := ρ 152) (E_X11_doubt_1 54 rfl) rfl (by decide) (by omega) rfl ?_
          refine x_ialde (f := ρ 144) (E_X11_doubt_1 55 rfl) rfl (by decide) (by omega) rfl ?_
          rw [r4]
          refine x_isub (E_X11_doubt_1 56 rfl) ?_
          refine x_istore (E_X11_doubt_1 57 rfl) rfl ?_
          refine x_iinc (E_X11_doubt_1 58 rfl) rfl rfl ?_
          refine x_iinc (E_X11_doubt_1 59 rfl) rfl rfl ?_
          refine x_goto (E_X11_doubt_2 0 rfl) ?_
          rw [rw0]
          refine nx _ ?_
          rw [if_pos (by rw [List.length_append]; simp; omega), List.getD_eq_getElem?_getD, show i.toNat = A.length by omega]
          simp
      · refine x_iinc (E_X11_doubt_1 36 rfl) rfl rfl ?_
        refine x_goto (E_X11_doubt_1 37 rfl) ?_
        have ne : ¬ fwO (dsL ((Yq σ d kn) 4) (((ilF (fun w => decide ((Yq σ d kn) 1 w = 1 ∧ (Yq σ d kn) 3 w = x ∧ 0 < (Yq σ d kn) 4 w)) (nq σ) 0)).drop (n0 + 1))) (left - (Yq σ d kn) 4 w) = some k1 := fun e => by
          rw [e] at z7
          have z7 : v7 = (k1 : Int) := z7
          omega
        rw [if_neg ne] at hA
        exact ih2 (q - 1) (by omega) (n0 + 1) _ (by omega) (by omega) hk1 (st.2.resolve_left ne) hA
    refine x_iload (E_X11_doubt_1 13 rfl) rfl ?_
    refine x_iload (E_X11_doubt_1 14 rfl) rfl ?_
    refine x_icmp_ge (E_X11_doubt_1 15 rfl) (by omega) (by omega) (fun c1 => ?_) (fun c1 => ?_)
    · refine x_iload (E_X11_doubt_2 1 rfl) rfl ?_
      refine x_iconst (E_X11_doubt_2 2 rfl) ?_
      refine x_icmp_ne (E_X11_doubt_2 3 rfl) (by omega) (by decide) (fun c2 => ?_) (fun c2 => ?_)
      · refine x_iload (E_X11_doubt_2 6 rfl) rfl ?_
        refine z_iret (E_X11_doubt_2 7 rfl) trivial ?_
        obtain rfl : kk = 0 := by omega
        have eA : A = (dbS ((Yq σ d kn) 4) (ilF (fun w => decide ((Yq σ d kn) 1 w = 1 ∧ (Yq σ d kn) 3 w = x ∧ 0 < (Yq σ d kn) 4 w)) (nq σ) 0) (max 0 (onS (Yq σ d kn) (nq σ) x - thS (σ 3) (Yq σ d kn) x)) ((fwO (dsL ((Yq σ d kn) 4) (ilF (fun w => decide ((Yq σ d kn) 1 w = 1 ∧ (Yq σ d kn) 3 w = x ∧ 0 < (Yq σ d kn) 4 w)) (nq σ) 0)) (max 0 (onS (Yq σ d kn) (nq σ) x - thS (σ 3) (Yq σ d kn) x))).getD 0)) := by
          rw [← hA]
          have : dbS ((Yq σ d kn) 4) (((ilF (fun w => decide ((Yq σ d kn) 1 w = 1 ∧ (Yq σ d kn) 3 w = x ∧ 0 < (Yq σ d kn) 4 w)) (nq σ) 0)).drop n0) left 0 = [] := by
            cases ((ilF (fun w => decide ((Yq σ d kn) 1 w = 1 ∧ (Yq σ d kn) 3 w = x ∧ 0 < (Yq σ d kn) 4 w)) (nq σ) 0)).drop n0 with
            | nil => rfl
            | cons a S => exact if_pos rfl
          rw [this, List.append_nil]
        refine Or.inr (Or.inr ⟨by omega, by omega, ?_, sd⟩)
        unfold dbZ
        rw [← eA]
        rw [if_neg (by omega)]; exact htold
      · refine x_iload (E_X11_doubt_2 4 rfl) rfl ?_
        refine x_goto (E_X11_doubt_2 5 rfl) ?_
        refine z_iret (E_X11_doubt_2 7 rfl) trivial ?_
        obtain rfl : kk = 0 := by omega
        have eA : A = (dbS ((Yq σ d kn) 4) (ilF (fun w => decide ((Yq σ d kn) 1 w = 1 ∧ (Yq σ d kn) 3 w = x ∧ 0 < (Yq σ d kn) 4 w)) (nq σ) 0) (max 0 (onS (Yq σ d kn) (nq σ) x - thS (σ 3) (Yq σ d kn) x)) ((fwO (dsL ((Yq σ d kn) 4) (ilF (fun w => decide ((Yq σ d kn) 1 w = 1 ∧ (Yq σ d kn) 3 w = x ∧ 0 < (Yq σ d kn) 4 w)) (nq σ) 0)) (max 0 (onS (Yq σ d kn) (nq σ) x - thS (σ 3) (Yq σ d kn) x))).getD 0)) := by
          rw [← hA]
          have : dbS ((Yq σ d kn) 4) (((ilF (fun w => decide ((Yq σ d kn) 1 w = 1 ∧ (Yq σ d kn) 3 w = x ∧ 0 < (Yq σ d kn) 4 w)) (nq σ) 0)).drop n0) left 0 = [] := by
            cases ((ilF (fun w => decide ((Yq σ d kn) 1 w = 1 ∧ (Yq σ d kn) 3 w = x ∧ 0 < (Yq σ d kn) 4 w)) (nq σ) 0)).drop n0 with
            | nil => rfl
            | cons a S => exact if_pos rfl
          rw [this, List.append_nil]
        refine Or.inr (Or.inr ⟨by omega, by omega, ?_, sd⟩)
        unfold dbZ
        rw [← eA]
        rw [if_pos (by omega), hAl]; omega
    · exact wh (((ilF (fun w => decide ((Yq σ d kn) 1 w = 1 ∧ (Yq σ d kn) 3 w = x ∧ 0 < (Yq σ d kn) 4 w)) (nq σ) 0)).length - n0) n0 at0 (by omega) hn0 (by omega) hfw hA
  have loop1 : ∀ (υ : Nat → Int → Int), (0 ≤ x ∧ x < σ 1 5) → ((0 ≤ d ∧ d ≤ 2000) ∧ 0 ≤ kn ∧ kn ≤ σ 0 0) → TmP σ d kn τ υ → ∀ (t : Nat) (w : Int) (ρ : Nat → Int → Int), w = σ 7 9 - t → t ≤ (σ 7 9).toNat → RepL (ρ 152) (ilF (fun w => decide ((Yq σ d kn) 1 w = 1 ∧ (Yq σ d kn) 3 w = x ∧ 0 < (Yq σ d kn) 4 w)) w.toNat 0) → ρ 114 51 = (ilF (fun w => decide ((Yq σ d kn) 1 w = 1 ∧ (Yq σ d kn) 3 w = x ∧ 0 < (Yq σ d kn) 4 w)) w.toNat 0).length → Fr [114, 152] υ ρ → Fo 114 [51] υ ρ → XI l G M_X11_doubt 4 45 [some (vr 114), some (vi x), some (vi d), some (vi kn), some (vi i), some (vi w), none, none, none, none] [] ρ (fun z υ => (¬ (0 ≤ x ∧ x < σ 1 5) ∧ z = -1001 ∧ υ = τ) ∨ ((0 ≤ x ∧ x < σ 1 5) ∧ ¬ ((0 ≤ d ∧ d ≤ 2000) ∧ 0 ≤ kn ∧ kn ≤ σ 0 0) ∧ z = -1002 ∧ υ = τ) ∨ ((0 ≤ x ∧ x < σ 1 5) ∧ ((0 ≤ d ∧ d ≤ 2000) ∧ 0 ≤ kn ∧ kn ≤ σ 0 0) ∧ z = dbZ (dbS ((Yq σ d kn) 4) (ilF (fun w => decide ((Yq σ d kn) 1 w = 1 ∧ (Yq σ d kn) 3 w = x ∧ 0 < (Yq σ d kn) 4 w)) (nq σ) 0) (max 0 (onS (Yq σ d kn) (nq σ) x - thS (σ 3) (Yq σ d kn) x)) ((fwO (dsL ((Yq σ d kn) 4) (ilF (fun w => decide ((Yq σ d kn) 1 w = 1 ∧ (Yq σ d kn) 3 w = x ∧ 0 < (Yq σ d kn) 4 w)) (nq σ) 0)) (max 0 (onS (Yq σ d kn) (nq σ) x - thS (σ 3) (Yq σ d kn) x))).getD 0)) i ∧ Sd τ υ)) := by
    intro υ a1 a2 h9 t
    have e9 : υ 114 9 = σ 7 9 := (h9.2.2.2.2.2 9 (by decide)).trans f9
    induction t using Nat.strongRecOn with
    | _ t ih =>
    intro w ρ hw ht hrep hN hF hO
    have e9' := hO 9 (by decide)
    have sm : SM (nq σ) (σ 1 5) ρ = (Yq σ d kn) := (SM_fr (fun k hk => hF k (by simp at hk ⊢; omega))).trans h9.1
    have hL : LM (dtq σ) (hdq σ) (nq σ) (σ 1 5) ρ := h9.2.2.2.1.low (fun k hk => hF k (by simp at hk ⊢; omega)) (fun j hj => hO j (by simp at hj ⊢; omega))
    have il9 : (ilF (fun w => decide ((Yq σ d kn) 1 w = 1 ∧ (Yq σ d kn) 3 w = x ∧ 0 < (Yq σ d kn) 4 w)) w.toNat 0).length ≤ w.toNat := ilF_len
    have y1 := sm
    refine x_iload (E_X11_doubt_0 24 rfl) rfl ?_
    refine x_aload_n (E_X11_doubt_0 25 rfl) rfl ?_
    refine x_getIe (v := ρ 114 9) (E_X11_doubt_0 26 rfl) fl_X11_227 rfl (by decide) rfl ?_
    refine x_icmp_ge (E_X11_doubt_0 27 rfl) (by omega) (by omega) (fun c1 => ?_) (fun c1 => ?_)
    · have ew : w.toNat = nq σ := by unfold nq; omega
      rw [ew] at hrep hN
      have kz := db_kz hR (d := d) (kn := kn) a1
      have ovr := c_X11_over (l := l) (G := G) (σ := ρ) (x := x) a1 hL hR.dok (by rw [sm]; exact hR.yok)
      rw [sm] at ovr
      have o2 := onS_rg hy (l := x)
      have th9 := hR.th (d := d) (kn := kn) a1
      have hm : ∀ w ∈ (ilF (fun w => decide ((Yq σ d kn) 1 w = 1 ∧ (Yq σ d kn) 3 w = x ∧ 0 < (Yq σ d kn) 4 w)) (nq σ) 0), (0 ≤ w ∧ w < 120) ∧ (1 ≤ ((Yq σ d kn) 4) w ∧ ((Yq σ d kn) 4) w ≤ 200) ∧ ρ 144 w = ((Yq σ d kn) 4) w := fun w hw => by
        have m := ilF_mem hw
        have p := of_decide_eq_true m.2
        have r4 := (StG_rd (show SM (nq σ) (σ 1 5) ρ 1 w = 1 by rw [sm]; exact p.1)).2.2.2.1
        have q := sm
        unfold SM at q
        rw [q] at r4
        exact ⟨by omega, hc w hw, r4.symm⟩
      have ff := c_X11_fewestFrom (l := l) (G := G) (σ := ρ) (i := 0) (v := (max 0 (onS (Yq σ d kn) (nq σ) x - thS (σ 3) (Yq σ d kn) x))) (c := ((Yq σ d kn) 4)) (I := (ilF (fun w => decide ((Yq σ d kn) 1 w = 1 ∧ (Yq σ d kn) 3 w = x ∧ 0 < (Yq σ d kn) 4 w)) (nq σ) 0)) (by omega) hN (by omega) (by omega) hrep hm
      refine x_aload_n (E_X11_doubt_0 58 rfl) rfl ?_
      refine x_iload_n (E_X11_doubt_0 59 rfl) rfl ?_
      refine z_callVi (E_X11_doubt_1 0 rfl) ml_X11_400 mv_X11_over rfl (by decide) (by decide) ovr (by decide) rfl rfl (Nat.le_of_ble_eq_true rfl) (fun v8 τ8 k8 => ?_)
      obtain ⟨z8, rfl⟩ := k8
      have z8 : v8 = (max 0 (onS (Yq σ d kn) (nq σ) x - thS (σ 3) (Yq σ d kn) x)) := z8
      rw [z8]
      refine x_istore (E_X11_doubt_1 1 rfl) rfl ?_
      refine x_aload_n (E_X11_doubt_1 2 rfl) rfl ?_
      refine x_iconst (E_X11_doubt_1 3 rfl) ?_
      refine x_iload (E_X11_doubt_1 4 rfl) rfl ?_
      refine z_callVi (E_X11_doubt_1 5 rfl) ml_X11_410 mv_X11_fewestFrom rfl (by decide) (by decide) ff (by decide) rfl rfl (Nat.le_of_ble_eq_true rfl) (fun v7 τ7 k7 => ?_)
      obtain ⟨z7, rfl⟩ := k7
      have z7 : v7 = ((((fwO (dsL ((Yq σ d kn) 4) (ilF (fun w => decide ((Yq σ d kn) 1 w = 1 ∧ (Yq σ d kn) 3 w = x ∧ 0 < (Yq σ d kn) 4 w)) (nq σ) 0)) (max 0 (onS (Yq σ d kn) (nq σ) x - thS (σ 3) (Yq σ d kn) x))).getD 0) : Nat) : Int) := by
        rw [z7, show (0 : Int).toNat = 0 from rfl, List.drop_zero, kz.1]
        rfl
      rw [z7]
      refine x_istore (E_X11_doubt_1 6 rfl) rfl ?_
      refine x_iconst (E_X11_doubt_1 7 rfl) ?_
      refine x_istore (E_X11_doubt_1 8 rfl) rfl ?_
      refine x_iconst (E_X11_doubt_1 9 rfl) ?_
      refine x_istore (E_X11_doubt_1 10 rfl) rfl ?_
      refine x_iconst (E_X11_doubt_1 11 rfl) ?_
      refine x_istore (E_X11_doubt_1 12 rfl) rfl ?_
      exact main υ ρ a1 a2 h9 sm hF hO hrep hN ((fwO (dsL ((Yq σ d kn) 4) (ilF (fun w => decide ((Yq σ d kn) 1 w = 1 ∧ (Yq σ d kn) 3 w = x ∧ 0 < (Yq σ d kn) 4 w)) (nq σ) 0)) (max 0 (onS (Yq σ d kn) (nq σ) x - thS (σ 3) (Yq σ d kn) x))).getD 0) 0 _ _ _ _ [] ((fwO (dsL ((Yq σ d kn) 4) (ilF (fun w => decide ((Yq σ d kn) 1 w = 1 ∧ (Yq σ d kn) 3 w = x ∧ 0 < (Yq σ d kn) 4 w)) (nq σ) 0)) (max 0 (onS (Yq σ d kn) (nq σ) x - thS (σ 3) (Yq σ d kn) x))).getD 0) rfl rfl (by omega) rfl (by omega) (by omega) (by rw [List.drop_zero]; exact kz.1) (by rw [List.drop_zero, List.nil_append]) (if_neg (by simp)).symm
    · have g1 : (Yq σ d kn) 1 w = ρ 142 w := by rw [← y1]; exact StG_1 (by omega)
      have g2 := (hy.1 w).1
      refine x_aload_n (E_X11_doubt_0 28 rfl) rfl ?_
      refine x_getR (E_X11_doubt_0 29 rfl) fl_X11_96 rfl (by decide) rfl ?_
      refine x_iload (E_X11_doubt_0 30 rfl) rfl ?_
      refine x_zalde (f := ρ 142) (E_X11_doubt_0 31 rfl) rfl (by decide) (by omega) rfl ?_
      refine x_if_eq (E_X11_doubt_0 32 rfl) (by omega) (fun c2 => ?_) (fun c2 => ?_)
      · refine x_iinc (E_X11_doubt_0 56 rfl) rfl rfl ?_
        refine x_goto (E_X11_doubt_0 57 rfl) ?_
        refine ih (t - 1) (by omega) _ _ (by omega) (by omega) ?_ ?_ hF hO
        · rw [show (w + 1).toNat = w.toNat + 1 by omega, ilF_snoc, show (0 : Int) + ((w.toNat : Nat) : Int) = w by omega, if_neg (fun h => by have := of_decide_eq_true h; omega), List.append_nil]
          exact hrep
        · rw [show (w + 1).toNat = w.toNat + 1 by omega, ilF_snoc, show (0 : Int) + ((w.toNat : Nat) : Int) = w by omega, if_neg (fun h => by have := of_decide_eq_true h; omega), List.append_nil]
          exact hN
      · have th : (Yq σ d kn) 1 w = 1 := by omega
        have n9 := n120
        have yr := hy.2.1 w th
        obtain ⟨d1, d2, d3, d4, d5, d6, d7, d8, d9⟩ : (0 ≤ w ∧ w < ((nq σ : Nat) : Int)) ∧ ρ 142 w = 1 ∧ (Yq σ d kn) 3 w = ρ 143 w ∧ (Yq σ d kn) 4 w = ρ 144 w ∧ (Yq σ d kn) 5 w = ρ 145 w ∧ (Yq σ d kn) 6 w = ρ 146 w ∧ (Yq σ d kn) 7 w = ρ 147 w ∧ (Yq σ d kn) 8 w = ρ 148 w ∧ (Yq σ d kn) 9 w = ρ 149 w := by
          have := StG_rd (show SM (nq σ) (σ 1 5) ρ 1 w = 1 by rw [y1]; exact th)
          rw [← y1]
          exact this
        refine x_aload_n (E_X11_doubt_0 33 rfl) rfl ?_
        refine x_getR (E_X11_doubt_0 34 rfl) fl_X11_99 rfl (by decide) rfl ?_
        refine x_iload (E_X11_doubt_0 35 rfl) rfl ?_
        refine x_ialde (f := ρ 143) (E_X11_doubt_0 36 rfl) rfl (by decide) (by omega) rfl ?_
        refine x_iload_n (E_X11_doubt_0 37 rfl) rfl ?_
        refine x_icmp_ne (E_X11_doubt_0 38 rfl) (by omega) (by omega) (fun c3 => ?_) (fun c3 => ?_)
        · refine x_iinc (E_X11_doubt_0 56 rfl) rfl rfl ?_
          refine x_goto (E_X11_doubt_0 57 rfl) ?_
          refine ih (t - 1) (by omega) _ _ (by omega) (by omega) ?_ ?_ hF hO
          · rw [show (w + 1).toNat = w.toNat + 1 by omega, ilF_snoc, show (0 : Int) + ((w.toNat : Nat) : Int) = w by omega, if_neg (fun h => by have := of_decide_eq_true h; omega), List.append_nil]
            exact hrep
          · rw [show (w + 1).toNat = w.toNat + 1 by omega, ilF_snoc, show (0 : Int) + ((w.toNat : Nat) : Int) = w by omega, if_neg (fun h => by have := of_decide_eq_true h; omega), List.append_nil]
            exact hN
        · refine x_aload_n (E_X11_doubt_0 39 rfl) rfl ?_
          refine x_getR (E_X11_doubt_0 40 rfl) fl_X11_102 rfl (by decide) rfl ?_
          refine x_iload (E_X11_doubt_0 41 rfl) rfl ?_
          refine x_ialde (f := ρ 144) (E_X11_doubt_0 42 rfl) rfl (by decide) (by omega) rfl ?_
          refine x_if_le (E_X11_doubt_0 43 rfl) (by omega) (fun c4 => ?_) (fun c4 => ?_)
          · refine x_iinc (E_X11_doubt_0 56 rfl) rfl rfl ?_
            refine x_goto (E_X11_doubt_0 57 rfl) ?_
            refine ih (t - 1) (by omega) _ _ (by omega) (by omega) ?_ ?_ hF hO
            · rw [show (w + 1).toNat = w.toNat + 1 by omega, ilF_snoc, show (0 : Int) + ((w.toNat : Nat) : Int) = w by omega, if_neg (fun h => by have := of_decide_eq_true h; omega), List.append_nil]
              exact hrep
            · rw [show (w + 1).toNat = w.toNat + 1 by omega, ilF_snoc, show (0 : Int) + ((w.toNat : Nat) : Int) = w by omega, if_neg (fun h => by have := of_decide_eq_true h; omega), List.append_nil]
              exact hN
          · refine x_aload_n (E_X11_doubt_0 44 rfl) rfl ?_
            refine x_getR (E_X11_doubt_0 45 rfl) fl_X11_126 rfl (by decide) rfl ?_
            refine x_aload_n (E_X11_doubt_0 46 rfl) rfl ?_
            refine x_getIe (v := ρ 114 51) (E_X11_doubt_0 47 rfl) fl_X11_407 rfl (by decide) rfl ?_
            refine x_iload (E_X11_doubt_0 48 rfl) rfl ?_
            refine x_iast (E_X11_doubt_0 49 rfl) rfl (by decide) (by omega) ?_
            refine x_aload_n (E_X11_doubt_0 50 rfl) rfl ?_
            refine x_dupr (E_X11_doubt_0 51 rfl) ?_
            refine x_getIe (v := ρ 114 51) (E_X11_doubt_0 52 rfl) fl_X11_407 rfl (by decide) rfl ?_
            refine x_iconst (E_X11_doubt_0 53 rfl) ?_
            refine x_iadd (E_X11_doubt_0 54 rfl) ?_
            refine x_putI (E_X11_doubt_0 55 rfl) fl_X11_407 rfl (by decide) ?_
            refine x_iinc (E_X11_doubt_0 56 rfl) rfl rfl ?_
            refine x_goto (E_X11_doubt_0 57 rfl) ?_
            refine ih (t - 1) (by omega) _ _ (by omega) (by omega) ?_ ?_ ((hF.up (by decide)).up (by decide)) ((hO.un (by decide)).up (by decide))
            · rw [show (w + 1).toNat = w.toNat + 1 by omega, ilF_snoc, show (0 : Int) + ((w.toNat : Nat) : Int) = w by omega, if_pos (decide_eq_true (by omega))]
              intro q y hq
              show (if (q : Int) = ρ 114 51 then w else ρ 152 q) = y
              by_cases e : q < (ilF (fun w => decide ((Yq σ d kn) 1 w = 1 ∧ (Yq σ d kn) 3 w = x ∧ 0 < (Yq σ d kn) 4 w)) w.toNat 0).length
              · rw [if_neg (by omega)]
                rw [List.getElem?_append_left e] at hq
                exact hrep q y hq
              · have eq : q = (ilF (fun w => decide ((Yq σ d kn) 1 w = 1 ∧ (Yq σ d kn) 3 w = x ∧ 0 < (Yq σ d kn) 4 w)) w.toNat 0).length := by
                  have := (List.getElem?_eq_some_iff.mp hq).1
                  rw [List.length_append, List.length_singleton] at this
                  omega
                rw [if_pos (by omega)]
                rw [eq] at hq
                simpa using hq
            · rw [show (w + 1).toNat = w.toNat + 1 by omega, ilF_snoc, show (0 : Int) + ((w.toNat : Nat) : Int) = w by omega, if_pos (decide_eq_true (by omega)), List.length_append]
              show ρ 114 51 + 1 = _
              rw [hN]; simp
  refine x_aload_n (E_X11_doubt_0 0 rfl) rfl ?_
  refine x_iload_n (E_X11_doubt_0 1 rfl) rfl ?_
  refine z_callVi (E_X11_doubt_0 2 rfl) ml_X11_224 mv_X11_noLot rfl (by decide) (by decide) (c_X11_noLot q1 (by omega)) (by decide) rfl rfl (Nat.le_of_ble_eq_true rfl) (fun z9 τ9 h9 => ?_)
  obtain ⟨rfl, ⟨rfl, c1⟩ | ⟨rfl, c1⟩⟩ := h9
  · refine x_if_eq (E_X11_doubt_0 3 rfl) (by decide) (fun c9 => absurd c9 (by decide)) (fun _ => ?_)
    refine x_sipush (z := (-1001)) (E_X11_doubt_0 4 rfl) (by decide) ?_
    refine z_iret (E_X11_doubt_0 5 rfl) trivial ?_
    exact Or.inl ⟨by omega, rfl, rfl⟩
  · refine x_if_eq (E_X11_doubt_0 3 rfl) (by decide) (fun _ => ?_) (fun c9 => absurd (by decide) c9)
    refine x_iload_n (E_X11_doubt_0 6 rfl) rfl ?_
    refine z_callSi (E_X11_doubt_0 7 rfl) ml_X11_326 ms_X11_isDay (c_X11_isDay (by omega)) (by decide) rfl rfl (Nat.le_of_ble_eq_true rfl) (fun z9 τ9 h9 => ?_)
    obtain ⟨rfl, ⟨rfl, c2⟩ | ⟨rfl, c2⟩⟩ := h9
    · refine x_if_eq (E_X11_doubt_0 8 rfl) (by decide) (fun c9 => absurd c9 (by decide)) (fun _ => ?_)
      refine x_aload_n (E_X11_doubt_0 9 rfl) rfl ?_
      refine x_iload_n (E_X11_doubt_0 10 rfl) rfl ?_
      refine z_callVi (E_X11_doubt_0 11 rfl) ml_X11_245 mv_X11_isKnown rfl (by decide) (by decide) (c_X11_isKnown q3 (by omega)) (by decide) rfl rfl (Nat.le_of_ble_eq_true rfl) (fun z9 τ9 h9 => ?_)
      obtain ⟨rfl, ⟨rfl, c3⟩ | ⟨rfl, c3⟩⟩ := h9
      · refine x_if_ne (E_X11_doubt_0 12 rfl) (by decide) (fun _ => ?_) (fun c9 => absurd c9 (by decide))
        refine x_aload_n (E_X11_doubt_0 15 rfl) rfl ?_
        refine x_iload_n (E_X11_doubt_0 16 rfl) rfl ?_
        refine x_iload_n (E_X11_doubt_0 17 rfl) rfl ?_
        refine z_callVv (E_X11_doubt_0 18 rfl) ml_X11_378 mv_X11_tell rfl (by decide) (by decide) (tM hR sc q2 q3) (by decide) rfl rfl (Nat.le_of_ble_eq_true rfl) (fun τ9 h9 => ?_)
        refine x_aload_n (E_X11_doubt_0 19 rfl) rfl ?_
        refine x_iconst (E_X11_doubt_0 20 rfl) ?_
        refine x_putI (E_X11_doubt_0 21 rfl) fl_X11_407 rfl (by decide) ?_
        refine x_iconst (E_X11_doubt_0 22 rfl) ?_
        refine x_istore (E_X11_doubt_0 23 rfl) rfl ?_
        exact loop1 τ9 (by omega) (by omega) h9 (σ 7 9).toNat 0 _ (by omega) (Nat.le_refl _) (fun q y h => by cases h) rfl (Fr.rf.up (by decide)) (Fo.rf.up (by decide))
      · refine x_if_ne (E_X11_doubt_0 12 rfl) (by decide) (fun c9 => absurd c9 (by decide)) (fun _ => ?_)
        refine x_sipush (z := (-1002)) (E_X11_doubt_0 13 rfl) (by decide) ?_
        refine z_iret (E_X11_doubt_0 14 rfl) trivial ?_
        exact Or.inr (Or.inl ⟨by omega, by omega, rfl, rfl⟩)
    · refine x_if_eq (E_X11_doubt_0 8 rfl) (by decide) (fun _ => ?_) (fun c9 => absurd (by decide) c9)
      refine x_sipush (z := (-1002)) (E_X11_doubt_0 13 rfl) (by decide) ?_
      refine z_iret (E_X11_doubt_0 14 rfl) trivial ?_
      exact Or.inr (Or.inl ⟨by omega, by omega, rfl, rfl⟩)
theorem pair_doubt {x d kn i : Int} (hR : RR σ) (q1 : rgi x) (q2 : rgi d) (q3 : rgi kn) (q4 : rgi i) : Pair l G M_X10_doubt 6 M_X11_doubt 4 [vi x, vi d, vi kn, vi i] σ := by
  refine pair3 hR (c_X10_doubt hR q1 q2 q3 q4) (fun a b => ?_) (fun τ sc => c_X11_doubt hR sc q1 q2 q3 q4)
  have kz := db_kz hR (d := d) (kn := kn) a
  have tl : (dbS ((Yq σ d kn) 4) (ilF (fun w => decide ((Yq σ d kn) 1 w = 1 ∧ (Yq σ d kn) 3 w = x ∧ 0 < (Yq σ d kn) 4 w)) (nq σ) 0) (max 0 (onS (Yq σ d kn) (nq σ) x - thS (σ 3) (Yq σ d kn) x)) ((fwO (dsL ((Yq σ d kn) 4) (ilF (fun w => decide ((Yq σ d kn) 1 w = 1 ∧ (Yq σ d kn) 3 w = x ∧ 0 < (Yq σ d kn) 4 w)) (nq σ) 0)) (max 0 (onS (Yq σ d kn) (nq σ) x - thS (σ 3) (Yq σ d kn) x))).getD 0)).length = ((fwO (dsL ((Yq σ d kn) 4) (ilF (fun w => decide ((Yq σ d kn) 1 w = 1 ∧ (Yq σ d kn) 3 w = x ∧ 0 < (Yq σ d kn) 4 w)) (nq σ) 0)) (max 0 (onS (Yq σ d kn) (nq σ) x - thS (σ 3) (Yq σ d kn) x))).getD 0) := dbS_len (db_c hR) kz.1
  have n9 := hR.n9
  refine dbZ_rg (by omega) (fun z hz => ?_)
  have := ilF_mem (dbS_mem hz)
  omega

