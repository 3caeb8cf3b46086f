/-! terms: keys, force -/
variable {l : Launch} {G : GC} {σ : Nat → Int → Int}

theorem ruleS_rg {cd vl : Int → Int → Int} {t q : Int} {h : Int → Int} (e : 0 ≤ h q ∧ h q ≤ 4095) : ∀ {C : Nat}, (∀ c : Int, 0 ≤ c → c < C → 0 ≤ vl t c ∧ vl t c ≤ 4095) → 0 ≤ ruleS cd vl t h C q ∧ ruleS cd vl t h C q ≤ 4095
  | 0, _ => e
  | C + 1, w => by
    have i := ruleS_rg (cd := cd) e (C := C) (fun c a b => w c a (by omega))
    have o := w C (by omega) (by omega)
    unfold ruleS
    split
    · unfold updI
      split
      · exact o
      · exact i
    · exact i
theorem foldS_rg {cl : Int → Int} {cd vl : Int → Int → Int} {q : Int} : ∀ {L : List Int} {h : Int → Int}, (∀ t ∈ L, ∀ c : Int, 0 ≤ c → c < (cl t).toNat → 0 ≤ vl t c ∧ vl t c ≤ 4095) → (0 ≤ h q ∧ h q ≤ 4095) → 0 ≤ foldS cl cd vl L h q ∧ foldS cl cd vl L h q ≤ 4095
  | [], _, _, e => e
  | t :: L, _, w, e => foldS_rg (L := L) (fun t ht => w t (List.mem_cons_of_mem _ ht)) (ruleS_rg e (w t List.mem_cons_self))
theorem held0_rg {q : Int} (h : 0 ≤ q ∧ q < 10) : 0 ≤ held0 q ∧ held0 q ≤ 4095 := by
  rcases (by omega : q = 0 ∨ q = 1 ∨ q = 2 ∨ q = 3 ∨ q = 4 ∨ q = 5 ∨ q = 6 ∨ q = 7 ∨ q = 8 ∨ q = 9) with rfl | rfl | rfl | rfl | rfl | rfl | rfl | rfl | rfl | rfl <;> decide
theorem TmOk.held {d q : Int} (hO : TmOk σ) (hq : 0 ≤ q ∧ q < 10) : 0 ≤ heldS (σ 18) (σ 19) (cdq σ) (vlq σ) (σ 17 8).toNat d q ∧ heldS (σ 18) (σ 19) (cdq σ) (vlq σ) (σ 17 8).toNat d q ≤ 4095 := by
  refine foldS_rg (fun t ht c a b => ?_) (held0_rg hq)
  have m := srtL_mem.mp (List.mem_filter.mp ht).1
  have o := (hO.2 t m.1 (by have := hO.1; omega))
  exact (o.2.2 c a (by have := o.2.1; omega)).2.1
theorem HoldP.e8 {d : Int} {σ τ : Nat → Int → Int} (h : HoldP d σ τ) : τ 17 8 = σ 17 8 := h.2.2.2 8 (by decide)
theorem HoldP.tm {d : Int} {σ τ : Nat → Int → Int} (h : HoldP d σ τ) : cdq τ = cdq σ ∧ vlq τ = vlq σ ∧ τ 18 = σ 18 ∧ τ 19 = σ 19 ∧ τ 38 = σ 38 := h.2.2.1.tm (by decide)
theorem HoldP.ok {d : Int} {σ τ : Nat → Int → Int} (h : HoldP d σ τ) (hO : TmOk σ) : TmOk τ := hO.fr h.2.2.1 (by decide) h.e8
theorem HoldP.ord {d : Int} {σ τ : Nat → Int → Int} (h : HoldP d σ τ) (ho : RepL (σ 38) (srtL (σ 18) (fun _ => true) (σ 17 8).toNat)) : RepL (τ 38) (srtL (τ 18) (fun _ => true) (τ 17 8).toNat) := by
  obtain ⟨-, -, e3, -, e5⟩ := h.tm
  rw [e3, e5, h.e8]
  exact ho
theorem HoldP.held {d d' : Int} {σ τ : Nat → Int → Int} (h : HoldP d σ τ) : heldS (τ 18) (τ 19) (cdq τ) (vlq τ) (τ 17 8).toNat d' = heldS (σ 18) (σ 19) (cdq σ) (vlq σ) (σ 17 8).toNat d' := by
  obtain ⟨e1, e2, e3, e4, -⟩ := h.tm
  rw [e1, e2, e3, e4, h.e8]
theorem HoldP.cache {d : Int} {σ τ : Nat → Int → Int} (h : HoldP d σ τ) (hd : 0 ≤ d ∧ d ≤ 2000) : RCache (τ 17 7) (σ 17 8) (σ 18) (σ 19) (cdq σ) (vlq σ) (τ 40) := by
  refine Or.inr ⟨by rw [h.2.1]; exact hd, ?_⟩
  rw [h.2.1]
  exact h.1
theorem HoldP.cache2 {d : Int} {σ τ : Nat → Int → Int} (h : HoldP d σ τ) (hd : 0 ≤ d ∧ d ≤ 2000) : RCache (τ 17 7) (τ 17 8) (τ 18) (τ 19) (cdq τ) (vlq τ) (τ 40) := by
  obtain ⟨e1, e2, e3, e4, -⟩ := h.tm
  rw [e1, e2, e3, e4, h.e8]
  exact h.cache hd
theorem HoldP.trans {d d' : Int} {σ τ υ : Nat → Int → Int} (h : HoldP d σ τ) (h' : HoldP d' τ υ) : HoldP d' σ υ := by
  refine ⟨fun q a b => ?_, h'.2.1, Fr.trans h.2.2.1 h'.2.2.1 (fun k h => h) (fun k h => h), Fo.trans h.2.2.2 h'.2.2.2 (fun k h => h) (fun k h => h)⟩
  rw [h'.1 q a b, h.held]
set_option maxRecDepth 100000 in
theorem HoldP.sc {d : Int} {σ τ : Nat → Int → Int} (h : HoldP d σ τ) : Sc σ τ := by
  obtain ⟨-, -, hF, hO⟩ := h
  exact ⟨List.forall_mem_cons.mpr ⟨hF 2 (by decide), List.forall_mem_cons.mpr ⟨hF 3 (by decide), List.forall_mem_cons.mpr ⟨hF 4 (by decide), List.forall_mem_cons.mpr ⟨hF 5 (by decide), List.forall_mem_cons.mpr ⟨hF 6 (by decide), List.forall_mem_cons.mpr ⟨hF 115 (by decide), List.forall_mem_cons.mpr ⟨hF 116 (by decide), List.forall_mem_cons.mpr ⟨hF 117 (by decide), List.forall_mem_cons.mpr ⟨hF 119 (by decide), List.forall_mem_cons.mpr ⟨hF 120 (by decide), List.forall_mem_cons.mpr ⟨hF 105 (by decide), List.forall_mem_cons.mpr ⟨hF 121 (by decide), List.forall_mem_cons.mpr ⟨hF 8 (by decide), List.forall_mem_cons.mpr ⟨hF 9 (by decide), List.forall_mem_cons.mpr ⟨hF 10 (by decide), List.forall_mem_cons.mpr ⟨hF 11 (by decide), List.forall_mem_cons.mpr ⟨hF 12 (by decide), List.forall_mem_cons.mpr ⟨hF 13 (by decide), List.forall_mem_cons.mpr ⟨hF 14 (by decide), List.forall_mem_cons.mpr ⟨hF 122 (by decide), List.forall_mem_cons.mpr ⟨hF 123 (by decide), List.forall_mem_cons.mpr ⟨hF 124 (by decide), List.forall_mem_cons.mpr ⟨hF 125 (by decide), List.forall_mem_cons.mpr ⟨hF 126 (by decide), List.forall_mem_cons.mpr ⟨hF 127 (by decide), List.forall_mem_cons.mpr ⟨hF 128 (by decide), List.forall_mem_cons.mpr ⟨hF 15 (by decide), List.forall_mem_cons.mpr ⟨hF 18 (by decide), List.forall_mem_cons.mpr ⟨hF 19 (by decide), List.forall_mem_cons.mpr ⟨hF 133 (by decide), List.forall_mem_cons.mpr ⟨hF 134 (by decide), List.forall_mem_cons.mpr ⟨hF 21 (by decide), List.forall_mem_cons.mpr ⟨hF 22 (by decide), List.forall_mem_cons.mpr ⟨hF 23 (by decide), List.forall_mem_cons.mpr ⟨hF 24 (by decide), List.forall_mem_cons.mpr ⟨hF 25 (by decide), List.forall_mem_cons.mpr ⟨hF 26 (by decide), List.forall_mem_cons.mpr ⟨hF 27 (by decide), List.forall_mem_cons.mpr ⟨hF 28 (by decide), List.forall_mem_cons.mpr ⟨hF 30 (by decide), List.forall_mem_cons.mpr ⟨hF 31 (by decide), List.forall_mem_cons.mpr ⟨hF 32 (by decide), List.forall_mem_cons.mpr ⟨hF 33 (by decide), List.forall_mem_cons.mpr ⟨hF 34 (by decide), List.forall_mem_cons.mpr ⟨hF 35 (by decide), List.forall_mem_cons.mpr ⟨hF 36 (by decide), List.forall_mem_cons.mpr ⟨hF 37 (by decide), List.forall_mem_cons.mpr ⟨hF 135 (by decide), List.forall_mem_cons.mpr ⟨hF 136 (by decide), List.forall_mem_cons.mpr ⟨hF 137 (by decide), List.forall_mem_cons.mpr ⟨hF 38 (by decide), List.forall_mem_cons.mpr ⟨hF 42 (by decide), List.forall_mem_cons.mpr ⟨hF 138 (by decide), List.forall_mem_cons.mpr ⟨hF 75 (by decide), List.forall_mem_cons.mpr ⟨hF 76 (by decide), List.forall_mem_cons.mpr ⟨hF 77 (by decide), List.forall_mem_cons.mpr ⟨hF 78 (by decide), List.forall_mem_cons.mpr ⟨hF 155 (by decide), List.forall_mem_cons.mpr ⟨hF 156 (by decide), List.forall_mem_cons.mpr ⟨hF 157 (by decide), List.forall_mem_cons.mpr ⟨hF 158 (by decide), List.forall_mem_cons.mpr ⟨hF 80 (by decide), List.forall_mem_cons.mpr ⟨hF 81 (by decide), List.forall_mem_cons.mpr ⟨hF 82 (by decide), List.forall_mem_cons.mpr ⟨hF 83 (by decide), List.forall_mem_cons.mpr ⟨hF 84 (by decide), List.forall_mem_cons.mpr ⟨hF 85 (by decide), List.forall_mem_cons.mpr ⟨hF 86 (by decide), List.forall_mem_cons.mpr ⟨hF 87 (by decide), List.forall_mem_cons.mpr ⟨hF 159 (by decide), List.forall_mem_cons.mpr ⟨hF 89 (by decide), List.forall_mem_cons.mpr ⟨hF 90 (by decide), List.forall_mem_cons.mpr ⟨hF 91 (by decide), List.forall_mem_cons.mpr ⟨hF 92 (by decide), List.forall_mem_cons.mpr ⟨hF 160 (by decide), List.forall_mem_cons.mpr ⟨hF 97 (by decide), List.forall_mem_cons.mpr ⟨hF 98 (by decide), List.forall_mem_cons.mpr ⟨hF 99 (by decide), List.forall_mem_cons.mpr ⟨hF 162 (by decide), List.forall_mem_cons.mpr ⟨hF 163 (by decide), List.forall_mem_cons.mpr ⟨hF 164 (by decide), List.forall_mem_cons.mpr ⟨hF 101 (by decide), List.forall_mem_cons.mpr ⟨hF 167 (by decide), List.forall_mem_cons.mpr ⟨hF 106 (by decide), List.forall_mem_cons.mpr ⟨hF 168 (by decide), fun _ h => nomatch h⟩⟩⟩⟩⟩⟩⟩⟩⟩⟩⟩⟩⟩⟩⟩⟩⟩⟩⟩⟩⟩⟩⟩⟩⟩⟩⟩⟩⟩⟩⟩⟩⟩⟩⟩⟩⟩⟩⟩⟩⟩⟩⟩⟩⟩⟩⟩⟩⟩⟩⟩⟩⟩⟩⟩⟩⟩⟩⟩⟩⟩⟩⟩⟩⟩⟩⟩⟩⟩⟩⟩⟩⟩⟩⟩⟩⟩⟩⟩⟩⟩⟩⟩⟩⟩, List.forall_mem_cons.mpr ⟨congrFun (hF 0 (by decide)) 0, List.forall_mem_cons.mpr ⟨congrFun (hF 114 (by decide)) 0, List.forall_mem_cons.mpr ⟨congrFun (hF 1 (by decide)) 5, List.forall_mem_cons.mpr ⟨congrFun (hF 114 (by decide)) 1, List.forall_mem_cons.mpr ⟨congrFun (hF 7 (by decide)) 9, List.forall_mem_cons.mpr ⟨congrFun (hF 114 (by decide)) 9, List.forall_mem_cons.mpr ⟨hO 8 (by decide), List.forall_mem_cons.mpr ⟨congrFun (hF 114 (by decide)) 22, List.forall_mem_cons.mpr ⟨congrFun (hF 41 (by decide)) 1, List.forall_mem_cons.mpr ⟨congrFun (hF 114 (by decide)) 29, List.forall_mem_cons.mpr ⟨congrFun (hF 41 (by decide)) 6, List.forall_mem_cons.mpr ⟨congrFun (hF 114 (by decide)) 32, List.forall_mem_cons.mpr ⟨congrFun (hF 74 (by decide)) 4, List.forall_mem_cons.mpr ⟨congrFun (hF 114 (by decide)) 54, List.forall_mem_cons.mpr ⟨congrFun (hF 88 (by decide)) 7, List.forall_mem_cons.mpr ⟨congrFun (hF 114 (by decide)) 60, List.forall_mem_cons.mpr ⟨congrFun (hF 96 (by decide)) 4, List.forall_mem_cons.mpr ⟨congrFun (hF 114 (by decide)) 63, fun _ h => nomatch h⟩⟩⟩⟩⟩⟩⟩⟩⟩⟩⟩⟩⟩⟩⟩⟩⟩⟩⟩
theorem HoldP.rr {d : Int} {σ τ : Nat → Int → Int} (h : HoldP d σ τ) (hd : 0 ≤ d ∧ d ≤ 2000) (hR : RR σ) : RR τ := RR_of hR h.sc.1 h.sc.2 (h.cache hd)
/-- key k of a row in the class's telling -/
def kyS (v : Int) (k : Nat) : Int := v / 8 ^ k % 8 - 1
def nkS (v : Int) : Nat → Int
  | 0 => 0
  | k + 1 => nkS v k + (if kyS v k = -1 then 0 else 1)
theorem kyS_b {v k : Int} (hv : 0 ≤ v ∧ v ≤ 4095) (hk : 0 ≤ k ∧ k ≤ 3) : bAnd (bShr v (3 * k)) 7 - 1 = kyS v k.toNat := by
  rw [bShr_i (by omega) (by omega)]
  rcases (by omega : k = 0 ∨ k = 1 ∨ k = 2 ∨ k = 3) with rfl | rfl | rfl | rfl
  · show bAnd (v / 1) 7 - 1 = v / 1 % 8 - 1
    rw [bAnd_7 (by omega)]
  · show bAnd (v / 8) 7 - 1 = v / 8 % 8 - 1
    rw [bAnd_7 (by omega)]
  · show bAnd (v / 64) 7 - 1 = v / 64 % 8 - 1
    rw [bAnd_7 (by omega)]
  · show bAnd (v / 512) 7 - 1 = v / 512 % 8 - 1
    rw [bAnd_7 (by omega)]
theorem kyS_rg {v : Int} {k : Nat} : -1 ≤ kyS v k ∧ kyS v k ≤ 6 := by
  unfold kyS
  omega
theorem c_X8_keyOn {k d : Int} (hk : 0 ≤ k ∧ k ≤ 3) (hd : 0 ≤ d ∧ d ≤ 2000) (hO : TmOk σ) (ho : RepL (σ 38) (srtL (σ 18) (fun _ => true) (σ 17 8).toNat)) (hc : RCache (σ 17 7) (σ 17 8) (σ 18) (σ 19) (cdq σ) (vlq σ) (σ 40)) : CI l G M_X8_keyOn 3 [vr 17, vi k, vi d] σ (fun z τ => z = kyS (heldS (σ 18) (σ 19) (cdq σ) (vlq σ) (σ 17 8).toNat d 9) k.toNat ∧ HoldP d σ τ) := by
  refine Ct.of rfl (Nat.le_of_ble_eq_true rfl) ?_
  refine x_aload_n (E_X8_keyOn_0 0 rfl) rfl ?_
  refine x_bipush (z := 9) (E_X8_keyOn_0 1 rfl) (by decide) ?_
  refine x_iload_n (E_X8_keyOn_0 2 rfl) rfl ?_
  refine z_callVi (E_X8_keyOn_0 3 rfl) ml_X8_55 mv_X8_on rfl (by decide) (by decide) (c_X8_on (by omega) hd hO ho hc) (by decide) rfl rfl (Nat.le_of_ble_eq_true rfl) (fun z9 τ9 k9 => ?_)
  obtain ⟨rfl, k9⟩ := k9
  refine x_iconst (E_X8_keyOn_0 4 rfl) ?_
  refine x_iload_n (E_X8_keyOn_0 5 rfl) rfl ?_
  refine x_imul (E_X8_keyOn_0 6 rfl) ?_
  refine x_ishr (E_X8_keyOn_0 7 rfl) ?_
  refine x_bipush (z := 7) (E_X8_keyOn_0 8 rfl) (by decide) ?_
  refine x_iand (E_X8_keyOn_0 9 rfl) ?_
  refine x_iconst (E_X8_keyOn_0 10 rfl) ?_
  refine x_isub (E_X8_keyOn_0 11 rfl) ?_
  refine z_iret (E_X8_keyOn_0 12 rfl) trivial ?_
  exact ⟨kyS_b (hO.held (by omega)) hk, k9⟩
theorem nkS_rg {v : Int} : ∀ {k : Nat}, 0 ≤ nkS v k ∧ nkS v k ≤ k
  | 0 => by unfold nkS; omega
  | k + 1 => by
    have := nkS_rg (v := v) (k := k)
    unfold nkS
    split <;> omega
theorem c_X8_keysOn {d : Int} (hd : 0 ≤ d ∧ d ≤ 2000) (hO : TmOk σ) (ho : RepL (σ 38) (srtL (σ 18) (fun _ => true) (σ 17 8).toNat)) (hc : RCache (σ 17 7) (σ 17 8) (σ 18) (σ 19) (cdq σ) (vlq σ) (σ 40)) : CI l G M_X8_keysOn 4 [vr 17, vi d] σ (fun z τ => z = nkS (heldS (σ 18) (σ 19) (cdq σ) (vlq σ) (σ 17 8).toNat d 9) 4 ∧ HoldP d σ τ) := by
  refine Ct.of rfl (Nat.le_of_ble_eq_true rfl) ?_
  have loop : ∀ (m : Nat) (k n : Int) (τ : Nat → Int → Int), k = 4 - (m : Int) → m ≤ 3 → n = nkS (heldS (σ 18) (σ 19) (cdq σ) (vlq σ) (σ 17 8).toNat d 9) k.toNat → HoldP d σ τ → XI l G M_X8_keysOn 4 4 [some (vr 17), some (vi d), some (vi n), some (vi k)] [] τ (fun z τ => z = nkS (heldS (σ 18) (σ 19) (cdq σ) (vlq σ) (σ 17 8).toNat d 9) 4 ∧ HoldP d σ τ) := by
    intro m
    induction m using Nat.strongRecOn with
    | _ m ih =>
    intro k n τ hk hm hn h
    have es : (k + 1).toNat = k.toNat + 1 := by omega
    have hv := h.held (d' := d)
    refine x_iload_n (E_X8_keysOn_0 4 rfl) rfl ?_
    refine x_iconst (E_X8_keysOn_0 5 rfl) ?_
    refine x_icmp_ge (E_X8_keysOn_0 6 rfl) (by omega) (by decide) (fun c1 => ?_) (fun c1 => ?_)
    · refine x_iload_n (E_X8_keysOn_0 21 rfl) rfl ?_
      refine z_iret (E_X8_keysOn_0 22 rfl) trivial ?_
      rw [show k = 4 by omega] at hn
      exact ⟨hn, h⟩
    · refine x_iload_n (E_X8_keysOn_0 7 rfl) rfl ?_
      refine x_aload_n (E_X8_keysOn_0 8 rfl) rfl ?_
      refine x_iload_n (E_X8_keysOn_0 9 rfl) rfl ?_
      refine x_iload_n (E_X8_keysOn_0 10 rfl) rfl ?_
      refine z_callVi (E_X8_keysOn_0 11 rfl) ml_X8_59 mv_X8_keyOn rfl (by decide) (by decide) (c_X8_keyOn (by omega) hd (h.ok hO) (h.ord ho) (h.cache2 hd)) (by decide) rfl rfl (Nat.le_of_ble_eq_true rfl) (fun z9 τ9 k9 => ?_)
      obtain ⟨rfl, k9⟩ := k9
      rw [hv]
      have k8 := kyS_rg (v := heldS (σ 18) (σ 19) (cdq σ) (vlq σ) (σ 17 8).toNat d 9) (k := k.toNat)
      refine x_iconst (E_X8_keysOn_0 12 rfl) ?_
      refine x_icmp_ne (E_X8_keysOn_0 13 rfl) (by omega) (by decide) (fun c2 => ?_) (fun c2 => ?_)
      · refine x_iconst (E_X8_keysOn_0 16 rfl) ?_
        refine x_iadd (E_X8_keysOn_0 17 rfl) ?_
        refine x_istore_n (E_X8_keysOn_0 18 rfl) rfl ?_
        refine x_iinc (E_X8_keysOn_0 19 rfl) rfl rfl ?_
        refine x_goto (E_X8_keysOn_0 20 rfl) ?_
        refine ih (m - 1) (by omega) _ _ _ (by omega) (by omega) ?_ (h.trans k9)
        rw [es, hn]
        show _ = nkS (heldS (σ 18) (σ 19) (cdq σ) (vlq σ) (σ 17 8).toNat d 9) k.toNat + (if kyS (heldS (σ 18) (σ 19) (cdq σ) (vlq σ) (σ 17 8).toNat d 9) k.toNat = -1 then 0 else 1)
        rw [if_neg (by omega)]
      · refine x_iconst (E_X8_keysOn_0 14 rfl) ?_
        refine x_goto (E_X8_keysOn_0 15 rfl) ?_
        refine x_iadd (E_X8_keysOn_0 17 rfl) ?_
        refine x_istore_n (E_X8_keysOn_0 18 rfl) rfl ?_
        refine x_iinc (E_X8_keysOn_0 19 rfl) rfl rfl ?_
        refine x_goto (E_X8_keysOn_0 20 rfl) ?_
        refine ih (m - 1) (by omega) _ _ _ (by omega) (by omega) ?_ (h.trans k9)
        rw [es, hn]
        show _ = nkS (heldS (σ 18) (σ 19) (cdq σ) (vlq σ) (σ 17 8).toNat d 9) k.toNat + (if kyS (heldS (σ 18) (σ 19) (cdq σ) (vlq σ) (σ 17 8).toNat d 9) k.toNat = -1 then 0 else 1)
        rw [if_pos (by omega)]
  refine x_iconst (E_X8_keysOn_0 0 rfl) ?_
  refine x_istore_n (E_X8_keysOn_0 1 rfl) rfl ?_
  refine x_iconst (E_X8_keysOn_0 2 rfl) ?_
  refine x_istore_n (E_X8_keysOn_0 3 rfl) rfl ?_
  refine x_iload_n (E_X8_keysOn_0 4 rfl) rfl ?_
  refine x_iconst (E_X8_keysOn_0 5 rfl) ?_
  refine x_icmp_ge (E_X8_keysOn_0 6 rfl) (by omega) (by decide) (fun c1 => ?_) (fun c1 => ?_)
  · exfalso; omega
  · refine x_iload_n (E_X8_keysOn_0 7 rfl) rfl ?_
    refine x_aload_n (E_X8_keysOn_0 8 rfl) rfl ?_
    refine x_iload_n (E_X8_keysOn_0 9 rfl) rfl ?_
    refine x_iload_n (E_X8_keysOn_0 10 rfl) rfl ?_
    refine z_callVi (E_X8_keysOn_0 11 rfl) ml_X8_59 mv_X8_keyOn rfl (by decide) (by decide) (c_X8_keyOn (k := 0) (by omega) hd hO ho hc) (by decide) rfl rfl (Nat.le_of_ble_eq_true rfl) (fun z9 τ9 k9 => ?_)
    obtain ⟨rfl, k9⟩ := k9
    have k8 := kyS_rg (v := heldS (σ 18) (σ 19) (cdq σ) (vlq σ) (σ 17 8).toNat d 9) (k := (0 : Int).toNat)
    refine x_iconst (E_X8_keysOn_0 12 rfl) ?_
    refine x_icmp_ne (E_X8_keysOn_0 13 rfl) (by omega) (by decide) (fun c2 => ?_) (fun c2 => ?_)
    · refine x_iconst (E_X8_keysOn_0 16 rfl) ?_
      refine x_iadd (E_X8_keysOn_0 17 rfl) ?_
      refine x_istore_n (E_X8_keysOn_0 18 rfl) rfl ?_
      refine x_iinc (E_X8_keysOn_0 19 rfl) rfl rfl ?_
      refine x_goto (E_X8_keysOn_0 20 rfl) ?_
      refine loop 3 _ _ _ (by omega) (by omega) ?_ k9
      show _ = nkS (heldS (σ 18) (σ 19) (cdq σ) (vlq σ) (σ 17 8).toNat d 9) 0 + (if kyS (heldS (σ 18) (σ 19) (cdq σ) (vlq σ) (σ 17 8).toNat d 9) 0 = -1 then 0 else 1)
      rw [if_neg (by assumption)]
      rfl
    · refine x_iconst (E_X8_keysOn_0 14 rfl) ?_
      refine x_goto (E_X8_keysOn_0 15 rfl) ?_
      refine x_iadd (E_X8_keysOn_0 17 rfl) ?_
      refine x_istore_n (E_X8_keysOn_0 18 rfl) rfl ?_
      refine x_iinc (E_X8_keysOn_0 19 rfl) rfl rfl ?_
      refine x_goto (E_X8_keysOn_0 20 rfl) ?_
      refine loop 3 _ _ _ (by omega) (by omega) ?_ k9
      show _ = nkS (heldS (σ 18) (σ 19) (cdq σ) (vlq σ) (σ 17 8).toNat d 9) 0 + (if kyS (heldS (σ 18) (σ 19) (cdq σ) (vlq σ) (σ 17 8).toNat d 9) 0 = -1 then 0 else 1)
      rw [if_pos (by assumption)]
      rfl

/-- what force answers, by what holds -/
def frS (h : Int → Int) (w : Int) : Int := if w < 9 then h w else if w = 9 then nkS (h 9) 4 else kyS (h 9) (w - 10).toNat
theorem c_X10_force {w d : Int} (q1 : rgi w) (q2 : rgi d) (hO : TmOk σ) (ho : RepL (σ 38) (srtL (σ 18) (fun _ => true) (σ 17 8).toNat)) (hc : RCache (σ 17 7) (σ 17 8) (σ 18) (σ 19) (cdq σ) (vlq σ) (σ 40)) : CI l G M_X10_force 5 [vr 0, vi w, vi d] σ (fun z τ => (¬ ((0 ≤ w ∧ w ≤ 13) ∧ 0 ≤ d ∧ d ≤ 2000) ∧ z = -1002 ∧ τ = σ) ∨ (((0 ≤ w ∧ w ≤ 13) ∧ 0 ≤ d ∧ d ≤ 2000) ∧ z = frS (heldS (σ 18) (σ 19) (cdq σ) (vlq σ) (σ 17 8).toNat d) w ∧ HoldP d σ τ)) := by
  refine Ct.of rfl (Nat.le_of_ble_eq_true rfl) ?_
  refine x_iload_n (E_X10_force_0 0 rfl) rfl ?_
  refine x_iconst (E_X10_force_0 1 rfl) ?_
  refine x_bipush (z := 13) (E_X10_force_0 2 rfl) (by decide) ?_
  refine z_callSi (E_X10_force_0 3 rfl) ml_X10_100 ms_X10_within (c_X10_within (by omega) (by omega) (by omega)) (by decide) rfl rfl (Nat.le_of_ble_eq_true rfl) (fun z9 τ9 h9 => ?_)
  obtain ⟨rfl, ⟨rfl, c1⟩ | ⟨rfl, c1⟩⟩ := h9
  · refine x_if_eq (E_X10_force_0 4 rfl) (by decide) (fun c9 => absurd c9 (by decide)) (fun _ => ?_)
    refine x_iload_n (E_X10_force_0 5 rfl) rfl ?_
    refine z_callSi (E_X10_force_0 6 rfl) ml_X10_207 ms_X10_isDay (c_X10_isDay (by omega)) (by decide) rfl rfl (Nat.le_of_ble_eq_true rfl) (fun z9 τ9 h9 => ?_)
    obtain ⟨rfl, ⟨rfl, c2⟩ | ⟨rfl, c2⟩⟩ := h9
    · refine x_if_ne (E_X10_force_0 7 rfl) (by decide) (fun _ => ?_) (fun c9 => absurd c9 (by decide))
      refine x_iload_n (E_X10_force_0 10 rfl) rfl ?_
      refine x_bipush (z := 9) (E_X10_force_0 11 rfl) (by decide) ?_
      refine x_icmp_ge (E_X10_force_0 12 rfl) (by omega) (by decide) (fun c3 => ?_) (fun c3 => ?_)
      · refine x_iload_n (E_X10_force_0 19 rfl) rfl ?_
        refine x_bipush (z := 9) (E_X10_force_0 20 rfl) (by decide) ?_
        refine x_icmp_ne (E_X10_force_0 21 rfl) (by omega) (by decide) (fun c4 => ?_) (fun c4 => ?_)
        · refine x_aload_n (E_X10_force_0 27 rfl) rfl ?_
          refine x_getR (E_X10_force_0 28 rfl) fl_X10_30 rfl (by decide) rfl ?_
          refine x_iload_n (E_X10_force_0 29 rfl) rfl ?_
          refine x_bipush (z := 9) (E_X10_force_0 30 rfl) (by decide) ?_
          refine x_isub (E_X10_force_0 31 rfl) ?_
          refine x_iconst (E_X10_force_0 32 rfl) ?_
          refine x_isub (E_X10_force_0 33 rfl) ?_
          refine x_iload_n (E_X10_force_0 34 rfl) rfl ?_
          refine z_callVi (E_X10_force_0 35 rfl) ml_X10_229 mv_X8_keyOn rfl (by decide) (by decide) (c_X8_keyOn (by omega) (by omega) hO ho hc) (by decide) rfl rfl (Nat.le_of_ble_eq_true rfl) (fun z9 τ9 k9 => ?_)
          have ef : frS (heldS (σ 18) (σ 19) (cdq σ) (vlq σ) (σ 17 8).toNat d) w = _ := (if_neg (show ¬ w < 9 by omega)).trans (if_neg (show ¬ w = 9 by omega))
          rw [show w - 9 - 1 = w - 10 by omega] at k9
          refine z_iret (E_X10_force_0 36 rfl) trivial ?_
          exact Or.inr ⟨by omega, k9.1.trans ef.symm, k9.2⟩
        · refine x_aload_n (E_X10_force_0 22 rfl) rfl ?_
          refine x_getR (E_X10_force_0 23 rfl) fl_X10_30 rfl (by decide) rfl ?_
          refine x_iload_n (E_X10_force_0 24 rfl) rfl ?_
          refine z_callVi (E_X10_force_0 25 rfl) ml_X10_226 mv_X8_keysOn rfl (by decide) (by decide) (c_X8_keysOn (by omega) hO ho hc) (by decide) rfl rfl (Nat.le_of_ble_eq_true rfl) (fun z9 τ9 k9 => ?_)
          have ef : frS (heldS (σ 18) (σ 19) (cdq σ) (vlq σ) (σ 17 8).toNat d) w = _ := (if_neg (show ¬ w < 9 by omega)).trans (if_pos (show w = 9 by omega))
          refine x_goto (E_X10_force_0 26 rfl) ?_
          refine z_iret (E_X10_force_0 36 rfl) trivial ?_
          exact Or.inr ⟨by omega, k9.1.trans ef.symm, k9.2⟩
      · refine x_aload_n (E_X10_force_0 13 rfl) rfl ?_
        refine x_getR (E_X10_force_0 14 rfl) fl_X10_30 rfl (by decide) rfl ?_
        refine x_iload_n (E_X10_force_0 15 rfl) rfl ?_
        refine x_iload_n (E_X10_force_0 16 rfl) rfl ?_
        refine z_callVi (E_X10_force_0 17 rfl) ml_X10_222 mv_X8_on rfl (by decide) (by decide) (c_X8_on (by omega) (by omega) hO ho hc) (by decide) rfl rfl (Nat.le_of_ble_eq_true rfl) (fun z9 τ9 k9 => ?_)
        have ef := (if_pos (show w < 9 by omega) : frS (heldS (σ 18) (σ 19) (cdq σ) (vlq σ) (σ 17 8).toNat d) w = _)
        refine z_iret (E_X10_force_0 18 rfl) trivial ?_
        exact Or.inr ⟨by omega, k9.1.trans ef.symm, k9.2⟩
    · refine x_if_ne (E_X10_force_0 7 rfl) (by decide) (fun c9 => absurd c9 (by decide)) (fun _ => ?_)
      refine x_sipush (z := (-1002)) (E_X10_force_0 8 rfl) (by decide) ?_
      refine z_iret (E_X10_force_0 9 rfl) trivial ?_
      exact Or.inl ⟨by omega, rfl, rfl⟩
  · refine x_if_eq (E_X10_force_0 4 rfl) (by decide) (fun _ => ?_) (fun c9 => absurd (by decide) c9)
    refine x_sipush (z := (-1002)) (E_X10_force_0 8 rfl) (by decide) ?_
    refine z_iret (E_X10_force_0 9 rfl) trivial ?_
    exact Or.inl ⟨by omega, rfl, rfl⟩

