/-! part -/
variable {l : Launch} {G : GC} {σ : Nat → Int → Int}

set_option maxRecDepth 100000 in
theorem RR_part {σ τ : Nat → Int → Int} (hR : RR σ) (hF : Fr [106, 168] σ τ)  (n10 : RPart (τ 106) (τ 168)) : RR τ := by
  obtain ⟨r0, r1, r2, r3, r4, r5, r6, r7, r8, r9, -, r11⟩ := hR
  have hS : RR (setc (setc σ 106 (τ 106)) 168 (τ 168)) := ⟨r0, r1, r2, r3, r4, r5, r6, r7, r8, r9, n10, r11⟩
  exact RR_of hS (List.forall_mem_cons.mpr ⟨hF 2 (by decide), List.forall_mem_cons.mpr ⟨hF 3 (by decide), List.forall_mem_cons.mpr ⟨hF 4 (by decide), List.forall_mem_cons.mpr ⟨hF 5 (by decide), List.forall_mem_cons.mpr ⟨hF 6 (by decide), List.forall_mem_cons.mpr ⟨hF 115 (by decide), List.forall_mem_cons.mpr ⟨hF 116 (by decide), List.forall_mem_cons.mpr ⟨hF 117 (by decide), List.forall_mem_cons.mpr ⟨hF 119 (by decide), List.forall_mem_cons.mpr ⟨hF 120 (by decide), List.forall_mem_cons.mpr ⟨hF 105 (by decide), List.forall_mem_cons.mpr ⟨hF 121 (by decide), List.forall_mem_cons.mpr ⟨hF 8 (by decide), List.forall_mem_cons.mpr ⟨hF 9 (by decide), List.forall_mem_cons.mpr ⟨hF 10 (by decide), List.forall_mem_cons.mpr ⟨hF 11 (by decide), List.forall_mem_cons.mpr ⟨hF 12 (by decide), List.forall_mem_cons.mpr ⟨hF 13 (by decide), List.forall_mem_cons.mpr ⟨hF 14 (by decide), List.forall_mem_cons.mpr ⟨hF 122 (by decide), List.forall_mem_cons.mpr ⟨hF 123 (by decide), List.forall_mem_cons.mpr ⟨hF 124 (by decide), List.forall_mem_cons.mpr ⟨hF 125 (by decide), List.forall_mem_cons.mpr ⟨hF 126 (by decide), List.forall_mem_cons.mpr ⟨hF 127 (by decide), List.forall_mem_cons.mpr ⟨hF 128 (by decide), List.forall_mem_cons.mpr ⟨hF 15 (by decide), List.forall_mem_cons.mpr ⟨hF 18 (by decide), List.forall_mem_cons.mpr ⟨hF 19 (by decide), List.forall_mem_cons.mpr ⟨hF 133 (by decide), List.forall_mem_cons.mpr ⟨hF 134 (by decide), List.forall_mem_cons.mpr ⟨hF 21 (by decide), List.forall_mem_cons.mpr ⟨hF 22 (by decide), List.forall_mem_cons.mpr ⟨hF 23 (by decide), List.forall_mem_cons.mpr ⟨hF 24 (by decide), List.forall_mem_cons.mpr ⟨hF 25 (by decide), List.forall_mem_cons.mpr ⟨hF 26 (by decide), List.forall_mem_cons.mpr ⟨hF 27 (by decide), List.forall_mem_cons.mpr ⟨hF 28 (by decide), List.forall_mem_cons.mpr ⟨hF 30 (by decide), List.forall_mem_cons.mpr ⟨hF 31 (by decide), List.forall_mem_cons.mpr ⟨hF 32 (by decide), List.forall_mem_cons.mpr ⟨hF 33 (by decide), List.forall_mem_cons.mpr ⟨hF 34 (by decide), List.forall_mem_cons.mpr ⟨hF 35 (by decide), List.forall_mem_cons.mpr ⟨hF 36 (by decide), List.forall_mem_cons.mpr ⟨hF 37 (by decide), List.forall_mem_cons.mpr ⟨hF 135 (by decide), List.forall_mem_cons.mpr ⟨hF 136 (by decide), List.forall_mem_cons.mpr ⟨hF 137 (by decide), List.forall_mem_cons.mpr ⟨hF 38 (by decide), List.forall_mem_cons.mpr ⟨hF 42 (by decide), List.forall_mem_cons.mpr ⟨hF 138 (by decide), List.forall_mem_cons.mpr ⟨hF 75 (by decide), List.forall_mem_cons.mpr ⟨hF 76 (by decide), List.forall_mem_cons.mpr ⟨hF 77 (by decide), List.forall_mem_cons.mpr ⟨hF 78 (by decide), List.forall_mem_cons.mpr ⟨hF 155 (by decide), List.forall_mem_cons.mpr ⟨hF 156 (by decide), List.forall_mem_cons.mpr ⟨hF 157 (by decide), List.forall_mem_cons.mpr ⟨hF 158 (by decide), List.forall_mem_cons.mpr ⟨hF 80 (by decide), List.forall_mem_cons.mpr ⟨hF 81 (by decide), List.forall_mem_cons.mpr ⟨hF 82 (by decide), List.forall_mem_cons.mpr ⟨hF 83 (by decide), List.forall_mem_cons.mpr ⟨hF 84 (by decide), List.forall_mem_cons.mpr ⟨hF 85 (by decide), List.forall_mem_cons.mpr ⟨hF 86 (by decide), List.forall_mem_cons.mpr ⟨hF 87 (by decide), List.forall_mem_cons.mpr ⟨hF 159 (by decide), List.forall_mem_cons.mpr ⟨hF 89 (by decide), List.forall_mem_cons.mpr ⟨hF 90 (by decide), List.forall_mem_cons.mpr ⟨hF 91 (by decide), List.forall_mem_cons.mpr ⟨hF 92 (by decide), List.forall_mem_cons.mpr ⟨hF 160 (by decide), List.forall_mem_cons.mpr ⟨hF 97 (by decide), List.forall_mem_cons.mpr ⟨hF 98 (by decide), List.forall_mem_cons.mpr ⟨hF 99 (by decide), List.forall_mem_cons.mpr ⟨hF 162 (by decide), List.forall_mem_cons.mpr ⟨hF 163 (by decide), List.forall_mem_cons.mpr ⟨hF 164 (by decide), List.forall_mem_cons.mpr ⟨hF 101 (by decide), List.forall_mem_cons.mpr ⟨hF 167 (by decide), List.forall_mem_cons.mpr ⟨rfl, List.forall_mem_cons.mpr ⟨rfl, fun _ h => nomatch h⟩⟩⟩⟩⟩⟩⟩⟩⟩⟩⟩⟩⟩⟩⟩⟩⟩⟩⟩⟩⟩⟩⟩⟩⟩⟩⟩⟩⟩⟩⟩⟩⟩⟩⟩⟩⟩⟩⟩⟩⟩⟩⟩⟩⟩⟩⟩⟩⟩⟩⟩⟩⟩⟩⟩⟩⟩⟩⟩⟩⟩⟩⟩⟩⟩⟩⟩⟩⟩⟩⟩⟩⟩⟩⟩⟩⟩⟩⟩⟩⟩⟩⟩⟩⟩) (List.forall_mem_cons.mpr ⟨congrFun (hF 0 (by decide)) 0, List.forall_mem_cons.mpr ⟨congrFun (hF 114 (by decide)) 0, List.forall_mem_cons.mpr ⟨congrFun (hF 1 (by decide)) 5, List.forall_mem_cons.mpr ⟨congrFun (hF 114 (by decide)) 1, List.forall_mem_cons.mpr ⟨congrFun (hF 7 (by decide)) 9, List.forall_mem_cons.mpr ⟨congrFun (hF 114 (by decide)) 9, List.forall_mem_cons.mpr ⟨congrFun (hF 17 (by decide)) 8, List.forall_mem_cons.mpr ⟨congrFun (hF 114 (by decide)) 22, List.forall_mem_cons.mpr ⟨congrFun (hF 41 (by decide)) 1, List.forall_mem_cons.mpr ⟨congrFun (hF 114 (by decide)) 29, List.forall_mem_cons.mpr ⟨congrFun (hF 41 (by decide)) 6, List.forall_mem_cons.mpr ⟨congrFun (hF 114 (by decide)) 32, List.forall_mem_cons.mpr ⟨congrFun (hF 74 (by decide)) 4, List.forall_mem_cons.mpr ⟨congrFun (hF 114 (by decide)) 54, List.forall_mem_cons.mpr ⟨congrFun (hF 88 (by decide)) 7, List.forall_mem_cons.mpr ⟨congrFun (hF 114 (by decide)) 60, List.forall_mem_cons.mpr ⟨congrFun (hF 96 (by decide)) 4, List.forall_mem_cons.mpr ⟨congrFun (hF 114 (by decide)) 63, fun _ h => nomatch h⟩⟩⟩⟩⟩⟩⟩⟩⟩⟩⟩⟩⟩⟩⟩⟩⟩⟩) (by rw [show τ 17 7 = σ 17 7 from congrFun (hF 17 (by decide)) 7, show τ 40 = σ 40 from hF 40 (by decide)]; exact r11)

/-- bit t turned -/
def flp (v t : Int) : Int := bXor v (bShl 1 t)
theorem flp_all : ∀ v : Fin 16, ∀ t : Fin 4, (0 ≤ flp (v.val : Int) (t.val : Int) ∧ flp (v.val : Int) (t.val : Int) < 16) ∧ ∀ u : Fin 4, flp (v.val : Int) (t.val : Int) / 2 ^ u.val % 2 = if u.val = t.val then 1 - (v.val : Int) / 2 ^ u.val % 2 else (v.val : Int) / 2 ^ u.val % 2 := by decide +kernel
theorem flp_rg {v t : Int} (hv : 0 ≤ v ∧ v < 16) (ht : 0 ≤ t ∧ t ≤ 3) : 0 ≤ flp v t ∧ flp v t < 16 := by
  have := (flp_all ⟨v.toNat, by omega⟩ ⟨t.toNat, by omega⟩).1
  rw [show ((⟨v.toNat, by omega⟩ : Fin 16).val : Int) = v from by show (v.toNat : Int) = v; omega, show ((⟨t.toNat, by omega⟩ : Fin 4).val : Int) = t from by show (t.toNat : Int) = t; omega] at this
  exact this
theorem flp_bit {v t : Int} {u : Nat} (hv : 0 ≤ v ∧ v < 16) (ht : 0 ≤ t ∧ t ≤ 3) (hu : u < 4) : flp v t / 2 ^ u % 2 = if (u : Int) = t then 1 - v / 2 ^ u % 2 else v / 2 ^ u % 2 := by
  have := (flp_all ⟨v.toNat, by omega⟩ ⟨t.toNat, by omega⟩).2 ⟨u, hu⟩
  rw [show ((⟨v.toNat, by omega⟩ : Fin 16).val : Int) = v from by show (v.toNat : Int) = v; omega, show ((⟨t.toNat, by omega⟩ : Fin 4).val : Int) = t from by show (t.toNat : Int) = t; omega] at this
  refine this.trans ?_
  by_cases e : (u : Int) = t
  · rw [if_pos e, if_pos (show u = t.toNat by omega)]
  · rw [if_neg e, if_neg (show ¬ u = t.toNat by omega)]
theorem bit_b {v t : Int} (hv : 0 ≤ v ∧ v < 16) (ht : 0 ≤ t ∧ t ≤ 3) : bAnd (bShr v t) 1 = v / 2 ^ t.toNat % 2 := by
  rw [bShr_i (by omega) (by omega)]
  refine bAnd_1 ⟨Int.ediv_nonneg hv.1 (Int.le_of_lt (Int.pow_pos (by decide))), ?_⟩
  have : v / 2 ^ t.toNat ≤ v := Int.ediv_le_self _ hv.1
  omega
set_option maxHeartbeats 1000000 in
theorem c_X10_part {s t b : Int} (q1 : rgi s) (q2 : rgi t) (hb : b = 0 ∨ b = 1) (hp : ∀ x, 0 ≤ x → x < 4 → 0 ≤ σ 106 x ∧ σ 106 x < 16) : CI l G M_X10_part 2 [vr 0, vi s, vi t, vi b] σ (fun z τ => (¬ ((0 ≤ s ∧ s ≤ 3) ∧ (0 ≤ t ∧ t ≤ 3) ∧ s ≠ t) ∧ z = -1002 ∧ τ = σ) ∨ (((0 ≤ s ∧ s ≤ 3) ∧ (0 ≤ t ∧ t ≤ 3) ∧ s ≠ t) ∧ z = σ 106 s / 2 ^ t.toNat % 2 ∧ Fr [106] σ τ ∧ ((z = b ∧ τ = σ) ∨ (z ≠ b ∧ ∀ x, 0 ≤ x → x < 4 → τ 106 x = if x = t then flp (σ 106 t) s else if x = s then flp (σ 106 s) t else σ 106 x)))) := by
  refine Ct.of rfl (Nat.le_of_ble_eq_true rfl) ?_
  refine x_iload_n (E_X10_part_0 0 rfl) rfl ?_
  refine z_callSi (E_X10_part_0 1 rfl) ml_X10_111 ms_X10_isSort (c_X10_isSort (by omega)) (by decide) rfl rfl (Nat.le_of_ble_eq_true rfl) (fun z9 τ9 h9 => ?_)
  obtain ⟨rfl, ⟨rfl, c1⟩ | ⟨rfl, c1⟩⟩ := h9
  · refine x_if_eq (E_X10_part_0 2 rfl) (by decide) (fun c9 => absurd c9 (by decide)) (fun _ => ?_)
    refine x_iload_n (E_X10_part_0 3 rfl) rfl ?_
    refine z_callSi (E_X10_part_0 4 rfl) ml_X10_111 ms_X10_isSort (c_X10_isSort (by omega)) (by decide) rfl rfl (Nat.le_of_ble_eq_true rfl) (fun z9 τ9 h9 => ?_)
    obtain ⟨rfl, ⟨rfl, c2⟩ | ⟨rfl, c2⟩⟩ := h9
    · refine x_if_eq (E_X10_part_0 5 rfl) (by decide) (fun c9 => absurd c9 (by decide)) (fun _ => ?_)
      refine x_iload_n (E_X10_part_0 6 rfl) rfl ?_
      refine x_iload_n (E_X10_part_0 7 rfl) rfl ?_
      refine x_icmp_ne (E_X10_part_0 8 rfl) (by omega) (by omega) (fun c3 => ?_) (fun c3 => ?_)
      · have p9 := hp s (by omega) (by omega)
        refine x_aload_n (E_X10_part_0 11 rfl) rfl ?_
        refine x_getR (E_X10_part_0 12 rfl) fl_X10_90 rfl (by decide) rfl ?_
        refine x_iload_n (E_X10_part_0 13 rfl) rfl ?_
        refine x_ialde (f := σ 106) (E_X10_part_0 14 rfl) rfl (by decide) (by omega) rfl ?_
        refine x_iload_n (E_X10_part_0 15 rfl) rfl ?_
        refine x_ishr (E_X10_part_0 16 rfl) ?_
        refine x_iconst (E_X10_part_0 17 rfl) ?_
        refine x_iand (E_X10_part_0 18 rfl) ?_
        refine x_istore (E_X10_part_0 19 rfl) rfl ?_
        have hz := bit_b (v := σ 106 s) (t := t) p9 (by omega)
        refine x_iload (E_X10_part_0 20 rfl) rfl ?_
        refine x_iconst (E_X10_part_0 21 rfl) ?_
        refine x_icmp_ne (E_X10_part_0 22 rfl) (by omega) (by decide) (fun c4 => ?_) (fun c4 => ?_)
        · refine x_iconst (E_X10_part_0 25 rfl) ?_
          refine x_iload_n (E_X10_part_0 26 rfl) rfl ?_
          refine x_icmp_eq (E_X10_part_0 27 rfl) (by decide) (by omega) (fun c5 => ?_) (fun c5 => ?_)
          · refine x_iload (E_X10_part_0 48 rfl) rfl ?_
            refine z_iret (E_X10_part_0 49 rfl) trivial ?_
            exact Or.inr ⟨by omega, hz, Fr.rf, Or.inl ⟨by omega, rfl⟩⟩
          · refine x_aload_n (E_X10_part_0 28 rfl) rfl ?_
            refine x_getR (E_X10_part_0 29 rfl) fl_X10_90 rfl (by decide) rfl ?_
            refine x_iload_n (E_X10_part_0 30 rfl) rfl ?_
            refine x_dup2 (E_X10_part_0 31 rfl) ?_
            refine x_ialde (f := σ 106) (E_X10_part_0 32 rfl) rfl (by decide) (by omega) rfl ?_
            refine x_iconst (E_X10_part_0 33 rfl) ?_
            refine x_iload_n (E_X10_part_0 34 rfl) rfl ?_
            refine x_ishl (E_X10_part_0 35 rfl) ?_
            refine x_ixor (E_X10_part_0 36 rfl) ?_
            refine x_iast (E_X10_part_0 37 rfl) rfl (by decide) (by omega) ?_
            refine x_aload_n (E_X10_part_0 38 rfl) rfl ?_
            refine x_getR (E_X10_part_0 39 rfl) fl_X10_90 rfl (by decide) rfl ?_
            refine x_iload_n (E_X10_part_0 40 rfl) rfl ?_
            refine x_dup2 (E_X10_part_0 41 rfl) ?_
            refine x_iald (E_X10_part_0 42 rfl) rfl (by decide) (by omega) ?_
            refine x_iconst (E_X10_part_0 43 rfl) ?_
            refine x_iload_n (E_X10_part_0 44 rfl) rfl ?_
            refine x_ishl (E_X10_part_0 45 rfl) ?_
            refine x_ixor (E_X10_part_0 46 rfl) ?_
            refine x_iast (E_X10_part_0 47 rfl) rfl (by decide) (by omega) ?_
            refine x_iload (E_X10_part_0 48 rfl) rfl ?_
            refine z_iret (E_X10_part_0 49 rfl) trivial ?_
            refine Or.inr ⟨by omega, hz, (Fr.rf.up (by decide)).up (by decide), Or.inr ⟨by omega, fun x x0 x4 => ?_⟩⟩
            show (if x = t then bXor (if t = s then flp (σ 106 s) t else σ 106 t) (bShl 1 s) else if x = s then flp (σ 106 s) t else σ 106 x) = _
            rw [if_neg (show ¬ t = s by omega)]
            rfl
        · refine x_iconst (E_X10_part_0 23 rfl) ?_
          refine x_goto (E_X10_part_0 24 rfl) ?_
          refine x_iload_n (E_X10_part_0 26 rfl) rfl ?_
          refine x_icmp_eq (E_X10_part_0 27 rfl) (by decide) (by omega) (fun c6 => ?_) (fun c6 => ?_)
          · refine x_iload (E_X10_part_0 48 rfl) rfl ?_
            refine z_iret (E_X10_part_0 49 rfl) trivial ?_
            exact Or.inr ⟨by omega, hz, Fr.rf, Or.inl ⟨by omega, rfl⟩⟩
          · refine x_aload_n (E_X10_part_0 28 rfl) rfl ?_
            refine x_getR (E_X10_part_0 29 rfl) fl_X10_90 rfl (by decide) rfl ?_
            refine x_iload_n (E_X10_part_0 30 rfl) rfl ?_
            refine x_dup2 (E_X10_part_0 31 rfl) ?_
            refine x_ialde (f := σ 106) (E_X10_part_0 32 rfl) rfl (by decide) (by omega) rfl ?_
            refine x_iconst (E_X10_part_0 33 rfl) ?_
            refine x_iload_n (E_X10_part_0 34 rfl) rfl ?_
            refine x_ishl (E_X10_part_0 35 rfl) ?_
            refine x_ixor (E_X10_part_0 36 rfl) ?_
            refine x_iast (E_X10_part_0 37 rfl) rfl (by decide) (by omega) ?_
            refine x_aload_n (E_X10_part_0 38 rfl) rfl ?_
            refine x_getR (E_X10_part_0 39 rfl) fl_X10_90 rfl (by decide) rfl ?_
            refine x_iload_n (E_X10_part_0 40 rfl) rfl ?_
            refine x_dup2 (E_X10_part_0 41 rfl) ?_
            refine x_iald (E_X10_part_0 42 rfl) rfl (by decide) (by omega) ?_
            refine x_iconst (E_X10_part_0 43 rfl) ?_
            refine x_iload_n (E_X10_part_0 44 rfl) rfl ?_
            refine x_ishl (E_X10_part_0 45 rfl) ?_
            refine x_ixor (E_X10_part_0 46 rfl) ?_
            refine x_iast (E_X10_part_0 47 rfl) rfl (by decide) (by omega) ?_
            refine x_iload (E_X10_part_0 48 rfl) rfl ?_
            refine z_iret (E_X10_part_0 49 rfl) trivial ?_
            refine Or.inr ⟨by omega, hz, (Fr.rf.up (by decide)).up (by decide), Or.inr ⟨by omega, fun x x0 x4 => ?_⟩⟩
            show (if x = t then bXor (if t = s then flp (σ 106 s) t else σ 106 t) (bShl 1 s) else if x = s then flp (σ 106 s) t else σ 106 x) = _
            rw [if_neg (show ¬ t = s by omega)]
            rfl
      · refine x_sipush (z := (-1002)) (E_X10_part_0 9 rfl) (by decide) ?_
        refine z_iret (E_X10_part_0 10 rfl) trivial ?_
        exact Or.inl ⟨by omega, rfl, rfl⟩
    · refine x_if_eq (E_X10_part_0 5 rfl) (by decide) (fun _ => ?_) (fun c9 => absurd (by decide) c9)
      refine x_sipush (z := (-1002)) (E_X10_part_0 9 rfl) (by decide) ?_
      refine z_iret (E_X10_part_0 10 rfl) trivial ?_
      exact Or.inl ⟨by omega, rfl, rfl⟩
  · refine x_if_eq (E_X10_part_0 2 rfl) (by decide) (fun _ => ?_) (fun c9 => absurd (by decide) c9)
    refine x_sipush (z := (-1002)) (E_X10_part_0 9 rfl) (by decide) ?_
    refine z_iret (E_X10_part_0 10 rfl) trivial ?_
    exact Or.inl ⟨by omega, rfl, rfl⟩
theorem c_X11_part {s t b : Int} (q1 : rgi s) (q2 : rgi t) (hb : b = 0 ∨ b = 1) (hp : ∀ x u, 0 ≤ x → x < 4 → 0 ≤ u → u < 4 → σ 168 (4 * x + u) = 0 ∨ σ 168 (4 * x + u) = 1) : CI l G M_X11_part 1 [vr 114, vi s, vi t, vi b] σ (fun z τ => (¬ ((0 ≤ s ∧ s ≤ 3) ∧ (0 ≤ t ∧ t ≤ 3) ∧ s ≠ t) ∧ z = -1002 ∧ τ = σ) ∨ (((0 ≤ s ∧ s ≤ 3) ∧ (0 ≤ t ∧ t ≤ 3) ∧ s ≠ t) ∧ z = σ 168 (4 * s + t) ∧ τ = upq (upq σ 168 (4 * s + t) b) 168 (4 * t + s) b)) := by
  refine Ct.of rfl (Nat.le_of_ble_eq_true rfl) ?_
  refine x_iload_n (E_X11_part_0 0 rfl) rfl ?_
  refine x_i2l (E_X11_part_0 1 rfl) (by omega) ?_
  refine x_lconst (z := 0) (E_X11_part_0 2 rfl) rfl ?_
  refine x_ldc2 (z := 3) (E_X11_part_0 3 rfl) kc_X11_220 (by decide) ?_
  refine z_callSi (E_X11_part_0 4 rfl) ml_X11_197 ms_X11_in (c_X11_in (by omega) (by omega) (by omega)) (by decide) rfl rfl (Nat.le_of_ble_eq_true rfl) (fun z9 τ9 h9 => ?_)
  obtain ⟨rfl, ⟨rfl, c1⟩ | ⟨rfl, c1⟩⟩ := h9
  · refine x_if_eq (E_X11_part_0 5 rfl) (by decide) (fun c9 => absurd c9 (by decide)) (fun _ => ?_)
    refine x_iload_n (E_X11_part_0 6 rfl) rfl ?_
    refine x_i2l (E_X11_part_0 7 rfl) (by omega) ?_
    refine x_lconst (z := 0) (E_X11_part_0 8 rfl) rfl ?_
    refine x_ldc2 (z := 3) (E_X11_part_0 9 rfl) kc_X11_220 (by decide) ?_
    refine z_callSi (E_X11_part_0 10 rfl) ml_X11_197 ms_X11_in (c_X11_in (by omega) (by omega) (by omega)) (by decide) rfl rfl (Nat.le_of_ble_eq_true rfl) (fun z9 τ9 h9 => ?_)
    obtain ⟨rfl, ⟨rfl, c2⟩ | ⟨rfl, c2⟩⟩ := h9
    · refine x_if_eq (E_X11_part_0 11 rfl) (by decide) (fun c9 => absurd c9 (by decide)) (fun _ => ?_)
      refine x_iload_n (E_X11_part_0 12 rfl) rfl ?_
      refine x_iload_n (E_X11_part_0 13 rfl) rfl ?_
      refine x_icmp_ne (E_X11_part_0 14 rfl) (by omega) (by omega) (fun c3 => ?_) (fun c3 => ?_)
      · have p9 := hp s t (by omega) (by omega) (by omega) (by omega)
        refine x_aload_n (E_X11_part_0 17 rfl) rfl ?_
        refine x_getR (E_X11_part_0 18 rfl) fl_X11_174 rfl (by decide) rfl ?_
        refine x_iconst (E_X11_part_0 19 rfl) ?_
        refine x_iload_n (E_X11_part_0 20 rfl) rfl ?_
        refine x_imul (E_X11_part_0 21 rfl) ?_
        refine x_iload_n (E_X11_part_0 22 rfl) rfl ?_
        refine x_iadd (E_X11_part_0 23 rfl) ?_
        refine x_zalde (f := σ 168) (E_X11_part_0 24 rfl) rfl (by decide) (by omega) rfl ?_
        refine z_callSi (E_X11_part_0 25 rfl) ml_X11_307 ms_X11_one (c_X11_one (by omega)) (by decide) rfl rfl (Nat.le_of_ble_eq_true rfl) (fun z9 τ9 h9 => ?_)
        obtain ⟨rfl, rfl⟩ := h9
        refine x_istore (E_X11_part_0 26 rfl) rfl ?_
        refine x_aload_n (E_X11_part_0 27 rfl) rfl ?_
        refine x_getR (E_X11_part_0 28 rfl) fl_X11_174 rfl (by decide) rfl ?_
        refine x_iconst (E_X11_part_0 29 rfl) ?_
        refine x_iload_n (E_X11_part_0 30 rfl) rfl ?_
        refine x_imul (E_X11_part_0 31 rfl) ?_
        refine x_iload_n (E_X11_part_0 32 rfl) rfl ?_
        refine x_iadd (E_X11_part_0 33 rfl) ?_
        refine x_iload_n (E_X11_part_0 34 rfl) rfl ?_
        refine x_zast (E_X11_part_0 35 rfl) rfl (by decide) (by omega) hb ?_
        refine x_aload_n (E_X11_part_0 36 rfl) rfl ?_
        refine x_getR (E_X11_part_0 37 rfl) fl_X11_174 rfl (by decide) rfl ?_
        refine x_iconst (E_X11_part_0 38 rfl) ?_
        refine x_iload_n (E_X11_part_0 39 rfl) rfl ?_
        refine x_imul (E_X11_part_0 40 rfl) ?_
        refine x_iload_n (E_X11_part_0 41 rfl) rfl ?_
        refine x_iadd (E_X11_part_0 42 rfl) ?_
        refine x_iload_n (E_X11_part_0 43 rfl) rfl ?_
        refine x_zast (E_X11_part_0 44 rfl) rfl (by decide) (by omega) hb ?_
        refine x_iload (E_X11_part_0 45 rfl) rfl ?_
        refine z_iret (E_X11_part_0 46 rfl) trivial ?_
        exact Or.inr ⟨by omega, rfl, rfl⟩
      · refine x_sipush (z := (-1002)) (E_X11_part_0 15 rfl) (by decide) ?_
        refine z_iret (E_X11_part_0 16 rfl) trivial ?_
        exact Or.inl ⟨by omega, rfl, rfl⟩
    · refine x_if_eq (E_X11_part_0 11 rfl) (by decide) (fun _ => ?_) (fun c9 => absurd (by decide) c9)
      refine x_sipush (z := (-1002)) (E_X11_part_0 15 rfl) (by decide) ?_
      refine z_iret (E_X11_part_0 16 rfl) trivial ?_
      exact Or.inl ⟨by omega, rfl, rfl⟩
  · refine x_if_eq (E_X11_part_0 5 rfl) (by decide) (fun _ => ?_) (fun c9 => absurd (by decide) c9)
    refine x_sipush (z := (-1002)) (E_X11_part_0 15 rfl) (by decide) ?_
    refine z_iret (E_X11_part_0 16 rfl) trivial ?_
    exact Or.inl ⟨by omega, rfl, rfl⟩
theorem pair_part {s t b : Int} (hR : RR σ) (q1 : rgi s) (q2 : rgi t) (hb : b = 0 ∨ b = 1) : Pair l G M_X10_part 2 M_X11_part 1 [vi s, vi t, vi b] σ := by
  have hR0 := hR
  obtain ⟨-, -, -, -, -, -, -, -, -, -, ⟨r11, rd⟩, -⟩ := hR
  have hp : ∀ x, 0 ≤ x → x < 4 → 0 ≤ σ 106 x ∧ σ 106 x < 16 := fun x a b => (r11 x a b).1
  have hm : ∀ x u, 0 ≤ x → x < 4 → 0 ≤ u → u < 4 → (σ 168 (4 * x + u) = 0 ∨ σ 168 (4 * x + u) = 1) ∧ σ 106 x / 2 ^ u.toNat % 2 = σ 168 (4 * x + u) ∧ σ 168 (4 * u + x) = σ 168 (4 * x + u) := fun x u a b c d => by
    have := (r11 x a b).2 u.toNat (by omega)
    rw [show ((u.toNat : Nat) : Int) = u by omega] at this
    exact this
  refine ⟨_, c_X10_part q1 q2 hb hp, fun z τ c1 => ?_⟩
  have e168 : Fr [106] σ τ → τ 168 = σ 168 := fun h => h 168 (by decide)
  rcases c1 with ⟨a, rfl, rfl⟩ | ⟨a, rfl, hF, c1⟩
  · refine ⟨by omega, CI_mono (c_X11_part q1 q2 hb (fun x u a b c d => (hm x u a b c d).1)) (fun z υ c2 => ?_)⟩
    rcases c2 with ⟨_, rfl, rfl⟩ | ⟨b, -⟩
    · exact ⟨rfl, hR0⟩
    · exact absurd b a
  · have m1 := hm s t (by omega) (by omega) (by omega) (by omega)
    refine ⟨by omega, CI_mono (c_X11_part q1 q2 hb (by rw [e168 hF]; exact fun x u a b c d => (hm x u a b c d).1)) (fun z υ c2 => ?_)⟩
    rw [e168 hF] at c2
    rcases c2 with ⟨b, -⟩ | ⟨_, rfl, rfl⟩
    · exact absurd a b
    · refine ⟨m1.2.1.symm, ?_⟩
      refine RR_part hR0 (((hF.sub (by decide)).up (by decide)).up (by decide)) ?_
      show RPart (τ 106) (fun j => if j = 4 * t + s then b else if j = 4 * s + t then b else τ 168 j)
      rw [e168 hF]
      rcases c1 with ⟨ez, rfl⟩ | ⟨ez, c1⟩
      · have em : (fun j => if j = 4 * t + s then b else if j = 4 * s + t then b else τ 168 j) = τ 168 := by
          funext j
          by_cases e1 : j = 4 * t + s
          · rw [if_pos e1, e1, m1.2.2, ← m1.2.1, ez]
          · rw [if_neg e1]
            by_cases e2 : j = 4 * s + t
            · rw [if_pos e2, e2, ← m1.2.1, ez]
            · rw [if_neg e2]
        rw [em]
        exact ⟨r11, rd⟩
      · refine ⟨?_, fun x x0 x4 => (if_neg (by omega)).trans ((if_neg (by omega)).trans (rd x x0 x4))⟩
        intro x x0 x4
        rw [c1 x x0 x4]
        have bs : b = 1 - σ 106 s / 2 ^ t.toNat % 2 := by omega
        have m2 := hm t s (by omega) (by omega) (by omega) (by omega)
        refine ⟨?_, fun u hu => ?_⟩
        · by_cases e1 : x = t
          · rw [if_pos e1]; exact flp_rg (hp t (by omega) (by omega)) (by omega)
          · rw [if_neg e1]
            by_cases e2 : x = s
            · rw [if_pos e2]; exact flp_rg (hp s (by omega) (by omega)) (by omega)
            · rw [if_neg e2]; exact hp x x0 x4
        · have m3 := hm x u x0 x4 (by omega) (by omega)
          rw [show ((u : Int).toNat) = u by omega] at m3
          dsimp only
          by_cases e1 : x = t
          · subst e1
            rw [if_pos rfl, flp_bit (hp x x0 x4) (by omega) hu]
            by_cases e3 : (u : Int) = s
            · subst e3
              rw [if_pos rfl, if_pos rfl, if_neg (by omega), if_pos rfl, m3.2.1]
              refine ⟨hb, ?_, rfl⟩
              rw [bs, m1.2.1, m1.2.2]
            · rw [if_neg e3, if_neg (by omega), if_neg (by omega), if_neg (by omega), if_neg (by omega)]
              exact m3
          · rw [if_neg e1]
            by_cases e2 : x = s
            · subst e2
              rw [if_pos rfl, flp_bit (hp x x0 x4) (by omega) hu]
              by_cases e3 : (u : Int) = t
              · subst e3
                rw [if_pos rfl, if_neg (by omega), if_pos rfl, if_pos rfl, m3.2.1]
                refine ⟨hb, ?_, rfl⟩
                rw [bs, m1.2.1]
              · rw [if_neg e3, if_neg (by omega), if_neg (by omega), if_neg (by omega), if_neg (by omega)]
                exact m3
            · rw [if_neg e2, if_neg (by omega), if_neg (by omega), if_neg (by omega), if_neg (by omega)]
              exact m3

