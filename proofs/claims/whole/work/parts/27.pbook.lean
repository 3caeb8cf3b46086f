/-! the pair of book -/
variable {l : Launch} {G : GC} {σ : Nat → Int → Int}

/-- what is kept is as it was -/
def Sc (σ τ : Nat → Int → Int) : Prop := (∀ k ∈ PCa, τ k = σ k) ∧ (∀ q ∈ PCo, τ q.1 q.2 = σ q.1 q.2)
/-- and what terms keep of a day too -/
def Sd (σ τ : Nat → Int → Int) : Prop := Sc σ τ ∧ τ 17 7 = σ 17 7 ∧ τ 40 = σ 40
theorem Sc.trans {σ τ υ : Nat → Int → Int} (a : Sc σ τ) (b : Sc τ υ) : Sc σ υ := ⟨fun k h => (b.1 k h).trans (a.1 k h), fun k h => (b.2 k h).trans (a.2 k h)⟩
theorem Sd.trans {σ τ υ : Nat → Int → Int} (a : Sd σ τ) (b : Sd τ υ) : Sd σ υ := ⟨a.1.trans b.1, b.2.1.trans a.2.1, b.2.2.trans a.2.2⟩
theorem Sd.rr {σ τ : Nat → Int → Int} (h : Sd σ τ) (hR : RR σ) : RR τ := RR_of hR h.1.1 h.1.2 (by rw [h.2.1, h.2.2]; exact hR.2.2.2.2.2.2.2.2.2.2.2)
set_option maxRecDepth 100000 in
theorem KnP.sd {kn : Int} {σ τ : Nat → Int → Int} (h : KnP kn σ τ) : Sd σ τ := by
  obtain ⟨-, -, -, hF, hO⟩ := h
  exact ⟨⟨List.forall_mem_cons.mpr ⟨hF 2 (by decide), List.forall_mem_cons.mpr ⟨hF 3 (by decide), List.forall_mem_cons.mpr ⟨hF 4 (by decide), List.forall_mem_cons.mpr ⟨hF 5 (by decide), List.forall_mem_cons.mpr ⟨hF 6 (by decide), List.forall_mem_cons.mpr ⟨hF 115 (by decide), List.forall_mem_cons.mpr ⟨hF 116 (by decide), List.forall_mem_cons.mpr ⟨hF 117 (by decide), List.forall_mem_cons.mpr ⟨hF 119 (by decide), List.forall_mem_cons.mpr ⟨hF 120 (by decide), List.forall_mem_cons.mpr ⟨hF 105 (by decide), List.forall_mem_cons.mpr ⟨hF 121 (by decide), List.forall_mem_cons.mpr ⟨hF 8 (by decide), List.forall_mem_cons.mpr ⟨hF 9 (by decide), List.forall_mem_cons.mpr ⟨hF 10 (by decide), List.forall_mem_cons.mpr ⟨hF 11 (by decide), List.forall_mem_cons.mpr ⟨hF 12 (by decide), List.forall_mem_cons.mpr ⟨hF 13 (by decide), List.forall_mem_cons.mpr ⟨hF 14 (by decide), List.forall_mem_cons.mpr ⟨hF 122 (by decide), List.forall_mem_cons.mpr ⟨hF 123 (by decide), List.forall_mem_cons.mpr ⟨hF 124 (by decide), List.forall_mem_cons.mpr ⟨hF 125 (by decide), List.forall_mem_cons.mpr ⟨hF 126 (by decide), List.forall_mem_cons.mpr ⟨hF 127 (by decide), List.forall_mem_cons.mpr ⟨hF 128 (by decide), List.forall_mem_cons.mpr ⟨hF 15 (by decide), List.forall_mem_cons.mpr ⟨hF 18 (by decide), List.forall_mem_cons.mpr ⟨hF 19 (by decide), List.forall_mem_cons.mpr ⟨hF 133 (by decide), List.forall_mem_cons.mpr ⟨hF 134 (by decide), List.forall_mem_cons.mpr ⟨hF 21 (by decide), List.forall_mem_cons.mpr ⟨hF 22 (by decide), List.forall_mem_cons.mpr ⟨hF 23 (by decide), List.forall_mem_cons.mpr ⟨hF 24 (by decide), List.forall_mem_cons.mpr ⟨hF 25 (by decide), List.forall_mem_cons.mpr ⟨hF 26 (by decide), List.forall_mem_cons.mpr ⟨hF 27 (by decide), List.forall_mem_cons.mpr ⟨hF 28 (by decide), List.forall_mem_cons.mpr ⟨hF 30 (by decide), List.forall_mem_cons.mpr ⟨hF 31 (by decide), List.forall_mem_cons.mpr ⟨hF 32 (by decide), List.forall_mem_cons.mpr ⟨hF 33 (by decide), List.forall_mem_cons.mpr ⟨hF 34 (by decide), List.forall_mem_cons.mpr ⟨hF 35 (by decide), List.forall_mem_cons.mpr ⟨hF 36 (by decide), List.forall_mem_cons.mpr ⟨hF 37 (by decide), List.forall_mem_cons.mpr ⟨hF 135 (by decide), List.forall_mem_cons.mpr ⟨hF 136 (by decide), List.forall_mem_cons.mpr ⟨hF 137 (by decide), List.forall_mem_cons.mpr ⟨hF 38 (by decide), List.forall_mem_cons.mpr ⟨hF 42 (by decide), List.forall_mem_cons.mpr ⟨hF 138 (by decide), List.forall_mem_cons.mpr ⟨hF 75 (by decide), List.forall_mem_cons.mpr ⟨hF 76 (by decide), List.forall_mem_cons.mpr ⟨hF 77 (by decide), List.forall_mem_cons.mpr ⟨hF 78 (by decide), List.forall_mem_cons.mpr ⟨hF 155 (by decide), List.forall_mem_cons.mpr ⟨hF 156 (by decide), List.forall_mem_cons.mpr ⟨hF 157 (by decide), List.forall_mem_cons.mpr ⟨hF 158 (by decide), List.forall_mem_cons.mpr ⟨hF 80 (by decide), List.forall_mem_cons.mpr ⟨hF 81 (by decide), List.forall_mem_cons.mpr ⟨hF 82 (by decide), List.forall_mem_cons.mpr ⟨hF 83 (by decide), List.forall_mem_cons.mpr ⟨hF 84 (by decide), List.forall_mem_cons.mpr ⟨hF 85 (by decide), List.forall_mem_cons.mpr ⟨hF 86 (by decide), List.forall_mem_cons.mpr ⟨hF 87 (by decide), List.forall_mem_cons.mpr ⟨hF 159 (by decide), List.forall_mem_cons.mpr ⟨hF 89 (by decide), List.forall_mem_cons.mpr ⟨hF 90 (by decide), List.forall_mem_cons.mpr ⟨hF 91 (by decide), List.forall_mem_cons.mpr ⟨hF 92 (by decide), List.forall_mem_cons.mpr ⟨hF 160 (by decide), List.forall_mem_cons.mpr ⟨hF 97 (by decide), List.forall_mem_cons.mpr ⟨hF 98 (by decide), List.forall_mem_cons.mpr ⟨hF 99 (by decide), List.forall_mem_cons.mpr ⟨hF 162 (by decide), List.forall_mem_cons.mpr ⟨hF 163 (by decide), List.forall_mem_cons.mpr ⟨hF 164 (by decide), List.forall_mem_cons.mpr ⟨hF 101 (by decide), List.forall_mem_cons.mpr ⟨hF 167 (by decide), List.forall_mem_cons.mpr ⟨hF 106 (by decide), List.forall_mem_cons.mpr ⟨hF 168 (by decide), fun _ h => nomatch h⟩⟩⟩⟩⟩⟩⟩⟩⟩⟩⟩⟩⟩⟩⟩⟩⟩⟩⟩⟩⟩⟩⟩⟩⟩⟩⟩⟩⟩⟩⟩⟩⟩⟩⟩⟩⟩⟩⟩⟩⟩⟩⟩⟩⟩⟩⟩⟩⟩⟩⟩⟩⟩⟩⟩⟩⟩⟩⟩⟩⟩⟩⟩⟩⟩⟩⟩⟩⟩⟩⟩⟩⟩⟩⟩⟩⟩⟩⟩⟩⟩⟩⟩⟩⟩, List.forall_mem_cons.mpr ⟨congrFun (hF 0 (by decide)) 0, List.forall_mem_cons.mpr ⟨congrFun (hF 114 (by decide)) 0, List.forall_mem_cons.mpr ⟨congrFun (hF 1 (by decide)) 5, List.forall_mem_cons.mpr ⟨congrFun (hF 114 (by decide)) 1, List.forall_mem_cons.mpr ⟨hO 9 (by decide), List.forall_mem_cons.mpr ⟨congrFun (hF 114 (by decide)) 9, List.forall_mem_cons.mpr ⟨congrFun (hF 17 (by decide)) 8, List.forall_mem_cons.mpr ⟨congrFun (hF 114 (by decide)) 22, List.forall_mem_cons.mpr ⟨congrFun (hF 41 (by decide)) 1, List.forall_mem_cons.mpr ⟨congrFun (hF 114 (by decide)) 29, List.forall_mem_cons.mpr ⟨congrFun (hF 41 (by decide)) 6, List.forall_mem_cons.mpr ⟨congrFun (hF 114 (by decide)) 32, List.forall_mem_cons.mpr ⟨congrFun (hF 74 (by decide)) 4, List.forall_mem_cons.mpr ⟨congrFun (hF 114 (by decide)) 54, List.forall_mem_cons.mpr ⟨congrFun (hF 88 (by decide)) 7, List.forall_mem_cons.mpr ⟨congrFun (hF 114 (by decide)) 60, List.forall_mem_cons.mpr ⟨congrFun (hF 96 (by decide)) 4, List.forall_mem_cons.mpr ⟨congrFun (hF 114 (by decide)) 63, fun _ h => nomatch h⟩⟩⟩⟩⟩⟩⟩⟩⟩⟩⟩⟩⟩⟩⟩⟩⟩⟩⟩, congrFun (hF 17 (by decide)) 7, hF 40 (by decide)⟩
set_option maxRecDepth 100000 in
theorem FbP.sd {kn : Int} {σ τ : Nat → Int → Int} (h : FbP kn σ τ) : Sd σ τ := by
  obtain ⟨-, -, -, hF, hO⟩ := h
  exact ⟨⟨List.forall_mem_cons.mpr ⟨hF 2 (by decide), List.forall_mem_cons.mpr ⟨hF 3 (by decide), List.forall_mem_cons.mpr ⟨hF 4 (by decide), List.forall_mem_cons.mpr ⟨hF 5 (by decide), List.forall_mem_cons.mpr ⟨hF 6 (by decide), List.forall_mem_cons.mpr ⟨hF 115 (by decide), List.forall_mem_cons.mpr ⟨hF 116 (by decide), List.forall_mem_cons.mpr ⟨hF 117 (by decide), List.forall_mem_cons.mpr ⟨hF 119 (by decide), List.forall_mem_cons.mpr ⟨hF 120 (by decide), List.forall_mem_cons.mpr ⟨hF 105 (by decide), List.forall_mem_cons.mpr ⟨hF 121 (by decide), List.forall_mem_cons.mpr ⟨hF 8 (by decide), List.forall_mem_cons.mpr ⟨hF 9 (by decide), List.forall_mem_cons.mpr ⟨hF 10 (by decide), List.forall_mem_cons.mpr ⟨hF 11 (by decide), List.forall_mem_cons.mpr ⟨hF 12 (by decide), List.forall_mem_cons.mpr ⟨hF 13 (by decide), List.forall_mem_cons.mpr ⟨hF 14 (by decide), List.forall_mem_cons.mpr ⟨hF 122 (by decide), List.forall_mem_cons.mpr ⟨hF 123 (by decide), List.forall_mem_cons.mpr ⟨hF 124 (by decide), List.forall_mem_cons.mpr ⟨hF 125 (by decide), List.forall_mem_cons.mpr ⟨hF 126 (by decide), List.forall_mem_cons.mpr ⟨hF 127 (by decide), List.forall_mem_cons.mpr ⟨hF 128 (by decide), List.forall_mem_cons.mpr ⟨hF 15 (by decide), List.forall_mem_cons.mpr ⟨hF 18 (by decide), List.forall_mem_cons.mpr ⟨hF 19 (by decide), List.forall_mem_cons.mpr ⟨hF 133 (by decide), List.forall_mem_cons.mpr ⟨hF 134 (by decide), List.forall_mem_cons.mpr ⟨hF 21 (by decide), List.forall_mem_cons.mpr ⟨hF 22 (by decide), List.forall_mem_cons.mpr ⟨hF 23 (by decide), List.forall_mem_cons.mpr ⟨hF 24 (by decide), List.forall_mem_cons.mpr ⟨hF 25 (by decide), List.forall_mem_cons.mpr ⟨hF 26 (by decide), List.forall_mem_cons.mpr ⟨hF 27 (by decide), List.forall_mem_cons.mpr ⟨hF 28 (by decide), List.forall_mem_cons.mpr ⟨hF 30 (by decide), List.forall_mem_cons.mpr ⟨hF 31 (by decide), List.forall_mem_cons.mpr ⟨hF 32 (by decide), List.forall_mem_cons.mpr ⟨hF 33 (by decide), List.forall_mem_cons.mpr ⟨hF 34 (by decide), List.forall_mem_cons.mpr ⟨hF 35 (by decide), List.forall_mem_cons.mpr ⟨hF 36 (by decide), List.forall_mem_cons.mpr ⟨hF 37 (by decide), List.forall_mem_cons.mpr ⟨hF 135 (by decide), List.forall_mem_cons.mpr ⟨hF 136 (by decide), List.forall_mem_cons.mpr ⟨hF 137 (by decide), List.forall_mem_cons.mpr ⟨hF 38 (by decide), List.forall_mem_cons.mpr ⟨hF 42 (by decide), List.forall_mem_cons.mpr ⟨hF 138 (by decide), List.forall_mem_cons.mpr ⟨hF 75 (by decide), List.forall_mem_cons.mpr ⟨hF 76 (by decide), List.forall_mem_cons.mpr ⟨hF 77 (by decide), List.forall_mem_cons.mpr ⟨hF 78 (by decide), List.forall_mem_cons.mpr ⟨hF 155 (by decide), List.forall_mem_cons.mpr ⟨hF 156 (by decide), List.forall_mem_cons.mpr ⟨hF 157 (by decide), List.forall_mem_cons.mpr ⟨hF 158 (by decide), List.forall_mem_cons.mpr ⟨hF 80 (by decide), List.forall_mem_cons.mpr ⟨hF 81 (by decide), List.forall_mem_cons.mpr ⟨hF 82 (by decide), List.forall_mem_cons.mpr ⟨hF 83 (by decide), List.forall_mem_cons.mpr ⟨hF 84 (by decide), List.forall_mem_cons.mpr ⟨hF 85 (by decide), List.forall_mem_cons.mpr ⟨hF 86 (by decide), List.forall_mem_cons.mpr ⟨hF 87 (by decide), List.forall_mem_cons.mpr ⟨hF 159 (by decide), List.forall_mem_cons.mpr ⟨hF 89 (by decide), List.forall_mem_cons.mpr ⟨hF 90 (by decide), List.forall_mem_cons.mpr ⟨hF 91 (by decide), List.forall_mem_cons.mpr ⟨hF 92 (by decide), List.forall_mem_cons.mpr ⟨hF 160 (by decide), List.forall_mem_cons.mpr ⟨hF 97 (by decide), List.forall_mem_cons.mpr ⟨hF 98 (by decide), List.forall_mem_cons.mpr ⟨hF 99 (by decide), List.forall_mem_cons.mpr ⟨hF 162 (by decide), List.forall_mem_cons.mpr ⟨hF 163 (by decide), List.forall_mem_cons.mpr ⟨hF 164 (by decide), List.forall_mem_cons.mpr ⟨hF 101 (by decide), List.forall_mem_cons.mpr ⟨hF 167 (by decide), List.forall_mem_cons.mpr ⟨hF 106 (by decide), List.forall_mem_cons.mpr ⟨hF 168 (by decide), fun _ h => nomatch h⟩⟩⟩⟩⟩⟩⟩⟩⟩⟩⟩⟩⟩⟩⟩⟩⟩⟩⟩⟩⟩⟩⟩⟩⟩⟩⟩⟩⟩⟩⟩⟩⟩⟩⟩⟩⟩⟩⟩⟩⟩⟩⟩⟩⟩⟩⟩⟩⟩⟩⟩⟩⟩⟩⟩⟩⟩⟩⟩⟩⟩⟩⟩⟩⟩⟩⟩⟩⟩⟩⟩⟩⟩⟩⟩⟩⟩⟩⟩⟩⟩⟩⟩⟩⟩, List.forall_mem_cons.mpr ⟨congrFun (hF 0 (by decide)) 0, List.forall_mem_cons.mpr ⟨hO 0 (by decide), List.forall_mem_cons.mpr ⟨congrFun (hF 1 (by decide)) 5, List.forall_mem_cons.mpr ⟨hO 1 (by decide), List.forall_mem_cons.mpr ⟨congrFun (hF 7 (by decide)) 9, List.forall_mem_cons.mpr ⟨hO 9 (by decide), List.forall_mem_cons.mpr ⟨congrFun (hF 17 (by decide)) 8, List.forall_mem_cons.mpr ⟨hO 22 (by decide), List.forall_mem_cons.mpr ⟨congrFun (hF 41 (by decide)) 1, List.forall_mem_cons.mpr ⟨hO 29 (by decide), List.forall_mem_cons.mpr ⟨congrFun (hF 41 (by decide)) 6, List.forall_mem_cons.mpr ⟨hO 32 (by decide), List.forall_mem_cons.mpr ⟨congrFun (hF 74 (by decide)) 4, List.forall_mem_cons.mpr ⟨hO 54 (by decide), List.forall_mem_cons.mpr ⟨congrFun (hF 88 (by decide)) 7, List.forall_mem_cons.mpr ⟨hO 60 (by decide), List.forall_mem_cons.mpr ⟨congrFun (hF 96 (by decide)) 4, List.forall_mem_cons.mpr ⟨hO 63 (by decide), fun _ h => nomatch h⟩⟩⟩⟩⟩⟩⟩⟩⟩⟩⟩⟩⟩⟩⟩⟩⟩⟩⟩, congrFun (hF 17 (by decide)) 7, hF 40 (by decide)⟩
/-- the book out of what know leaves -/
theorem KnP.mem {kn : Int} {σ τ : Nat → Int → Int} (h : KnP kn σ τ) (hn : 0 ≤ σ 7 9 ∧ σ 7 9 ≤ 120) {x : Int} (hx : x ∈ srtL (σ 9) (fun _ => true) (σ 7 9).toNat) : (0 ≤ x ∧ x < 120) ∧ (τ 16 x = 0 ∨ τ 16 x = 1) ∧ (inBS (σ 8) (σ 11) (σ 10) kn (σ 7 9).toNat x = true ↔ x < τ 7 10 ∧ τ 16 x = 0) := by
  obtain ⟨h1, h2, h3, -⟩ := h
  have m := srtL_mem.mp hx
  have a := h2 x m.1 (by omega)
  have b := h3 x m.1 (by omega)
  refine ⟨by omega, by rw [b]; exact voidS_rg x, ?_⟩
  unfold inBS
  rw [decide_eq_true_iff, b, a]
theorem book_at {dy : Int → Int} {f : Int → Bool} {n : Nat} {p : Int} : atS f (srtL dy (fun _ => true) n) p = if 0 ≤ p ∧ p < (srtL dy f n).length then (srtL dy f n).getD p.toNat 0 else -1 := by
  have e : (srtL dy (fun _ => true) n).filter f = srtL dy f n := by
    rw [srtL_filter]
    exact srtL_cong (fun i _ _ => ⟨rfl, Bool.true_and _⟩)
  rw [atS_eq, e]
theorem c_X10_book {kn i : Int} (q1 : rgi kn) (q2 : rgi i) (h0 : 0 ≤ σ 0 0 ∧ σ 0 0 ≤ 2000) (hn : 0 ≤ σ 7 9 ∧ σ 7 9 ≤ 120) (hk : ∀ i, 0 ≤ i → i < σ 7 9 → 0 ≤ σ 8 i ∧ σ 8 i ≤ 10) (hT : ∀ i, 0 ≤ i → i < σ 7 9 → σ 8 i = 10 → 0 ≤ σ 11 i ∧ σ 11 i < i) (ht : ∀ i, 0 ≤ i → i < σ 7 9 → 0 ≤ σ 10 i ∧ σ 10 i ≤ 2000) (hs : ∀ i j, 0 ≤ i → i ≤ j → j < σ 7 9 → σ 10 i ≤ σ 10 j) (ho : RepL (σ 15) (srtL (σ 9) (fun _ => true) (σ 7 9).toNat)) : CI l G M_X10_book 2 [vr 0, vi kn, vi i] σ (fun z τ => (¬ (0 ≤ kn ∧ kn ≤ σ 0 0) ∧ z = -1002 ∧ τ = σ) ∨ ((0 ≤ kn ∧ kn ≤ σ 0 0) ∧ z = (if 0 ≤ i ∧ i < (bookS (σ 9) (σ 8) (σ 11) (σ 10) kn (σ 7 9).toNat).length then (bookS (σ 9) (σ 8) (σ 11) (σ 10) kn (σ 7 9).toNat).getD i.toNat 0 else -1) ∧ KnP kn σ τ)) := by
  refine Ct.of rfl (Nat.le_of_ble_eq_true rfl) ?_
  refine x_iload_n (E_X10_book_0 0 rfl) rfl ?_
  refine x_iconst (E_X10_book_0 1 rfl) ?_
  refine x_aload_n (E_X10_book_0 2 rfl) rfl ?_
  refine x_getIe (v := σ 0 0) (E_X10_book_0 3 rfl) fl_X10_7 rfl (by decide) rfl ?_
  refine z_callSi (E_X10_book_0 4 rfl) ml_X10_100 ms_X10_within (c_X10_within (by omega) (by omega) (by omega)) (by decide) rfl rfl (Nat.le_of_ble_eq_true rfl) (fun z9 τ9 h9 => ?_)
  obtain ⟨rfl, ⟨rfl, c1⟩ | ⟨rfl, c1⟩⟩ := h9
  · refine x_if_ne (E_X10_book_0 5 rfl) (by decide) (fun _ => ?_) (fun c9 => absurd c9 (by decide))
    refine x_aload_n (E_X10_book_0 8 rfl) rfl ?_
    refine x_getR (E_X10_book_0 9 rfl) fl_X10_23 rfl (by decide) rfl ?_
    refine x_iload_n (E_X10_book_0 10 rfl) rfl ?_
    refine z_callVv (E_X10_book_0 11 rfl) ml_X10_166 mv_X2_know rfl (by decide) (by decide) (c_X2_know (by omega) hn hk hT ht hs) (by decide) rfl rfl (Nat.le_of_ble_eq_true rfl) (fun τ9 k9 => ?_)
    have e79 := k9.2.2.2.2 9 (by decide)
    have hb := k9.1
    refine x_aload_n (E_X10_book_0 12 rfl) rfl ?_
    refine x_getR (E_X10_book_0 13 rfl) fl_X10_23 rfl (by decide) rfl ?_
    refine x_iload_n (E_X10_book_0 14 rfl) rfl ?_
    refine z_callVi (E_X10_book_0 15 rfl) ml_X10_181 mv_X2_inBookAt rfl (by decide) (by decide) (c_X2_inBookAt (f := inBS (σ 8) (σ 11) (σ 10) kn (σ 7 9).toNat) (O := srtL (σ 9) (fun _ => true) (σ 7 9).toNat) (by omega) (by rw [srtL_len, e79]; omega) (by omega) (by rw [k9.2.2.2.1 15 (by decide)]; exact ho) (fun x hx => k9.mem hn hx)) (by decide) rfl rfl (Nat.le_of_ble_eq_true rfl) (fun z9 υ9 h9 => ?_)
    obtain ⟨e9, rfl⟩ := h9
    refine z_iret (E_X10_book_0 16 rfl) trivial ?_
    exact Or.inr ⟨by omega, e9.trans book_at, k9⟩
  · refine x_if_ne (E_X10_book_0 5 rfl) (by decide) (fun c9 => absurd c9 (by decide)) (fun _ => ?_)
    refine x_sipush (z := (-1002)) (E_X10_book_0 6 rfl) (by decide) ?_
    refine z_iret (E_X10_book_0 7 rfl) trivial ?_
    exact Or.inl ⟨by omega, rfl, rfl⟩
theorem c_X11_book {kn i : Int} (q1 : rgi kn) (q2 : rgi i) (h0 : 0 ≤ σ 114 0 ∧ σ 114 0 ≤ 2000) (hn : 0 ≤ σ 114 9 ∧ σ 114 9 ≤ 120) (hk : ∀ i, 0 ≤ i → i < σ 114 9 → 0 ≤ σ 122 i ∧ σ 122 i ≤ 10) (hT : ∀ i, 0 ≤ i → i < σ 114 9 → σ 122 i = 10 → 0 ≤ σ 125 i ∧ σ 125 i < i) (ht : ∀ i, 0 ≤ i → i < σ 114 9 → 0 ≤ σ 124 i ∧ σ 124 i ≤ 2000) (hd : ∀ i, 0 ≤ i → i < σ 114 9 → 0 ≤ σ 123 i ∧ σ 123 i ≤ 2000) : CI l G M_X11_book 2 [vr 114, vi kn, vi i] σ (fun z τ => (¬ (0 ≤ kn ∧ kn ≤ σ 114 0) ∧ z = -1002 ∧ τ = σ) ∨ ((0 ≤ kn ∧ kn ≤ σ 114 0) ∧ z = (if 0 ≤ i ∧ i < (bookS (σ 123) (σ 122) (σ 125) (σ 124) kn (σ 114 9).toNat).length then (bookS (σ 123) (σ 122) (σ 125) (σ 124) kn (σ 114 9).toNat).getD i.toNat 0 else -1) ∧ FbP kn σ τ)) := by
  have hl9 : (bookS (σ 123) (σ 122) (σ 125) (σ 124) kn (σ 114 9).toNat).length ≤ (σ 114 9).toNat := srtL_len_le
  refine Ct.of rfl (Nat.le_of_ble_eq_true rfl) ?_
  refine x_aload_n (E_X11_book_0 0 rfl) rfl ?_
  refine x_iload_n (E_X11_book_0 1 rfl) rfl ?_
  refine z_callVi (E_X11_book_0 2 rfl) ml_X11_245 mv_X11_isKnown rfl (by decide) (by decide) (c_X11_isKnown (by omega) (by omega)) (by decide) rfl rfl (Nat.le_of_ble_eq_true rfl) (fun z9 τ9 h9 => ?_)
  obtain ⟨rfl, ⟨rfl, c1⟩ | ⟨rfl, c1⟩⟩ := h9
  · refine x_if_ne (E_X11_book_0 3 rfl) (by decide) (fun _ => ?_) (fun c9 => absurd c9 (by decide))
    refine x_aload_n (E_X11_book_0 6 rfl) rfl ?_
    refine x_iload_n (E_X11_book_0 7 rfl) rfl ?_
    refine z_callVv (E_X11_book_0 8 rfl) ml_X11_258 mv_X11_findBook rfl (by decide) (by decide) (c_X11_findBook (by omega) hn hk hT ht hd) (by decide) rfl rfl (Nat.le_of_ble_eq_true rfl) (fun τ9 k9 => ?_)
    have hb := k9.2.2.1
    refine x_iload_n (E_X11_book_0 9 rfl) rfl ?_
    refine x_i2l (E_X11_book_0 10 rfl) (by omega) ?_
    refine x_lconst (z := 0) (E_X11_book_0 11 rfl) rfl ?_
    refine x_aload_n (E_X11_book_0 12 rfl) rfl ?_
    refine x_getIe (v := τ9 114 21) (E_X11_book_0 13 rfl) fl_X11_255 rfl (by decide) rfl ?_
    refine x_iconst (E_X11_book_0 14 rfl) ?_
    refine x_isub (E_X11_book_0 15 rfl) ?_
    refine x_i2l (E_X11_book_0 16 rfl) (by omega) ?_
    refine z_callSi (E_X11_book_0 17 rfl) ml_X11_197 ms_X11_in (c_X11_in (by omega) (by omega) (by omega)) (by decide) rfl rfl (Nat.le_of_ble_eq_true rfl) (fun z9 τ9 h9 => ?_)
    obtain ⟨rfl, ⟨rfl, c2⟩ | ⟨rfl, c2⟩⟩ := h9
    · refine x_if_eq (E_X11_book_0 18 rfl) (by decide) (fun c9 => absurd c9 (by decide)) (fun _ => ?_)
      have g9 := k9.2.1.at (k := i.toNat) (by omega)
      rw [show ((i.toNat : Nat) : Int) = i by omega] at g9
      refine x_aload_n (E_X11_book_0 19 rfl) rfl ?_
      refine x_getR (E_X11_book_0 20 rfl) fl_X11_62 rfl (by decide) rfl ?_
      refine x_iload_n (E_X11_book_0 21 rfl) rfl ?_
      refine x_ialde (f := τ9 132) (E_X11_book_0 22 rfl) rfl (by decide) (by omega) rfl ?_
      refine x_goto (E_X11_book_0 23 rfl) ?_
      refine z_iret (E_X11_book_0 25 rfl) trivial ?_
      exact Or.inr ⟨by omega, by first | exact g9.trans (if_pos (by omega)).symm | exact (if_neg (by omega)).symm, k9⟩
    · refine x_if_eq (E_X11_book_0 18 rfl) (by decide) (fun _ => ?_) (fun c9 => absurd (by decide) c9)
      refine x_iconst (E_X11_book_0 24 rfl) ?_
      refine z_iret (E_X11_book_0 25 rfl) trivial ?_
      exact Or.inr ⟨by omega, by first | exact g9.trans (if_pos (by omega)).symm | exact (if_neg (by omega)).symm, k9⟩
  · refine x_if_ne (E_X11_book_0 3 rfl) (by decide) (fun c9 => absurd c9 (by decide)) (fun _ => ?_)
    refine x_sipush (z := (-1002)) (E_X11_book_0 4 rfl) (by decide) ?_
    refine z_iret (E_X11_book_0 5 rfl) trivial ?_
    exact Or.inl ⟨by omega, rfl, rfl⟩
/-- the lines' numbers that know and findBook ask for -/
theorem RLines.six {now nl n mn : Int} {kd dy td tg pp qq nn mkd mdy mtd mtg mpp mqq mnn ord : Int → Int} (h : RLines now nl n mn kd dy td tg pp qq nn mkd mdy mtd mtg mpp mqq mnn ord) (hn : now ≤ 2000) : (∀ i, 0 ≤ i → i < n → 0 ≤ kd i ∧ kd i ≤ 10) ∧ (∀ i, 0 ≤ i → i < n → kd i = 10 → 0 ≤ tg i ∧ tg i < i) ∧ (∀ i, 0 ≤ i → i < n → 0 ≤ td i ∧ td i ≤ 2000) ∧ (∀ i, 0 ≤ i → i < n → 0 ≤ dy i ∧ dy i ≤ 2000) := by
  obtain ⟨-, -, -, ok, -⟩ := h
  refine ⟨fun i a b => (ok i a b).1, fun i a b => (ok i a b).2.2.2.1, fun i a b => ?_, fun i a b => ?_⟩
  all_goals
    have := (ok i a b).2.1
    omega
theorem pair_book {kn i : Int} (hR : RR σ) (q1 : rgi kn) (q2 : rgi i) : Pair l G M_X10_book 2 M_X11_book 2 [vi kn, vi i] σ := by
  have hR0 := hR
  obtain ⟨⟨e0, h0⟩, -, -, r4, -⟩ := hR
  obtain ⟨k1, k2, k3, k4⟩ := r4.six h0.2
  obtain ⟨e9, h9, ⟨m1, m2, m3, m4, -⟩, -, td9, ord⟩ := r4
  refine ⟨_, c_X10_book q1 q2 h0 h9 k1 k2 k3 td9 ord, fun z τ c1 => ?_⟩
  have bm : ∀ x ∈ (bookS (σ 9) (σ 8) (σ 11) (σ 10) kn (σ 7 9).toNat), 0 ≤ x ∧ x < 120 := fun x hx => by
    have := srtL_mem.mp hx
    omega
  rcases c1 with ⟨a, rfl, rfl⟩ | ⟨a, rfl, c1⟩
  · refine ⟨by omega, CI_mono (c_X11_book q1 q2 (by rw [e0]; exact h0) (by rw [e9]; exact h9) (by rw [e9, m1]; exact k1) (by rw [e9, m1, m4]; exact k2) (by rw [e9, m3]; exact k3) (by rw [e9, m2]; exact k4)) (fun z υ c2 => ?_)⟩
    rw [e0] at c2
    rcases c2 with ⟨b, rfl, rfl⟩ | ⟨b, -, -⟩
    · exact ⟨rfl, hR0⟩
    · exact absurd b a
  · have sd := c1.sd
    have f0 : τ 114 0 = σ 0 0 := (sd.1.2 (114, 0) (by decide)).trans e0
    have f9 : τ 114 9 = σ 7 9 := (sd.1.2 (114, 9) (by decide)).trans e9
    have g1 : τ 122 = σ 8 := (sd.1.1 122 (by decide)).trans m1
    have g2 : τ 123 = σ 9 := (sd.1.1 123 (by decide)).trans m2
    have g3 : τ 124 = σ 10 := (sd.1.1 124 (by decide)).trans m3
    have g4 : τ 125 = σ 11 := (sd.1.1 125 (by decide)).trans m4
    refine ⟨?_, CI_mono (c_X11_book q1 q2 (by rw [f0]; exact h0) (by rw [f9]; exact h9) (by rw [f9, g1]; exact k1) (by rw [f9, g1, g4]; exact k2) (by rw [f9, g3]; exact k3) (by rw [f9, g2]; exact k4)) (fun z υ c2 => ?_)⟩
    · split
      · rename_i h
        have := bm _ (getD_mem (L := (bookS (σ 9) (σ 8) (σ 11) (σ 10) kn (σ 7 9).toNat)) (k := i.toNat) (by omega))
        omega
      · omega
    · rw [f0, f9, g1, g2, g3, g4] at c2
      rcases c2 with ⟨b, -, -⟩ | ⟨b, rfl, c2⟩
      · exact absurd a b
      · exact ⟨rfl, (sd.trans c2.sd).rr hR0⟩

