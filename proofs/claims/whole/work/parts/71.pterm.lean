/-! term on both -/
variable {l : Launch} {G : GC} {σ : Nat → Int → Int}

set_option maxRecDepth 100000 in
theorem RR_term {σ τ : Nat → Int → Int} (hR : RR σ) (hF : Fr [17, 18, 19, 21, 22, 23, 24, 25, 26, 27, 28, 30, 31, 32, 33, 34, 35, 36, 37, 38, 41, 43, 44, 114, 133, 134, 135, 136, 137] σ τ) (h17 : Fo 17 [7, 8] σ τ) (h41 : Fo 41 [1, 4, 5, 6, 7, 8] σ τ) (h114 : Fo 114 [22, 29, 30, 31, 32, 33, 34] σ τ) (n4 : RTerms (τ 17 8) (τ 114 22) (τ 18) (τ 19) (τ 133) (τ 134) (cdq τ) (vlq τ) (τ 135) (τ 136) (τ 137) (τ 38)) (n5 : RText (τ 41 1) (τ 114 29) (σ 42) (σ 138) (τ 41 6) (τ 114 32)) (n11 : RCache (τ 17 7) (τ 17 8) (τ 18) (τ 19) (cdq τ) (vlq τ) (τ 40)) : RR τ := by
  obtain ⟨r0, r1, r2, r3, -, -, r6, r7, r8, r9, r10, -⟩ := hR
  have hS : RR (upq (setc (upq (upq (upq (upq (upq (upq (setc (setc (setc (setc (setc (setc (setc (setc (setc (setc (setc (setc (setc (setc (setc (setc (setc (setc (setc (setc (setc (setc (setc (setc σ 18 (τ 18)) 19 (τ 19)) 21 (τ 21)) 22 (τ 22)) 23 (τ 23)) 24 (τ 24)) 25 (τ 25)) 26 (τ 26)) 27 (τ 27)) 28 (τ 28)) 30 (τ 30)) 31 (τ 31)) 32 (τ 32)) 33 (τ 33)) 34 (τ 34)) 35 (τ 35)) 36 (τ 36)) 37 (τ 37)) 38 (τ 38)) 133 (τ 133)) 134 (τ 134)) 135 (τ 135)) 136 (τ 136)) 137 (τ 137)) 17 8 (τ 17 8)) 41 1 (τ 41 1)) 41 6 (τ 41 6)) 114 22 (τ 114 22)) 114 29 (τ 114 29)) 114 32 (τ 114 32)) 40 (τ 40)) 17 7 (τ 17 7)) := ⟨r0, r1, r2, r3, n4, n5, r6, r7, r8, r9, r10, n11⟩
  exact RR_of hS (List.forall_mem_cons.mpr ⟨hF 2 (by decide), List.forall_mem_cons.mpr ⟨hF 3 (by decide), List.forall_mem_cons.mpr ⟨hF 4 (by decide), List.forall_mem_cons.mpr ⟨hF 5 (by decide), List.forall_mem_cons.mpr ⟨hF 6 (by decide), List.forall_mem_cons.mpr ⟨hF 115 (by decide), List.forall_mem_cons.mpr ⟨hF 116 (by decide), List.forall_mem_cons.mpr ⟨hF 117 (by decide), List.forall_mem_cons.mpr ⟨hF 119 (by decide), List.forall_mem_cons.mpr ⟨hF 120 (by decide), List.forall_mem_cons.mpr ⟨hF 105 (by decide), List.forall_mem_cons.mpr ⟨hF 121 (by decide), List.forall_mem_cons.mpr ⟨hF 8 (by decide), List.forall_mem_cons.mpr ⟨hF 9 (by decide), List.forall_mem_cons.mpr ⟨hF 10 (by decide), List.forall_mem_cons.mpr ⟨hF 11 (by decide), List.forall_mem_cons.mpr ⟨hF 12 (by decide), List.forall_mem_cons.mpr ⟨hF 13 (by decide), List.forall_mem_cons.mpr ⟨hF 14 (by decide), List.forall_mem_cons.mpr ⟨hF 122 (by decide), List.forall_mem_cons.mpr ⟨hF 123 (by decide), List.forall_mem_cons.mpr ⟨hF 124 (by decide), List.forall_mem_cons.mpr ⟨hF 125 (by decide), List.forall_mem_cons.mpr ⟨hF 126 (by decide), List.forall_mem_cons.mpr ⟨hF 127 (by decide), List.forall_mem_cons.mpr ⟨hF 128 (by decide), List.forall_mem_cons.mpr ⟨hF 15 (by decide), List.forall_mem_cons.mpr ⟨rfl, List.forall_mem_cons.mpr ⟨rfl, List.forall_mem_cons.mpr ⟨rfl, List.forall_mem_cons.mpr ⟨rfl, List.forall_mem_cons.mpr ⟨rfl, List.forall_mem_cons.mpr ⟨rfl, List.forall_mem_cons.mpr ⟨rfl, List.forall_mem_cons.mpr ⟨rfl, List.forall_mem_cons.mpr ⟨rfl, List.forall_mem_cons.mpr ⟨rfl, List.forall_mem_cons.mpr ⟨rfl, List.forall_mem_cons.mpr ⟨rfl, List.forall_mem_cons.mpr ⟨rfl, List.forall_mem_cons.mpr ⟨rfl, List.forall_mem_cons.mpr ⟨rfl, List.forall_mem_cons.mpr ⟨rfl, List.forall_mem_cons.mpr ⟨rfl, List.forall_mem_cons.mpr ⟨rfl, List.forall_mem_cons.mpr ⟨rfl, List.forall_mem_cons.mpr ⟨rfl, List.forall_mem_cons.mpr ⟨rfl, List.forall_mem_cons.mpr ⟨rfl, List.forall_mem_cons.mpr ⟨rfl, List.forall_mem_cons.mpr ⟨rfl, List.forall_mem_cons.mpr ⟨hF 42 (by decide), List.forall_mem_cons.mpr ⟨hF 138 (by decide), List.forall_mem_cons.mpr ⟨hF 75 (by decide), List.forall_mem_cons.mpr ⟨hF 76 (by decide), List.forall_mem_cons.mpr ⟨hF 77 (by decide), List.forall_mem_cons.mpr ⟨hF 78 (by decide), List.forall_mem_cons.mpr ⟨hF 155 (by decide), List.forall_mem_cons.mpr ⟨hF 156 (by decide), List.forall_mem_cons.mpr ⟨hF 157 (by decide), List.forall_mem_cons.mpr ⟨hF 158 (by decide), List.forall_mem_cons.mpr ⟨hF 80 (by decide), List.forall_mem_cons.mpr ⟨hF 81 (by decide), List.forall_mem_cons.mpr ⟨hF 82 (by decide), List.forall_mem_cons.mpr ⟨hF 83 (by decide), List.forall_mem_cons.mpr ⟨hF 84 (by decide), List.forall_mem_cons.mpr ⟨hF 85 (by decide), List.forall_mem_cons.mpr ⟨hF 86 (by decide), List.forall_mem_cons.mpr ⟨hF 87 (by decide), List.forall_mem_cons.mpr ⟨hF 159 (by decide), List.forall_mem_cons.mpr ⟨hF 89 (by decide), List.forall_mem_cons.mpr ⟨hF 90 (by decide), List.forall_mem_cons.mpr ⟨hF 91 (by decide), List.forall_mem_cons.mpr ⟨hF 92 (by decide), List.forall_mem_cons.mpr ⟨hF 160 (by decide), List.forall_mem_cons.mpr ⟨hF 97 (by decide), List.forall_mem_cons.mpr ⟨hF 98 (by decide), List.forall_mem_cons.mpr ⟨hF 99 (by decide), List.forall_mem_cons.mpr ⟨hF 162 (by decide), List.forall_mem_cons.mpr ⟨hF 163 (by decide), List.forall_mem_cons.mpr ⟨hF 164 (by decide), List.forall_mem_cons.mpr ⟨hF 101 (by decide), List.forall_mem_cons.mpr ⟨hF 167 (by decide), List.forall_mem_cons.mpr ⟨hF 106 (by decide), List.forall_mem_cons.mpr ⟨hF 168 (by decide), fun _ h => nomatch h⟩⟩⟩⟩⟩⟩⟩⟩⟩⟩⟩⟩⟩⟩⟩⟩⟩⟩⟩⟩⟩⟩⟩⟩⟩⟩⟩⟩⟩⟩⟩⟩⟩⟩⟩⟩⟩⟩⟩⟩⟩⟩⟩⟩⟩⟩⟩⟩⟩⟩⟩⟩⟩⟩⟩⟩⟩⟩⟩⟩⟩⟩⟩⟩⟩⟩⟩⟩⟩⟩⟩⟩⟩⟩⟩⟩⟩⟩⟩⟩⟩⟩⟩⟩⟩) (List.forall_mem_cons.mpr ⟨congrFun (hF 0 (by decide)) 0, List.forall_mem_cons.mpr ⟨h114 0 (by decide), List.forall_mem_cons.mpr ⟨congrFun (hF 1 (by decide)) 5, List.forall_mem_cons.mpr ⟨h114 1 (by decide), List.forall_mem_cons.mpr ⟨congrFun (hF 7 (by decide)) 9, List.forall_mem_cons.mpr ⟨h114 9 (by decide), List.forall_mem_cons.mpr ⟨rfl, List.forall_mem_cons.mpr ⟨rfl, List.forall_mem_cons.mpr ⟨rfl, List.forall_mem_cons.mpr ⟨rfl, List.forall_mem_cons.mpr ⟨rfl, List.forall_mem_cons.mpr ⟨rfl, List.forall_mem_cons.mpr ⟨congrFun (hF 74 (by decide)) 4, List.forall_mem_cons.mpr ⟨h114 54 (by decide), List.forall_mem_cons.mpr ⟨congrFun (hF 88 (by decide)) 7, List.forall_mem_cons.mpr ⟨h114 60 (by decide), List.forall_mem_cons.mpr ⟨congrFun (hF 96 (by decide)) 4, List.forall_mem_cons.mpr ⟨h114 63 (by decide), fun _ h => nomatch h⟩⟩⟩⟩⟩⟩⟩⟩⟩⟩⟩⟩⟩⟩⟩⟩⟩⟩) n11

theorem pair_term {d : Int} (hR : RR σ) (hd : rgi d) : Pair l G M_X10_term 10 M_X11_term 4 [vi d] σ := by
  have hR0 := hR
  obtain ⟨r0, r1, r2, r3, r4, r5, r6, r7, r8, r9, r10, r11⟩ := hR
  obtain ⟨e22, hnt, ⟨e33, e34⟩, hrow, hord⟩ := r4
  obtain ⟨e29, hlen, e138, htx, e32, hfa⟩ := r5
  have ht : TxOk (σ 41 1) (σ 42) := ⟨hlen, htx⟩
  have cm : ∀ τ, τ 114 = σ 114 → τ 138 = σ 138 → CI l G M_X11_term 4 [vr 114, vi d] τ (TmQ d τ) := fun τ a b => c_X11_term hd (by rw [a, e22]; exact hnt) (by rw [a, b, e29, e138]; exact ht)
  refine ⟨_, c_X10_term hd hnt ht (fun i a b => (hrow i a b).1) hord, fun z τ q => ?_⟩
  rcases q with ⟨a, rfl, e⟩ | ⟨a, b, rfl, e⟩ | ⟨a, b, ρ, ⟨N, hN, s9, f9, k9, j9, l9, F9, O9⟩, q⟩
  · obtain rfl := e.symm
    refine ⟨by decide, CI_mono (cm σ rfl rfl) (fun z υ c => ?_)⟩
    rcases c with ⟨_, rfl, rfl⟩ | ⟨c, -⟩ | ⟨c, -⟩
    · exact ⟨rfl, hR0⟩
    · exact absurd c a
    · exact absurd c a
  · obtain rfl := e.symm
    refine ⟨by decide, CI_mono (cm σ rfl rfl) (fun z υ c => ?_)⟩
    rcases c with ⟨c, -⟩ | ⟨_, _, rfl, rfl⟩ | ⟨_, c, -⟩
    · exact absurd a c
    · exact ⟨rfl, hR0⟩
    · omega
  have ff := flt_f (tx := σ 42) (len := σ 41 1) (nt := σ 17 8) (N := N)
  have fp := flt_pl (tx := σ 42) (len := σ 41 1) (nt := σ 17 8) (N := N) hlen.1
  rcases q with ⟨g0, rfl, e⟩ | ⟨g0, hz, ⟨t18, t19⟩, trow, ⟨t178, t177⟩, tord, TF, TO⟩
  · obtain rfl := e.symm
    refine ⟨by omega, CI_mono (cm ρ (F9 114 (by decide)) (F9 138 (by decide))) (fun z υ c => ?_)⟩
    have ea : ρ 138 = σ 42 := (F9 138 (by decide)).trans e138
    have eb : ρ 114 29 = σ 41 1 := by rw [F9 114 (by decide)]; exact e29
    have ec : ρ 114 22 = σ 17 8 := by rw [F9 114 (by decide)]; exact e22
    rcases c with ⟨c, -⟩ | ⟨_, c, -⟩ | ⟨_, _, N', hN', s', ⟨u29, u32⟩, hol, hh, UG, UO⟩
    · exact absurd a c
    · omega
    rw [ea, eb, ec] at s' u32 hh
    rw [ec] at hol
    obtain rfl := s9.one s'
    obtain ⟨_, hz, u33, u34, u22⟩ := hh.resolve_right (fun h => by have := h.1; omega)
    refine ⟨by omega, ?_⟩
    have hF : Fr [17, 18, 19, 21, 22, 23, 24, 25, 26, 27, 28, 30, 31, 32, 33, 34, 35, 36, 37, 38, 41, 43, 44, 114, 133, 134, 135, 136, 137] σ υ := Fr.trans F9 UG (by decide) (by decide)
    have k : ∀ i, i ∉ [17, 18, 19, 21, 22, 23, 24, 25, 26, 27, 28, 30, 31, 32, 33, 34, 35, 36, 37, 38, 41, 43, 44, 114, 133, 134, 135, 136, 137] → υ i = σ i := hF
    have c17 : υ 17 = σ 17 := (UG 17 (by decide)).trans (F9 17 (by decide))
    have c18 : υ 18 = σ 18 := (UG 18 (by decide)).trans (F9 18 (by decide))
    have c19 : υ 19 = σ 19 := (UG 19 (by decide)).trans (F9 19 (by decide))
    have c38 : υ 38 = σ 38 := (UG 38 (by decide)).trans (F9 38 (by decide))
    have c40 : υ 40 = σ 40 := (UG 40 (by decide)).trans (F9 40 (by decide))
    have c41 : υ 41 = ρ 41 := UG 41 (by decide)
    have c42 : υ 42 = σ 42 := (UG 42 (by decide)).trans (F9 42 (by decide))
    have c138 : υ 138 = σ 138 := (UG 138 (by decide)).trans (F9 138 (by decide))
    have c33 : υ 133 = σ 133 := u33.trans (F9 133 (by decide))
    have c34 : υ 134 = σ 134 := u34.trans (F9 134 (by decide))
    have ecd : cdq υ = cdq σ := by
      unfold cdq
      rw [show υ 21 = σ 21 from (UG 21 (by decide)).trans (F9 21 (by decide))]
      rw [show υ 22 = σ 22 from (UG 22 (by decide)).trans (F9 22 (by decide))]
      rw [show υ 23 = σ 23 from (UG 23 (by decide)).trans (F9 23 (by decide))]
      rw [show υ 24 = σ 24 from (UG 24 (by decide)).trans (F9 24 (by decide))]
      rw [show υ 25 = σ 25 from (UG 25 (by decide)).trans (F9 25 (by decide))]
      rw [show υ 26 = σ 26 from (UG 26 (by decide)).trans (F9 26 (by decide))]
      rw [show υ 27 = σ 27 from (UG 27 (by decide)).trans (F9 27 (by decide))]
      rw [show υ 28 = σ 28 from (UG 28 (by decide)).trans (F9 28 (by decide))]
    have evl : vlq υ = vlq σ := by
      unfold vlq
      rw [show υ 30 = σ 30 from (UG 30 (by decide)).trans (F9 30 (by decide))]
      rw [show υ 31 = σ 31 from (UG 31 (by decide)).trans (F9 31 (by decide))]
      rw [show υ 32 = σ 32 from (UG 32 (by decide)).trans (F9 32 (by decide))]
      rw [show υ 33 = σ 33 from (UG 33 (by decide)).trans (F9 33 (by decide))]
      rw [show υ 34 = σ 34 from (UG 34 (by decide)).trans (F9 34 (by decide))]
      rw [show υ 35 = σ 35 from (UG 35 (by decide)).trans (F9 35 (by decide))]
      rw [show υ 36 = σ 36 from (UG 36 (by decide)).trans (F9 36 (by decide))]
      rw [show υ 37 = σ 37 from (UG 37 (by decide)).trans (F9 37 (by decide))]
    refine RR_term hR0 hF (fun j _ => by rw [c17]) (Fo.trans O9 (Fo.of UG (by decide)) (fun k h => h) (fun k h => h)) (Fo.trans (Fo.of F9 (by decide)) UO (fun k h => h) (fun k h => h)) ?_ ?_ ?_
    · rw [c17, c18, c19, c38, c33, c34, ecd, evl]
      refine ⟨by omega, hnt, ⟨e33, e34⟩, fun t t0 t1 => ?_, hord⟩
      have w := hrow t t0 t1
      refine ⟨w.1, w.2.1, fun c c0 c1 => ?_⟩
      have o := hol (10 * t + c) (by omega)
      rw [o.1, o.2.1, o.2.2, F9 135 (by decide), F9 136 (by decide), F9 137 (by decide)]
      exact w.2.2 c c0 c1
    · rw [c41, l9, u29, u32, f9.2]
      exact ⟨rfl, ⟨by decide, by decide⟩, e138, htx, rfl, by omega, by omega⟩
    · rw [c17, c18, c19, ecd, evl, c40]
      exact r11
  have p17 : ρ 17 = σ 17 := F9 17 (by decide)
  have p178 : ρ 17 8 = σ 17 8 := by rw [p17]
  have p18 : ρ 18 = σ 18 := F9 18 (by decide)
  have p19 : ρ 19 = σ 19 := F9 19 (by decide)
  rw [p178] at hz t18 t19 trow t178 tord TF
  rw [p18] at t18
  rw [p19] at t19
  have y114 : τ 114 = σ 114 := (TF 114 (by simp only [List.mem_cons, List.not_mem_nil, or_false, not_or]; omega)).trans (F9 114 (by decide))
  have y138 : τ 138 = σ 138 := (TF 138 (by simp only [List.mem_cons, List.not_mem_nil, or_false, not_or]; omega)).trans (F9 138 (by decide))
  subst hz
  refine ⟨by omega, CI_mono (cm τ y114 y138) (fun z υ c => ?_)⟩
  have ea : τ 138 = σ 42 := y138.trans e138
  have eb : τ 114 29 = σ 41 1 := by rw [y114]; exact e29
  have ec : τ 114 22 = σ 17 8 := by rw [y114]; exact e22
  rcases c with ⟨c, -⟩ | ⟨_, c, -⟩ | ⟨_, _, N', hN', s', ⟨u29, u32⟩, hol, hh, UG, UO⟩
  · exact absurd a c
  · omega
  rw [ea, eb, ec] at s' u32 hh
  rw [ec] at hol
  obtain rfl := s9.one s'
  obtain ⟨_, hz, u33, u34, u22, urow⟩ := hh.resolve_left (fun h => by have := h.1; omega)
  refine ⟨hz, ?_⟩
  have jj := j9 g0
  have G0 : ∀ i, i ∉ [(17 : Nat), 18, 19, 38, 21 + (σ 17 8).toNat, 30 + (σ 17 8).toNat] → i ∉ [(41 : Nat), 43, 44] → i ∉ [(114 : Nat), 133, 134, 135, 136, 137] → υ i = σ i := fun i a b c => ((UG i c).trans (TF i a)).trans (F9 i b)
  have hF : Fr [17, 18, 19, 21, 22, 23, 24, 25, 26, 27, 28, 30, 31, 32, 33, 34, 35, 36, 37, 38, 41, 43, 44, 114, 133, 134, 135, 136, 137] σ υ := fun i hi => by
    simp only [List.mem_cons, List.not_mem_nil, or_false, not_or] at hi
    exact G0 i (by simp only [List.mem_cons, List.not_mem_nil, or_false, not_or]; omega) (by simp only [List.mem_cons, List.not_mem_nil, or_false, not_or]; omega) (by simp only [List.mem_cons, List.not_mem_nil, or_false, not_or]; omega)
  have c17 : υ 17 = τ 17 := UG 17 (by decide)
  have c18 : υ 18 = updI (σ 18) (σ 17 8) d := (UG 18 (by decide)).trans t18
  have c19 : υ 19 = updI (σ 19) (σ 17 8) (ρ 41 4) := (UG 19 (by decide)).trans t19
  have c38 : υ 38 = τ 38 := UG 38 (by decide)
  have c41 : υ 41 = ρ 41 := (UG 41 (by decide)).trans (TF 41 (by simp only [List.mem_cons, List.not_mem_nil, or_false, not_or]; omega))
  have c42 : υ 42 = σ 42 := G0 42 (by simp only [List.mem_cons, List.not_mem_nil, or_false, not_or]; omega) (by decide) (by decide)
  have c138 : υ 138 = σ 138 := G0 138 (by simp only [List.mem_cons, List.not_mem_nil, or_false, not_or]; omega) (by decide) (by decide)
  have q33 : τ 133 = σ 18 := ((TF 133 (by simp only [List.mem_cons, List.not_mem_nil, or_false, not_or]; omega)).trans (F9 133 (by decide))).trans e33
  have q34 : τ 134 = σ 19 := ((TF 134 (by simp only [List.mem_cons, List.not_mem_nil, or_false, not_or]; omega)).trans (F9 134 (by decide))).trans e34
  have q35 : τ 135 = σ 135 := (TF 135 (by simp only [List.mem_cons, List.not_mem_nil, or_false, not_or]; omega)).trans (F9 135 (by decide))
  have q36 : τ 136 = σ 136 := (TF 136 (by simp only [List.mem_cons, List.not_mem_nil, or_false, not_or]; omega)).trans (F9 136 (by decide))
  have q37 : τ 137 = σ 137 := (TF 137 (by simp only [List.mem_cons, List.not_mem_nil, or_false, not_or]; omega)).trans (F9 137 (by decide))
  have h17 : Fo 17 [7, 8] σ υ := fun j hj => by rw [c17, TO j hj, p17]
  refine RR_term hR0 hF h17 (Fo.trans O9 (fun j _ => by rw [c41]) (fun k h => h) (fun k h => h)) (fun j hj => by rw [UO j hj, y114]) ?_ ?_ ?_
  · refine ⟨by rw [u22, c17, t178], by rw [c17, t178]; omega, ⟨by rw [u33, q33, c18], by rw [u34, q34, c19, k9]⟩, fun t t0 t1 => ?_, ?_⟩
    · rw [c17, t178] at t1
      rw [c18, c19, ← cdq_at (σ := υ) (t := t) (by omega), ← vlq_at (σ := υ) (t := t) (by omega)]
      by_cases et : t = σ 17 8
      · subst et
        have v1 : updI (σ 18) (σ 17 8) d (σ 17 8) = d := if_pos rfl
        have v2 : updI (σ 19) (σ 17 8) (ρ 41 4) (σ 17 8) = ρ 41 4 := if_pos rfl
        rw [v1, v2]
        refine ⟨a, by omega, fun c c0 c1 => ?_⟩
        have w := trow c c0 c1
        have w2 := jj c.toNat (by omega)
        have w3 := urow c.toNat (by omega)
        rw [show ((c.toNat : Nat) : Int) = c by omega] at w2 w3
        rw [UG (21 + (σ 17 8).toNat) (by simp only [List.mem_cons, List.not_mem_nil, or_false, not_or]; omega), UG (30 + (σ 17 8).toNat) (by simp only [List.mem_cons, List.not_mem_nil, or_false, not_or]; omega), w.1, w.2, w2.1, w2.2, w3.1, w3.2.1]
        exact cl_rel (psA_rg hlen.1 _) (s9.1 c.toNat (by omega)).2 w3.2.2
      · have v1 : updI (σ 18) (σ 17 8) d t = σ 18 t := if_neg et
        have v2 : updI (σ 19) (σ 17 8) (ρ 41 4) t = σ 19 t := if_neg et
        rw [v1, v2, G0 (21 + t.toNat) (by simp only [List.mem_cons, List.not_mem_nil, or_false, not_or]; omega) (by simp only [List.mem_cons, List.not_mem_nil, or_false, not_or]; omega) (by simp only [List.mem_cons, List.not_mem_nil, or_false, not_or]; omega), G0 (30 + t.toNat) (by simp only [List.mem_cons, List.not_mem_nil, or_false, not_or]; omega) (by simp only [List.mem_cons, List.not_mem_nil, or_false, not_or]; omega) (by simp only [List.mem_cons, List.not_mem_nil, or_false, not_or]; omega), cdq_at (σ := σ) (by omega), vlq_at (σ := σ) (by omega)]
        have w := hrow t t0 (by omega)
        refine ⟨w.1, w.2.1, fun c c0 c1 => ?_⟩
        have o := hol (10 * t + c) (by omega)
        rw [o.1, o.2.1, o.2.2, q35, q36, q37]
        exact w.2.2 c c0 c1
    · rw [c38, c17, t178, show υ 18 = τ 18 from UG 18 (by decide)]
      exact tord
  · rw [c41, l9, u29, u32, f9.2]
    exact ⟨rfl, ⟨by decide, by decide⟩, e138, htx, rfl, by omega, by omega⟩
  · exact Or.inl (by rw [c17]; exact t177)

