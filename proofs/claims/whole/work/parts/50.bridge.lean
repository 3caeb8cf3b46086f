/-! the relation and the story -/
variable {l : Launch} {G : GC} {σ τ : Nat → Int → Int}

def nq (σ : Nat → Int → Int) : Nat := (σ 7 9).toNat
def dtq (σ : Nat → Int → Int) : Nat → Int → Int
  | 0 => σ 8
  | 1 => σ 9
  | 2 => σ 11
  | 3 => σ 12
  | 4 => σ 13
  | 5 => σ 14
  | 6 => σ 3
  | _ => fun _ => 0
def hdq (σ : Nat → Int → Int) : Int → Int → Int := fun d => heldS (σ 18) (σ 19) (cdq σ) (vlq σ) (σ 17 8).toNat d
def lsq (σ : Nat → Int → Int) (d kn : Int) : List Int := (bookS (σ 9) (σ 8) (σ 11) (σ 10) kn (nq σ)).filter (fun i => decide (σ 9 i ≤ d))
/-- the story up to d as known on kn -/
def Yq (σ : Nat → Int → Int) (d kn : Int) : Nat → Int → Int := tlS (dtq σ) (hdq σ) (nq σ) (lsq σ d kn) (fun _ _ => 0)
theorem RR.n9 (hR : RR σ) : ((nq σ : Nat) : Int) = σ 7 9 ∧ 0 ≤ σ 7 9 ∧ σ 7 9 ≤ 120 := by
  have h := hR.2.2.2.1.2.1
  unfold nq
  omega
theorem RR.now (hR : RR σ) : 0 ≤ σ 0 0 ∧ σ 0 0 ≤ 2000 := hR.1.2
theorem RR.lots (hR : RR σ) : 0 ≤ σ 1 5 ∧ σ 1 5 ≤ 12 := hR.2.1.2.1
theorem RR.line (hR : RR σ) {i : Int} (h0 : 0 ≤ i) (h1 : i < σ 7 9) : LineOk (σ 0 0) (σ 1 5) (σ 8) (σ 9) (σ 10) (σ 11) (σ 12) (σ 13) (σ 14) i := hR.2.2.2.1.2.2.2.1 i h0 h1
theorem RR.dok (hR : RR σ) : DOk (dtq σ) (hdq σ) (nq σ) (σ 1 5) := by
  have n9 := hR.n9
  have now := hR.now
  refine ⟨by omega, hR.lots, fun i a b => ?_, fun x a b => (hR.2.1.2.2.2 x a b).2.1, fun d q a b => hR.2.2.2.2.1.ok.held ⟨a, b⟩⟩
  obtain ⟨k1, k2, k3, k4, k5, k6, k7, k8, k9, k10, k11, k12, k13⟩ := hR.line a (by omega)
  unfold hasPq at k6 k7
  show (0 ≤ σ 8 i ∧ σ 8 i ≤ 10) ∧ (0 ≤ σ 9 i ∧ σ 9 i ≤ 2000) ∧ (σ 8 i = 0 ∨ σ 8 i = 8 → 0 ≤ σ 11 i ∧ σ 11 i < σ 1 5) ∧ (¬ (σ 8 i = 0 ∨ σ 8 i = 8) → 0 ≤ σ 11 i ∧ σ 11 i < i) ∧ (hasPq (σ 8 i) → 0 ≤ σ 12 i ∧ σ 12 i ≤ 7) ∧ (-1 ≤ σ 12 i ∧ σ 12 i ≤ 7) ∧ (-1 ≤ σ 13 i ∧ σ 13 i ≤ 7) ∧ (σ 8 i = 0 ∨ σ 8 i = 2 ∨ σ 8 i = 7 ∨ σ 8 i = 8 → 1 ≤ σ 14 i ∧ σ 14 i ≤ 200) ∧ (σ 8 i = 3 → 1 ≤ σ 14 i ∧ σ 14 i ≤ 9999) ∧ (-1 ≤ σ 14 i ∧ σ 14 i ≤ 9999)
  unfold hasPq
  refine ⟨by omega, by omega, by omega, ?_, k6, by omega, by omega, by omega, by omega, by omega⟩
  intro h
  by_cases e : σ 8 i = 10
  · exact k4 e
  · have := k5 (by omega); omega
theorem RR.ld (hR : RR σ) : LD (dtq σ) (hdq σ) (nq σ) (σ 1 5) σ := ⟨⟨rfl, rfl, rfl, rfl, rfl, rfl, rfl⟩, ⟨hR.n9.1.symm, rfl⟩, hR.2.2.2.2.1.ok, hR.2.2.2.2.1.2.2.2.2, hR.2.2.2.2.2.2.2.2.2.2.2, fun _ => rfl⟩
theorem RR.lm (hR : RR σ) (s : Sc σ τ) : LM (dtq σ) (hdq σ) (nq σ) (σ 1 5) τ := by
  obtain ⟨-, ⟨e1, -, ⟨-, m3, -⟩, -⟩, -, ⟨e9, -, ⟨m1, m2, -, m4, m5, m6, m7⟩, -⟩, r5, -⟩ := id hR
  have f22 : τ 114 22 = σ 17 8 := (s.2 (114, 22) (by decide)).trans r5.1
  refine ⟨⟨(s.1 122 (by decide)).trans m1, (s.1 123 (by decide)).trans m2, (s.1 125 (by decide)).trans m4, (s.1 126 (by decide)).trans m5, (s.1 127 (by decide)).trans m6, (s.1 128 (by decide)).trans m7, (s.1 116 (by decide)).trans m3⟩, ⟨((s.2 (114, 9) (by decide)).trans e9).trans hR.n9.1.symm, (s.2 (114, 1) (by decide)).trans e1⟩, σ 18, σ 19, cdq σ, vlq σ, r5.model s, fun d => ?_⟩
  rw [f22]
  rfl
theorem lsq_mem {d kn i : Int} (hR : RR σ) (h : i ∈ lsq σ d kn) : 0 ≤ i ∧ i < ((nq σ : Nat) : Int) := by
  have := srtL_mem.mp (List.mem_filter.mp h).1
  omega
theorem RR.yok (hR : RR σ) {d kn : Int} : YOk (nq σ) (σ 1 5) (σ 3) (Yq σ d kn) := tlS_ok hR.dok (fun i hi => lsq_mem hR hi) (YOk.zero (fun x a b => (hR.dok.2.2.2.1 x a b).1))
theorem RR.y12 (hR : RR σ) {d kn : Int} : 0 ≤ Yq σ d kn 12 0 ∧ Yq σ d kn 12 0 ≤ 120 := by
  have a := tlS_12 (dt := dtq σ) (hd := hdq σ) (n := nq σ) (L := lsq σ d kn) (y := fun _ _ => 0)
  have b : (lsq σ d kn).length ≤ nq σ := Nat.le_trans (List.length_filter_le _ _) srtL_len_le
  have c := hR.n9
  have z : (fun (_ : Nat) (_ : Int) => (0 : Int)) 12 0 = 0 := rfl
  unfold Yq
  omega
theorem Yq_sc (s : Sc σ τ) {d kn : Int} : Yq τ d kn = Yq σ d kn ∧ nq τ = nq σ := by
  have hn : nq τ = nq σ := by unfold nq; rw [s.2 (7, 9) (by decide)]
  have a8 := s.1 8 (by decide)
  have a9 := s.1 9 (by decide)
  have a10 := s.1 10 (by decide)
  have a11 := s.1 11 (by decide)
  have a12 := s.1 12 (by decide)
  have a13 := s.1 13 (by decide)
  have a14 := s.1 14 (by decide)
  have a3 := s.1 3 (by decide)
  have hdt : dtq τ = dtq σ := by funext k; unfold dtq; rw [a8, a9, a11, a12, a13, a14, a3]
  have hcd : cdq τ = cdq σ := by unfold cdq; rw [s.1 21 (by decide), s.1 22 (by decide), s.1 23 (by decide), s.1 24 (by decide), s.1 25 (by decide), s.1 26 (by decide), s.1 27 (by decide), s.1 28 (by decide)]
  have hvl : vlq τ = vlq σ := by unfold vlq; rw [s.1 30 (by decide), s.1 31 (by decide), s.1 32 (by decide), s.1 33 (by decide), s.1 34 (by decide), s.1 35 (by decide), s.1 36 (by decide), s.1 37 (by decide)]
  have hhd : hdq τ = hdq σ := by unfold hdq; rw [hcd, hvl, s.1 18 (by decide), s.1 19 (by decide), s.2 (17, 8) (by decide)]
  refine ⟨?_, hn⟩
  unfold Yq lsq
  rw [hdt, hhd, hn, a8, a9, a10, a11]
/-- the story of today is that of all days -/
theorem Yq_all (hR : RR σ) {kn : Int} : Yq σ 2000 kn = Yq σ (σ 0 0) kn := by
  have n9 := hR.n9
  unfold Yq lsq
  congr 1
  refine List.filter_congr (fun i hi => ?_)
  have m := srtL_mem.mp hi
  have := (hR.line m.1 (by omega)).2.1
  have now := hR.now
  rw [decide_eq_true (by omega), decide_eq_true (by omega)]
/-- what tell leaves, class and model -/
def TcP (σ : Nat → Int → Int) (d kn : Int) (τ : Nat → Int → Int) : Prop := SC 45 (nq σ) (σ 1 5) τ = Yq σ d kn ∧ (∀ l, 0 ≤ l → l < σ 1 5 → τ 57 l = onS (Yq σ d kn) (nq σ) l) ∧ LD (dtq σ) (hdq σ) (nq σ) (σ 1 5) τ ∧ Fr [7, 16, 17, 39, 40, 45, 46, 47, 48, 49, 50, 51, 52, 53, 54, 55, 56, 57] σ τ ∧ Fo 17 [7] σ τ ∧ Fo 7 [10] σ τ
def TeP (σ : Nat → Int → Int) (d kn : Int) (τ : Nat → Int → Int) : Prop := SC 58 (nq σ) (σ 1 5) τ = Yq σ d kn ∧ LD (dtq σ) (hdq σ) (nq σ) (σ 1 5) τ ∧ Fr [7, 16, 17, 39, 40, 58, 59, 60, 61, 62, 63, 64, 65, 66, 67, 68, 69, 70] σ τ ∧ Fo 17 [7] σ τ ∧ Fo 7 [10] σ τ
def TmP (σ : Nat → Int → Int) (d kn : Int) (τ υ : Nat → Int → Int) : Prop := SM (nq σ) (σ 1 5) υ = Yq σ d kn ∧ (∀ w, 0 ≤ w → w < σ 7 9 → υ 131 w = 0 ∨ υ 131 w = 1) ∧ (∀ i, 0 ≤ i → i < σ 7 9 → υ 129 i = voidS (σ 8) (σ 11) (σ 10) kn (nq σ) i) ∧ LM (dtq σ) (hdq σ) (nq σ) (σ 1 5) υ ∧ Fr [114, 129, 132, 139, 140, 141, 130, 131, 142, 143, 144, 145, 146, 147, 148, 149, 150, 151] τ υ ∧ Fo 114 [21, 38, 39] τ υ
theorem RR.tol (hR : RR σ) : (∀ i, 0 ≤ i → i < ((nq σ : Nat) : Int) → 0 ≤ σ 10 i ∧ σ 10 i ≤ 2000) ∧ (∀ i j, 0 ≤ i → i ≤ j → j < ((nq σ : Nat) : Int) → σ 10 i ≤ σ 10 j) ∧ RepL (σ 15) (srtL (σ 9) (fun _ => true) (nq σ)) := by
  have n9 := hR.n9
  have now := hR.now
  refine ⟨fun i a b => ?_, fun i j a b c => hR.2.2.2.1.2.2.2.2.1 i j a b (by omega), hR.2.2.2.1.2.2.2.2.2⟩
  have := (hR.line a (by omega)).2.1
  omega
theorem tC {d kn : Int} (hR : RR σ) (hd : rgi d) (hk : rgi kn) : CV l G M_X7_tell 5 [vr 45, vi d, vi kn] σ (TcP σ d kn) := CV_mono (c_X7_tell_45 hd hk hR.ld hR.dok hR.tol.1 hR.tol.2.1 hR.tol.2.2) (fun υ h => ⟨h.1, h.2.1, h.2.2.1, h.2.2.2.1, h.2.2.2.2.2.1, h.2.2.2.2.2.2⟩)
theorem tE {d kn : Int} (hR : RR σ) (hd : rgi d) (hk : rgi kn) : CV l G M_X7_tell 5 [vr 58, vi d, vi kn] σ (TeP σ d kn) := CV_mono (c_X7_tell_58 hd hk hR.ld hR.dok hR.tol.1 hR.tol.2.1 hR.tol.2.2) (fun υ h => ⟨h.1, h.2.2.1, h.2.2.2.1, h.2.2.2.2.2.1, h.2.2.2.2.2.2⟩)
theorem tM {d kn : Int} (hR : RR σ) (s : Sc σ τ) (hd : rgi d) (hk : rgi kn) : CV l G M_X11_tell 3 [vr 114, vi kn, vi d] τ (TmP σ d kn τ) := by
  have e124 : τ 124 = σ 10 := (s.1 124 (by decide)).trans hR.2.2.2.1.2.2.1.2.2.1
  have n9 := hR.n9
  refine CV_mono (c_X11_tell hd hk (hR.lm s) hR.dok (by rw [e124]; exact hR.tol.1)) (fun υ h => ?_)
  unfold TlM at h
  rw [e124, n9.1] at h
  exact h
set_option maxRecDepth 100000 in
theorem TcP.sc {d kn : Int} (h : TcP σ d kn τ) : Sc σ τ := by
  obtain ⟨-, -, -, hF, hO, hO2⟩ := h
  exact ⟨List.forall_mem_cons.mpr ⟨hF 2 (by decide), List.forall_mem_cons.mpr ⟨hF 3 (by decide), List.forall_mem_cons.mpr ⟨hF 4 (by decide), List.forall_mem_cons.mpr ⟨hF 5 (by decide), List.forall_mem_cons.mpr ⟨hF 6 (by decide), List.forall_mem_cons.mpr ⟨hF 115 (by decide), List.forall_mem_cons.mpr ⟨hF 116 (by decide), List.forall_mem_cons.mpr ⟨hF 117 (by decide), List.forall_mem_cons.mpr ⟨hF 119 (by decide), List.forall_mem_cons.mpr ⟨hF 120 (by decide), List.forall_mem_cons.mpr ⟨hF 105 (by decide), List.forall_mem_cons.mpr ⟨hF 121 (by decide), List.forall_mem_cons.mpr ⟨hF 8 (by decide), List.forall_mem_cons.mpr ⟨hF 9 (by decide), List.forall_mem_cons.mpr ⟨hF 10 (by decide), List.forall_mem_cons.mpr ⟨hF 11 (by decide), List.forall_mem_cons.mpr ⟨hF 12 (by decide), List.forall_mem_cons.mpr ⟨hF 13 (by decide), List.forall_mem_cons.mpr ⟨hF 14 (by decide), List.forall_mem_cons.mpr ⟨hF 122 (by decide), List.forall_mem_cons.mpr ⟨hF 123 (by decide), List.forall_mem_cons.mpr ⟨hF 124 (by decide), List.forall_mem_cons.mpr ⟨hF 125 (by decide), List.forall_mem_cons.mpr ⟨hF 126 (by decide), List.forall_mem_cons.mpr ⟨hF 127 (by decide), List.forall_mem_cons.mpr ⟨hF 128 (by decide), List.forall_mem_cons.mpr ⟨hF 15 (by decide), List.forall_mem_cons.mpr ⟨hF 18 (by decide), List.forall_mem_cons.mpr ⟨hF 19 (by decide), List.forall_mem_cons.mpr ⟨hF 133 (by decide), List.forall_mem_cons.mpr ⟨hF 134 (by decide), List.forall_mem_cons.mpr ⟨hF 21 (by decide), List.forall_mem_cons.mpr ⟨hF 22 (by decide), List.forall_mem_cons.mpr ⟨hF 23 (by decide), List.forall_mem_cons.mpr ⟨hF 24 (by decide), List.forall_mem_cons.mpr ⟨hF 25 (by decide), List.forall_mem_cons.mpr ⟨hF 26 (by decide), List.forall_mem_cons.mpr ⟨hF 27 (by decide), List.forall_mem_cons.mpr ⟨hF 28 (by decide), List.forall_mem_cons.mpr ⟨hF 30 (by decide), List.forall_mem_cons.mpr ⟨hF 31 (by decide), List.forall_mem_cons.mpr ⟨hF 32 (by decide), List.forall_mem_cons.mpr ⟨hF 33 (by decide), List.forall_mem_cons.mpr ⟨hF 34 (by decide), List.forall_mem_cons.mpr ⟨hF 35 (by decide), List.forall_mem_cons.mpr ⟨hF 36 (by decide), List.forall_mem_cons.mpr ⟨hF 37 (by decide), List.forall_mem_cons.mpr ⟨hF 135 (by decide), List.forall_mem_cons.mpr ⟨hF 136 (by decide), List.forall_mem_cons.mpr ⟨hF 137 (by decide), List.forall_mem_cons.mpr ⟨hF 38 (by decide), List.forall_mem_cons.mpr ⟨hF 42 (by decide), List.forall_mem_cons.mpr ⟨hF 138 (by decide), List.forall_mem_cons.mpr ⟨hF 75 (by decide), List.forall_mem_cons.mpr ⟨hF 76 (by decide), List.forall_mem_cons.mpr ⟨hF 77 (by decide), List.forall_mem_cons.mpr ⟨hF 78 (by decide), List.forall_mem_cons.mpr ⟨hF 155 (by decide), List.forall_mem_cons.mpr ⟨hF 156 (by decide), List.forall_mem_cons.mpr ⟨hF 157 (by decide), List.forall_mem_cons.mpr ⟨hF 158 (by decide), List.forall_mem_cons.mpr ⟨hF 80 (by decide), List.forall_mem_cons.mpr ⟨hF 81 (by decide), List.forall_mem_cons.mpr ⟨hF 82 (by decide), List.forall_mem_cons.mpr ⟨hF 83 (by decide), List.forall_mem_cons.mpr ⟨hF 84 (by decide), List.forall_mem_cons.mpr ⟨hF 85 (by decide), List.forall_mem_cons.mpr ⟨hF 86 (by decide), List.forall_mem_cons.mpr ⟨hF 87 (by decide), List.forall_mem_cons.mpr ⟨hF 159 (by decide), List.forall_mem_cons.mpr ⟨hF 89 (by decide), List.forall_mem_cons.mpr ⟨hF 90 (by decide), List.forall_mem_cons.mpr ⟨hF 91 (by decide), List.forall_mem_cons.mpr ⟨hF 92 (by decide), List.forall_mem_cons.mpr ⟨hF 160 (by decide), List.forall_mem_cons.mpr ⟨hF 97 (by decide), List.forall_mem_cons.mpr ⟨hF 98 (by decide), List.forall_mem_cons.mpr ⟨hF 99 (by decide), List.forall_mem_cons.mpr ⟨hF 162 (by decide), List.forall_mem_cons.mpr ⟨hF 163 (by decide), List.forall_mem_cons.mpr ⟨hF 164 (by decide), List.forall_mem_cons.mpr ⟨hF 101 (by decide), List.forall_mem_cons.mpr ⟨hF 167 (by decide), List.forall_mem_cons.mpr ⟨hF 106 (by decide), List.forall_mem_cons.mpr ⟨hF 168 (by decide), fun _ h => nomatch h⟩⟩⟩⟩⟩⟩⟩⟩⟩⟩⟩⟩⟩⟩⟩⟩⟩⟩⟩⟩⟩⟩⟩⟩⟩⟩⟩⟩⟩⟩⟩⟩⟩⟩⟩⟩⟩⟩⟩⟩⟩⟩⟩⟩⟩⟩⟩⟩⟩⟩⟩⟩⟩⟩⟩⟩⟩⟩⟩⟩⟩⟩⟩⟩⟩⟩⟩⟩⟩⟩⟩⟩⟩⟩⟩⟩⟩⟩⟩⟩⟩⟩⟩⟩⟩, List.forall_mem_cons.mpr ⟨congrFun (hF 0 (by decide)) 0, List.forall_mem_cons.mpr ⟨congrFun (hF 114 (by decide)) 0, List.forall_mem_cons.mpr ⟨congrFun (hF 1 (by decide)) 5, List.forall_mem_cons.mpr ⟨congrFun (hF 114 (by decide)) 1, List.forall_mem_cons.mpr ⟨hO2 9 (by decide), List.forall_mem_cons.mpr ⟨congrFun (hF 114 (by decide)) 9, List.forall_mem_cons.mpr ⟨hO 8 (by decide), List.forall_mem_cons.mpr ⟨congrFun (hF 114 (by decide)) 22, List.forall_mem_cons.mpr ⟨congrFun (hF 41 (by decide)) 1, List.forall_mem_cons.mpr ⟨congrFun (hF 114 (by decide)) 29, List.forall_mem_cons.mpr ⟨congrFun (hF 41 (by decide)) 6, List.forall_mem_cons.mpr ⟨congrFun (hF 114 (by decide)) 32, List.forall_mem_cons.mpr ⟨congrFun (hF 74 (by decide)) 4, List.forall_mem_cons.mpr ⟨congrFun (hF 114 (by decide)) 54, List.forall_mem_cons.mpr ⟨congrFun (hF 88 (by decide)) 7, List.forall_mem_cons.mpr ⟨congrFun (hF 114 (by decide)) 60, List.forall_mem_cons.mpr ⟨congrFun (hF 96 (by decide)) 4, List.forall_mem_cons.mpr ⟨congrFun (hF 114 (by decide)) 63, fun _ h => nomatch h⟩⟩⟩⟩⟩⟩⟩⟩⟩⟩⟩⟩⟩⟩⟩⟩⟩⟩⟩
set_option maxRecDepth 100000 in
theorem TeP.sc {d kn : Int} (h : TeP σ d kn τ) : Sc σ τ := by
  obtain ⟨-, -, hF, hO, hO2⟩ := h
  exact ⟨List.forall_mem_cons.mpr ⟨hF 2 (by decide), List.forall_mem_cons.mpr ⟨hF 3 (by decide), List.forall_mem_cons.mpr ⟨hF 4 (by decide), List.forall_mem_cons.mpr ⟨hF 5 (by decide), List.forall_mem_cons.mpr ⟨hF 6 (by decide), List.forall_mem_cons.mpr ⟨hF 115 (by decide), List.forall_mem_cons.mpr ⟨hF 116 (by decide), List.forall_mem_cons.mpr ⟨hF 117 (by decide), List.forall_mem_cons.mpr ⟨hF 119 (by decide), List.forall_mem_cons.mpr ⟨hF 120 (by decide), List.forall_mem_cons.mpr ⟨hF 105 (by decide), List.forall_mem_cons.mpr ⟨hF 121 (by decide), List.forall_mem_cons.mpr ⟨hF 8 (by decide), List.forall_mem_cons.mpr ⟨hF 9 (by decide), List.forall_mem_cons.mpr ⟨hF 10 (by decide), List.forall_mem_cons.mpr ⟨hF 11 (by decide), List.forall_mem_cons.mpr ⟨hF 12 (by decide), List.forall_mem_cons.mpr ⟨hF 13 (by decide), List.forall_mem_cons.mpr ⟨hF 14 (by decide), List.forall_mem_cons.mpr ⟨hF 122 (by decide), List.forall_mem_cons.mpr ⟨hF 123 (by decide), List.forall_mem_cons.mpr ⟨hF 124 (by decide), List.forall_mem_cons.mpr ⟨hF 125 (by decide), List.forall_mem_cons.mpr ⟨hF 126 (by decide), List.forall_mem_cons.mpr ⟨hF 127 (by decide), List.forall_mem_cons.mpr ⟨hF 128 (by decide), List.forall_mem_cons.mpr ⟨hF 15 (by decide), List.forall_mem_cons.mpr ⟨hF 18 (by decide), List.forall_mem_cons.mpr ⟨hF 19 (by decide), List.forall_mem_cons.mpr ⟨hF 133 (by decide), List.forall_mem_cons.mpr ⟨hF 134 (by decide), List.forall_mem_cons.mpr ⟨hF 21 (by decide), List.forall_mem_cons.mpr ⟨hF 22 (by decide), List.forall_mem_cons.mpr ⟨hF 23 (by decide), List.forall_mem_cons.mpr ⟨hF 24 (by decide), List.forall_mem_cons.mpr ⟨hF 25 (by decide), List.forall_mem_cons.mpr ⟨hF 26 (by decide), List.forall_mem_cons.mpr ⟨hF 27 (by decide), List.forall_mem_cons.mpr ⟨hF 28 (by decide), List.forall_mem_cons.mpr ⟨hF 30 (by decide), List.forall_mem_cons.mpr ⟨hF 31 (by decide), List.forall_mem_cons.mpr ⟨hF 32 (by decide), List.forall_mem_cons.mpr ⟨hF 33 (by decide), List.forall_mem_cons.mpr ⟨hF 34 (by decide), List.forall_mem_cons.mpr ⟨hF 35 (by decide), List.forall_mem_cons.mpr ⟨hF 36 (by decide), List.forall_mem_cons.mpr ⟨hF 37 (by decide), List.forall_mem_cons.mpr ⟨hF 135 (by decide), List.forall_mem_cons.mpr ⟨hF 136 (by decide), List.forall_mem_cons.mpr ⟨hF 137 (by decide), List.forall_mem_cons.mpr ⟨hF 38 (by decide), List.forall_mem_cons.mpr ⟨hF 42 (by decide), List.forall_mem_cons.mpr ⟨hF 138 (by decide), List.forall_mem_cons.mpr ⟨hF 75 (by decide), List.forall_mem_cons.mpr ⟨hF 76 (by decide), List.forall_mem_cons.mpr ⟨hF 77 (by decide), List.forall_mem_cons.mpr ⟨hF 78 (by decide), List.forall_mem_cons.mpr ⟨hF 155 (by decide), List.forall_mem_cons.mpr ⟨hF 156 (by decide), List.forall_mem_cons.mpr ⟨hF 157 (by decide), List.forall_mem_cons.mpr ⟨hF 158 (by decide), List.forall_mem_cons.mpr ⟨hF 80 (by decide), List.forall_mem_cons.mpr ⟨hF 81 (by decide), List.forall_mem_cons.mpr ⟨hF 82 (by decide), List.forall_mem_cons.mpr ⟨hF 83 (by decide), List.forall_mem_cons.mpr ⟨hF 84 (by decide), List.forall_mem_cons.mpr ⟨hF 85 (by decide), List.forall_mem_cons.mpr ⟨hF 86 (by decide), List.forall_mem_cons.mpr ⟨hF 87 (by decide), List.forall_mem_cons.mpr ⟨hF 159 (by decide), List.forall_mem_cons.mpr ⟨hF 89 (by decide), List.forall_mem_cons.mpr ⟨hF 90 (by decide), List.forall_mem_cons.mpr ⟨hF 91 (by decide), List.forall_mem_cons.mpr ⟨hF 92 (by decide), List.forall_mem_cons.mpr ⟨hF 160 (by decide), List.forall_mem_cons.mpr ⟨hF 97 (by decide), List.forall_mem_cons.mpr ⟨hF 98 (by decide), List.forall_mem_cons.mpr ⟨hF 99 (by decide), List.forall_mem_cons.mpr ⟨hF 162 (by decide), List.forall_mem_cons.mpr ⟨hF 163 (by decide), List.forall_mem_cons.mpr ⟨hF 164 (by decide), List.forall_mem_cons.mpr ⟨hF 101 (by decide), List.forall_mem_cons.mpr ⟨hF 167 (by decide), List.forall_mem_cons.mpr ⟨hF 106 (by decide), List.forall_mem_cons.mpr ⟨hF 168 (by decide), fun _ h => nomatch h⟩⟩⟩⟩⟩⟩⟩⟩⟩⟩⟩⟩⟩⟩⟩⟩⟩⟩⟩⟩⟩⟩⟩⟩⟩⟩⟩⟩⟩⟩⟩⟩⟩⟩⟩⟩⟩⟩⟩⟩⟩⟩⟩⟩⟩⟩⟩⟩⟩⟩⟩⟩⟩⟩⟩⟩⟩⟩⟩⟩⟩⟩⟩⟩⟩⟩⟩⟩⟩⟩⟩⟩⟩⟩⟩⟩⟩⟩⟩⟩⟩⟩⟩⟩⟩, List.forall_mem_cons.mpr ⟨congrFun (hF 0 (by decide)) 0, List.forall_mem_cons.mpr ⟨congrFun (hF 114 (by decide)) 0, List.forall_mem_cons.mpr ⟨congrFun (hF 1 (by decide)) 5, List.forall_mem_cons.mpr ⟨congrFun (hF 114 (by decide)) 1, List.forall_mem_cons.mpr ⟨hO2 9 (by decide), List.forall_mem_cons.mpr ⟨congrFun (hF 114 (by decide)) 9, List.forall_mem_cons.mpr ⟨hO 8 (by decide), List.forall_mem_cons.mpr ⟨congrFun (hF 114 (by decide)) 22, List.forall_mem_cons.mpr ⟨congrFun (hF 41 (by decide)) 1, List.forall_mem_cons.mpr ⟨congrFun (hF 114 (by decide)) 29, List.forall_mem_cons.mpr ⟨congrFun (hF 41 (by decide)) 6, List.forall_mem_cons.mpr ⟨congrFun (hF 114 (by decide)) 32, List.forall_mem_cons.mpr ⟨congrFun (hF 74 (by decide)) 4, List.forall_mem_cons.mpr ⟨congrFun (hF 114 (by decide)) 54, List.forall_mem_cons.mpr ⟨congrFun (hF 88 (by decide)) 7, List.forall_mem_cons.mpr ⟨congrFun (hF 114 (by decide)) 60, List.forall_mem_cons.mpr ⟨congrFun (hF 96 (by decide)) 4, List.forall_mem_cons.mpr ⟨congrFun (hF 114 (by decide)) 63, fun _ h => nomatch h⟩⟩⟩⟩⟩⟩⟩⟩⟩⟩⟩⟩⟩⟩⟩⟩⟩⟩⟩
theorem LD.rr {dt : Nat → Int → Int} {hd : Int → Int → Int} {n : Nat} {nl : Int} (hL : LD dt hd n nl τ) (s : Sc σ τ) (hR : RR σ) : RR τ := by
  have hcd : cdq τ = cdq σ := by unfold cdq; rw [s.1 21 (by decide), s.1 22 (by decide), s.1 23 (by decide), s.1 24 (by decide), s.1 25 (by decide), s.1 26 (by decide), s.1 27 (by decide), s.1 28 (by decide)]
  have hvl : vlq τ = vlq σ := by unfold vlq; rw [s.1 30 (by decide), s.1 31 (by decide), s.1 32 (by decide), s.1 33 (by decide), s.1 34 (by decide), s.1 35 (by decide), s.1 36 (by decide), s.1 37 (by decide)]
  have hc := hL.2.2.2.2.1
  rw [hcd, hvl, s.1 18 (by decide), s.1 19 (by decide), s.2 (17, 8) (by decide)] at hc
  exact RR_of hR s.1 s.2 hc
theorem TcP.rr {d kn : Int} (h : TcP σ d kn τ) (hR : RR σ) : RR τ := h.2.2.1.rr h.sc hR
theorem TeP.rr {d kn : Int} (h : TeP σ d kn τ) (hR : RR σ) : RR τ := h.2.1.rr h.sc hR
set_option maxRecDepth 100000 in
theorem TmP.sd {d kn : Int} {υ : Nat → Int → Int} (h : TmP σ d kn τ υ) : Sd τ υ := by
  obtain ⟨-, -, -, -, hF, hO⟩ := h
  exact ⟨⟨List.forall_mem_cons.mpr ⟨hF 2 (by decide), List.forall_mem_cons.mpr ⟨hF 3 (by decide), List.forall_mem_cons.mpr ⟨hF 4 (by decide), List.forall_mem_cons.mpr ⟨hF 5 (by decide), List.forall_mem_cons.mpr ⟨hF 6 (by decide), List.forall_mem_cons.mpr ⟨hF 115 (by decide), List.forall_mem_cons.mpr ⟨hF 116 (by decide), List.forall_mem_cons.mpr ⟨hF 117 (by decide), List.forall_mem_cons.mpr ⟨hF 119 (by decide), List.forall_mem_cons.mpr ⟨hF 120 (by decide), List.forall_mem_cons.mpr ⟨hF 105 (by decide), List.forall_mem_cons.mpr ⟨hF 121 (by decide), List.forall_mem_cons.mpr ⟨hF 8 (by decide), List.forall_mem_cons.mpr ⟨hF 9 (by decide), List.forall_mem_cons.mpr ⟨hF 10 (by decide), List.forall_mem_cons.mpr ⟨hF 11 (by decide), List.forall_mem_cons.mpr ⟨hF 12 (by decide), List.forall_mem_cons.mpr ⟨hF 13 (by decide), List.forall_mem_cons.mpr ⟨hF 14 (by decide), List.forall_mem_cons.mpr ⟨hF 122 (by decide), List.forall_mem_cons.mpr ⟨hF 123 (by decide), List.forall_mem_cons.mpr ⟨hF 124 (by decide), List.forall_mem_cons.mpr ⟨hF 125 (by decide), List.forall_mem_cons.mpr ⟨hF 126 (by decide), List.forall_mem_cons.mpr ⟨hF 127 (by decide), List.forall_mem_cons.mpr ⟨hF 128 (by decide), List.forall_mem_cons.mpr ⟨hF 15 (by decide), List.forall_mem_cons.mpr ⟨hF 18 (by decide), List.forall_mem_cons.mpr ⟨hF 19 (by decide), List.forall_mem_cons.mpr ⟨hF 133 (by decide), List.forall_mem_cons.mpr ⟨hF 134 (by decide), List.forall_mem_cons.mpr ⟨hF 21 (by decide), List.forall_mem_cons.mpr ⟨hF 22 (by decide), List.forall_mem_cons.mpr ⟨hF 23 (by decide), List.forall_mem_cons.mpr ⟨hF 24 (by decide), List.forall_mem_cons.mpr ⟨hF 25 (by decide), List.forall_mem_cons.mpr ⟨hF 26 (by decide), List.forall_mem_cons.mpr ⟨hF 27 (by decide), List.forall_mem_cons.mpr ⟨hF 28 (by decide), List.forall_mem_cons.mpr ⟨hF 30 (by decide), List.forall_mem_cons.mpr ⟨hF 31 (by decide), List.forall_mem_cons.mpr ⟨hF 32 (by decide), List.forall_mem_cons.mpr ⟨hF 33 (by decide), List.forall_mem_cons.mpr ⟨hF 34 (by decide), List.forall_mem_cons.mpr ⟨hF 35 (by decide), List.forall_mem_cons.mpr ⟨hF 36 (by decide), List.forall_mem_cons.mpr ⟨hF 37 (by decide), List.forall_mem_cons.mpr ⟨hF 135 (by decide), List.forall_mem_cons.mpr ⟨hF 136 (by decide), List.forall_mem_cons.mpr ⟨hF 137 (by decide), List.forall_mem_cons.mpr ⟨hF 38 (by decide), List.forall_mem_cons.mpr ⟨hF 42 (by decide), List.forall_mem_cons.mpr ⟨hF 138 (by decide), List.forall_mem_cons.mpr ⟨hF 75 (by decide), List.forall_mem_cons.mpr ⟨hF 76 (by decide), List.forall_mem_cons.mpr ⟨hF 77 (by decide), List.forall_mem_cons.mpr ⟨hF 78 (by decide), List.forall_mem_cons.mpr ⟨hF 155 (by decide), List.forall_mem_cons.mpr ⟨hF 156 (by decide), List.forall_mem_cons.mpr ⟨hF 157 (by decide), List.forall_mem_cons.mpr ⟨hF 158 (by decide), List.forall_mem_cons.mpr ⟨hF 80 (by decide), List.forall_mem_cons.mpr ⟨hF 81 (by decide), List.forall_mem_cons.mpr ⟨hF 82 (by decide), List.forall_mem_cons.mpr ⟨hF 83 (by decide), List.forall_mem_cons.mpr ⟨hF 84 (by decide), List.forall_mem_cons.mpr ⟨hF 85 (by decide), List.forall_mem_cons.mpr ⟨hF 86 (by decide), List.forall_mem_cons.mpr ⟨hF 87 (by decide), List.forall_mem_cons.mpr ⟨hF 159 (by decide), List.forall_mem_cons.mpr ⟨hF 89 (by decide), List.forall_mem_cons.mpr ⟨hF 90 (by decide), List.forall_mem_cons.mpr ⟨hF 91 (by decide), List.forall_mem_cons.mpr ⟨hF 92 (by decide), List.forall_mem_cons.mpr ⟨hF 160 (by decide), List.forall_mem_cons.mpr ⟨hF 97 (by decide), List.forall_mem_cons.mpr ⟨hF 98 (by decide), List.forall_mem_cons.mpr ⟨hF 99 (by decide), List.forall_mem_cons.mpr ⟨hF 162 (by decide), List.forall_mem_cons.mpr ⟨hF 163 (by decide), List.forall_mem_cons.mpr ⟨hF 164 (by decide), List.forall_mem_cons.mpr ⟨hF 101 (by decide), List.forall_mem_cons.mpr ⟨hF 167 (by decide), List.forall_mem_cons.mpr ⟨hF 106 (by decide), List.forall_mem_cons.mpr ⟨hF 168 (by decide), fun _ h => nomatch h⟩⟩⟩⟩⟩⟩⟩⟩⟩⟩⟩⟩⟩⟩⟩⟩⟩⟩⟩⟩⟩⟩⟩⟩⟩⟩⟩⟩⟩⟩⟩⟩⟩⟩⟩⟩⟩⟩⟩⟩⟩⟩⟩⟩⟩⟩⟩⟩⟩⟩⟩⟩⟩⟩⟩⟩⟩⟩⟩⟩⟩⟩⟩⟩⟩⟩⟩⟩⟩⟩⟩⟩⟩⟩⟩⟩⟩⟩⟩⟩⟩⟩⟩⟩⟩, List.forall_mem_cons.mpr ⟨congrFun (hF 0 (by decide)) 0, List.forall_mem_cons.mpr ⟨hO 0 (by decide), List.forall_mem_cons.mpr ⟨congrFun (hF 1 (by decide)) 5, List.forall_mem_cons.mpr ⟨hO 1 (by decide), List.forall_mem_cons.mpr ⟨congrFun (hF 7 (by decide)) 9, List.forall_mem_cons.mpr ⟨hO 9 (by decide), List.forall_mem_cons.mpr ⟨congrFun (hF 17 (by decide)) 8, List.forall_mem_cons.mpr ⟨hO 22 (by decide), List.forall_mem_cons.mpr ⟨congrFun (hF 41 (by decide)) 1, List.forall_mem_cons.mpr ⟨hO 29 (by decide), List.forall_mem_cons.mpr ⟨congrFun (hF 41 (by decide)) 6, List.forall_mem_cons.mpr ⟨hO 32 (by decide), List.forall_mem_cons.mpr ⟨congrFun (hF 74 (by decide)) 4, List.forall_mem_cons.mpr ⟨hO 54 (by decide), List.forall_mem_cons.mpr ⟨congrFun (hF 88 (by decide)) 7, List.forall_mem_cons.mpr ⟨hO 60 (by decide), List.forall_mem_cons.mpr ⟨congrFun (hF 96 (by decide)) 4, List.forall_mem_cons.mpr ⟨hO 63 (by decide), fun _ h => nomatch h⟩⟩⟩⟩⟩⟩⟩⟩⟩⟩⟩⟩⟩⟩⟩⟩⟩⟩⟩, congrFun (hF 17 (by decide)) 7, hF 40 (by decide)⟩
/-- a pair with three endings -/
theorem pair3 {K1 K2 : MI} {d1 d2 : Nat} {As : List AV} {A B : Prop} {Z : Int} (hR : RR σ) (c1 : CI l G K1 d1 (vr 0 :: As) σ (fun z τ => (¬ A ∧ z = -1001 ∧ τ = σ) ∨ (A ∧ ¬ B ∧ z = -1002 ∧ τ = σ) ∨ (A ∧ B ∧ z = Z ∧ Sc σ τ ∧ RR τ))) (hz : A → B → rgi Z) (c2 : ∀ τ, Sc σ τ → CI l G K2 d2 (vr 114 :: As) τ (fun z υ => (¬ A ∧ z = -1001 ∧ υ = τ) ∨ (A ∧ ¬ B ∧ z = -1002 ∧ υ = τ) ∨ (A ∧ B ∧ z = Z ∧ Sd τ υ))) : Pair l G K1 d1 K2 d2 As σ := by
  refine ⟨_, c1, fun z τ q => ?_⟩
  have rf : Sc σ σ := ⟨fun _ _ => rfl, fun _ _ => rfl⟩
  rcases q with ⟨a, rfl, rfl⟩ | ⟨a, b, rfl, rfl⟩ | ⟨a, b, rfl, s, r⟩
  · refine ⟨by omega, CI_mono (c2 _ rf) (fun z υ c => ?_)⟩
    rcases c with ⟨_, rfl, rfl⟩ | ⟨c, -⟩ | ⟨c, -⟩
    · exact ⟨rfl, hR⟩
    · exact absurd c a
    · exact absurd c a
  · refine ⟨by omega, CI_mono (c2 _ rf) (fun z υ c => ?_)⟩
    rcases c with ⟨c, -⟩ | ⟨_, _, rfl, rfl⟩ | ⟨_, c, -⟩
    · exact absurd a c
    · exact ⟨rfl, hR⟩
    · exact absurd c b
  · refine ⟨hz a b, CI_mono (c2 _ s) (fun z υ c => ?_)⟩
    rcases c with ⟨c, -⟩ | ⟨_, c, -⟩ | ⟨_, _, rfl, c⟩
    · exact absurd a c
    · exact absurd b c
    · exact ⟨rfl, c.rr r⟩
theorem c_X10_isAsked {d kn : Int} (hd : rgi d) (hk : rgi kn) (h0 : 0 ≤ σ 0 0 ∧ σ 0 0 ≤ 2000) : CI l G M_X10_isAsked 2 [vr 0, vi d, vi kn] σ (BP ((0 ≤ d ∧ d ≤ 2000) ∧ 0 ≤ kn ∧ kn ≤ σ 0 0) σ) := by
  refine Ct.of rfl (Nat.le_of_ble_eq_true rfl) ?_
  refine x_iload_n (E_X10_isAsked_0 0 rfl) rfl ?_
  refine z_callSi (E_X10_isAsked_0 1 rfl) ml_X10_207 ms_X10_isDay (c_X10_isDay (by omega)) (by decide) rfl rfl (Nat.le_of_ble_eq_true rfl) (fun z9 τ9 h9 => ?_)
  obtain ⟨rfl, ⟨rfl, c1⟩ | ⟨rfl, c1⟩⟩ := h9
  · refine x_if_eq (E_X10_isAsked_0 2 rfl) (by decide) (fun c9 => absurd c9 (by decide)) (fun _ => ?_)
    refine x_iload_n (E_X10_isAsked_0 3 rfl) rfl ?_
    refine x_iconst (E_X10_isAsked_0 4 rfl) ?_
    refine x_aload_n (E_X10_isAsked_0 5 rfl) rfl ?_
    refine x_getIe (v := σ 0 0) (E_X10_isAsked_0 6 rfl) fl_X10_7 rfl (by decide) rfl ?_
    refine z_callSi (E_X10_isAsked_0 7 rfl) ml_X10_100 ms_X10_within (c_X10_within (by omega) (by omega) (by omega)) (by decide) rfl rfl (Nat.le_of_ble_eq_true rfl) (fun z9 τ9 h9 => ?_)
    obtain ⟨rfl, ⟨rfl, c2⟩ | ⟨rfl, c2⟩⟩ := h9
    · refine x_if_eq (E_X10_isAsked_0 8 rfl) (by decide) (fun c9 => absurd c9 (by decide)) (fun _ => ?_)
      refine x_iconst (E_X10_isAsked_0 9 rfl) ?_
      refine x_goto (E_X10_isAsked_0 10 rfl) ?_
      refine z_iret (E_X10_isAsked_0 12 rfl) (Or.inr rfl) ?_
      exact ⟨rfl, by first | exact Or.inl ⟨rfl, by omega⟩ | exact Or.inr ⟨rfl, by omega⟩⟩
    · refine x_if_eq (E_X10_isAsked_0 8 rfl) (by decide) (fun _ => ?_) (fun c9 => absurd (by decide) c9)
      refine x_iconst (E_X10_isAsked_0 11 rfl) ?_
      refine z_iret (E_X10_isAsked_0 12 rfl) (Or.inl rfl) ?_
      exact ⟨rfl, by first | exact Or.inl ⟨rfl, by omega⟩ | exact Or.inr ⟨rfl, by omega⟩⟩
  · refine x_if_eq (E_X10_isAsked_0 2 rfl) (by decide) (fun _ => ?_) (fun c9 => absurd (by decide) c9)
    refine x_iconst (E_X10_isAsked_0 11 rfl) ?_
    refine z_iret (E_X10_isAsked_0 12 rfl) (Or.inl rfl) ?_
    exact ⟨rfl, by first | exact Or.inl ⟨rfl, by omega⟩ | exact Or.inr ⟨rfl, by omega⟩⟩

