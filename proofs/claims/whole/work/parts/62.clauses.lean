/-! clauses -/
variable {l : Launch} {G : GC} {σ : Nat → Int → Int}

/-- fault, its place, where it goes on; kind, first, second, value -/
abbrev CR : Type := Int × Int × Int × Int × Int × Int × Int
def erR (f w : Int) : CR := (f, w, 0, 0, 0, 0, 0)
def semR (tx : Int → Int) (len p ck fi se vl : Int) : CR := if blS tx len p < len ∧ tx (blS tx len p) = 59 then (0, 0, blS tx len p + 1, ck, fi, se, vl) else erR 1 (blS tx len p)
def letR (tx : Int → Int) (len p : Int) : CR := if wkS tx len 0 5 p = -1 then erR 1 (blS tx len p) else if nfS tx len (mostQ (wkS tx len 0 5 p)) (weS tx len p) ≠ 0 then erR (nfS tx len (mostQ (wkS tx len 0 5 p)) (weS tx len p)) (blS tx len (weS tx len p)) else semR tx len (deS tx len (weS tx len p)) 0 (wkS tx len 0 5 p) (nmS tx len (weS tx len p)) (nmS tx len (weS tx len p))
def dryR (tx : Int → Int) (len p : Int) : CR := if nfS tx len 3 p ≠ 0 then erR (nfS tx len 3 p) (blS tx len p) else if wkS tx len 13 1 (deS tx len p) = -1 then erR 1 (blS tx len (deS tx len p)) else if nfS tx len 999 (weS tx len (deS tx len p)) ≠ 0 then erR (nfS tx len 999 (weS tx len (deS tx len p))) (blS tx len (weS tx len (deS tx len p))) else semR tx len (deS tx len (weS tx len (deS tx len p))) 1 (nmS tx len p) (nmS tx len (weS tx len (deS tx len p))) (nmS tx len (weS tx len (deS tx len p)))
def strR (tx : Int → Int) (len nt p : Int) : CR := if nfS tx len 9999 p ≠ 0 then erR (nfS tx len 9999 p) (blS tx len p) else if nt ≤ nmS tx len p then erR 3 (blS tx len p) else semR tx len (deS tx len p) 3 (nmS tx len p) 0 (nmS tx len p)
/-- keys: fault, place, where it goes on, how many, row of the model, row of the class -/
def kyQ (tx : Int → Int) (len : Int) : Nat → Int → Int → Nat → Int → Int → Int × Int × Int × Nat × Int × Int
  | 0, p, _, n, row, vl => (0, 0, p, n, row, vl)
  | t + 1, p, seen, n, row, vl => if wkS tx len 5 4 p = -1 then (1, blS tx len p, 0, 0, 0, 0) else if seen / 2 ^ (wkS tx len 5 4 p - 5).toNat % 2 = 1 then (4, blS tx len p, 0, 0, 0, 0) else if blS tx len (weS tx len p) < len ∧ tx (blS tx len (weS tx len p)) = 44 then kyQ tx len t (blS tx len (weS tx len p) + 1) (seen + 2 ^ (wkS tx len 5 4 p - 5).toNat) (n + 1) (row + (wkS tx len 5 4 p - 5) * 4 ^ n) (vl + (wkS tx len 5 4 p - 4) * 8 ^ n) else (0, 0, blS tx len (weS tx len p), n + 1, row + (wkS tx len 5 4 p - 5) * 4 ^ n, vl + (wkS tx len 5 4 p - 4) * 8 ^ n)
def rnkR (tx : Int → Int) (len p : Int) : CR := if (kyQ tx len 5 p 0 0 0 0).1 ≠ 0 then erR (kyQ tx len 5 p 0 0 0 0).1 (kyQ tx len 5 p 0 0 0 0).2.1 else semR tx len (kyQ tx len 5 p 0 0 0 0).2.2.1 2 (kyQ tx len 5 p 0 0 0 0).2.2.2.2.1 ((kyQ tx len 5 p 0 0 0 0).2.2.2.1 : Nat) (kyQ tx len 5 p 0 0 0 0).2.2.2.2.2
/-- a clause by its head -/
def clR (tx : Int → Int) (len nt h p : Int) : CR := if h = 0 then letR tx len p else if h = 1 then dryR tx len p else if h = 2 then rnkR tx len p else strR tx len nt p
def codq (ck fi : Int) : Int := if ck = 0 then fi else if ck = 1 then 5 + fi else if ck = 2 then 9 else 10
/-- what a clause's reading leaves -/
def RdP (R : CR) (σ τ : Nat → Int → Int) : Prop := ((R.1 = 0 ∧ τ 41 5 = 0 ∧ τ 41 6 = σ 41 6 ∧ τ 41 7 = R.2.2.1 ∧ τ 41 4 = σ 41 4 + 1 ∧ τ 43 = updI (σ 43) (σ 41 4) (codq R.2.2.2.1 R.2.2.2.2.1) ∧ τ 44 = updI (σ 44) (σ 41 4) R.2.2.2.2.2.2) ∨ (R.1 ≠ 0 ∧ τ 41 5 = R.1 ∧ τ 41 6 = R.2.1 ∧ τ 41 4 = σ 41 4)) ∧ (0 ≤ τ 41 7 ∧ τ 41 7 ≤ σ 41 1) ∧ Fr [41, 43, 44] σ τ ∧ Fo 41 [4, 5, 6, 7, 8] σ τ
theorem RdP.pre {R : CR} {σ ρ τ : Nat → Int → Int} (h : RdP R ρ τ) (e4 : ρ 41 4 = σ 41 4) (e6 : ρ 41 6 = σ 41 6) (hF : Fr [41] σ ρ) (hO : Fo 41 [5, 6, 7, 8] σ ρ) : RdP R σ τ := by
  obtain ⟨a, b, c, d⟩ := h
  rw [e4, e6, hF 43 (by decide), hF 44 (by decide)] at a
  rw [hO 1 (by decide)] at b
  exact ⟨a, b, Fr.trans hF c (by decide) (fun k q => q), Fo.trans hO d (by decide) (fun k q => q)⟩
theorem c_X5_keep {ck fi se v code : Int} (hc : code = codq ck fi) (hf : σ 41 5 = 0) (h4 : 0 ≤ σ 41 4 ∧ σ 41 4 < 10) (ht : TxOk (σ 41 1) (σ 42)) (h0 : 0 ≤ σ 41 7 ∧ σ 41 7 ≤ σ 41 1) : CV l G M_X5_keep 2 [vr 41, vi code, vi v] σ (RdP (semR (σ 42) (σ 41 1) (σ 41 7) ck fi se v) σ) := by
  have br := bl_rg (tx := σ 42) h0.2
  subst hc
  refine Ct.of rfl (Nat.le_of_ble_eq_true rfl) ?_
  refine x_aload_n (E_X5_keep_0 0 rfl) rfl ?_
  refine x_getIe (v := σ 41 5) (E_X5_keep_0 1 rfl) fl_X5_34 rfl (by decide) rfl ?_
  refine x_if_eq (E_X5_keep_0 2 rfl) (by omega) (fun c1 => ?_) (fun c1 => ?_)
  · refine x_aload_n (E_X5_keep_0 4 rfl) rfl ?_
    refine x_bipush (z := 59) (E_X5_keep_0 5 rfl) (by decide) ?_
    refine z_callVi (E_X5_keep_0 6 rfl) ml_X5_78 mv_X5_takeIf rfl (by decide) (by decide) (c_X5_takeIf (by omega) ht h0) (by decide) rfl rfl (Nat.le_of_ble_eq_true rfl) (fun z9 τ9 h9 => ?_)
    obtain ⟨h9, hF, hO⟩ := h9
    have e4 := hO 4 (by decide)
    have e5 := hO 5 (by decide)
    have e43 : τ9 43 = σ 43 := hF 43 (by decide)
    have e44 : τ9 44 = σ 44 := hF 44 (by decide)
    refine x_if_ne (E_X5_keep_0 7 rfl) (by omega) (fun c2 => ?_) (fun c2 => ?_)
    · refine x_aload_n (E_X5_keep_0 14 rfl) rfl ?_
      refine x_getR (E_X5_keep_0 15 rfl) fl_X5_15 rfl (by decide) rfl ?_
      refine x_aload_n (E_X5_keep_0 16 rfl) rfl ?_
      refine x_getIe (v := τ9 41 4) (E_X5_keep_0 17 rfl) fl_X5_31 rfl (by decide) rfl ?_
      refine x_iload_n (E_X5_keep_0 18 rfl) rfl ?_
      refine x_iast (E_X5_keep_0 19 rfl) rfl (by decide) (by omega) ?_
      refine x_aload_n (E_X5_keep_0 20 rfl) rfl ?_
      refine x_getR (E_X5_keep_0 21 rfl) fl_X5_18 rfl (by decide) rfl ?_
      refine x_aload_n (E_X5_keep_0 22 rfl) rfl ?_
      refine x_getIe (v := τ9 41 4) (E_X5_keep_0 23 rfl) fl_X5_31 rfl (by decide) rfl ?_
      refine x_iload_n (E_X5_keep_0 24 rfl) rfl ?_
      refine x_iast (E_X5_keep_0 25 rfl) rfl (by decide) (by omega) ?_
      refine x_aload_n (E_X5_keep_0 26 rfl) rfl ?_
      refine x_dupr (E_X5_keep_0 27 rfl) ?_
      refine x_getIe (v := τ9 41 4) (E_X5_keep_0 28 rfl) fl_X5_31 rfl (by decide) rfl ?_
      refine x_iconst (E_X5_keep_0 29 rfl) ?_
      refine x_iadd (E_X5_keep_0 30 rfl) ?_
      refine x_putI (E_X5_keep_0 31 rfl) fl_X5_31 rfl (by decide) ?_
      refine z_vret (E_X5_keep_0 32 rfl) trivial ?_
      obtain ⟨z1, c9, t7⟩ := h9.resolve_right (fun h => by omega)
      unfold semR
      rw [if_pos c9]
      refine ⟨Or.inl ⟨rfl, ?_, hO 6 (by decide), t7, ?_, ?_, ?_⟩, ?_, ?_, ?_⟩
      · exact e5.trans hf
      · show τ9 41 4 + 1 = _
        omega
      · show (fun b => if b = τ9 41 4 then _ else τ9 43 b) = _
        rw [e4, e43]; rfl
      · show (fun b => if b = τ9 41 4 then _ else τ9 44 b) = _
        rw [e4, e44]; rfl
      · show 0 ≤ τ9 41 7 ∧ τ9 41 7 ≤ _
        omega
      · exact (((hF.sub (by decide)).up (by decide)).up (by decide)).up (by decide)
      · exact (((hO.sub (by decide)).un (by decide)).un (by decide)).up (by decide)
    · refine x_aload_n (E_X5_keep_0 8 rfl) rfl ?_
      refine x_iconst (E_X5_keep_0 9 rfl) ?_
      refine x_aload_n (E_X5_keep_0 10 rfl) rfl ?_
      refine x_getIe (v := τ9 41 7) (E_X5_keep_0 11 rfl) fl_X5_28 rfl (by decide) rfl ?_
      refine z_callVv (E_X5_keep_0 12 rfl) ml_X5_51 mv_X5_fail rfl (by decide) (by decide) c_X5_fail (by decide) rfl rfl (Nat.le_of_ble_eq_true rfl) (fun τ8 h8 => ?_)
      subst h8
      refine z_vret (E_X5_keep_0 13 rfl) trivial ?_
      obtain ⟨z1, c9, t7⟩ := h9.resolve_left (fun h => by omega)
      unfold semR
      rw [if_neg c9]
      refine ⟨Or.inr ⟨(show (1 : Int) ≠ 0 by decide), rfl, t7, e4⟩, ?_, ?_, ?_⟩
      · show 0 ≤ τ9 41 7 ∧ τ9 41 7 ≤ _
        omega
      · exact ((hF.sub (by decide)).up (by decide)).up (by decide)
      · exact ((hO.sub (by decide)).up (by decide)).up (by decide)
  · refine z_vret (E_X5_keep_0 3 rfl) trivial ?_
    exfalso; omega
theorem c_X5_keep0 {code v : Int} (hf : rgi (σ 41 5)) (hf0 : σ 41 5 ≠ 0) : CV l G M_X5_keep 2 [vr 41, vi code, vi v] σ (fun τ => τ = σ) := by
  refine Ct.of rfl (Nat.le_of_ble_eq_true rfl) ?_
  refine x_aload_n (E_X5_keep_0 0 rfl) rfl ?_
  refine x_getIe (v := σ 41 5) (E_X5_keep_0 1 rfl) fl_X5_34 rfl (by decide) rfl ?_
  refine x_if_eq (E_X5_keep_0 2 rfl) (by omega) (fun c1 => ?_) (fun c1 => ?_)
  · exfalso; omega
  · refine z_vret (E_X5_keep_0 3 rfl) trivial ?_
    rfl

/-- a fault told before: nothing more is done -/
theorem RdP.er {f w : Int} {σ τ : Nat → Int → Int} (hf : f ≠ 0) (h5 : τ 41 5 = f) (h6 : τ 41 6 = w) (h4 : τ 41 4 = σ 41 4) (h7 : 0 ≤ τ 41 7 ∧ τ 41 7 ≤ σ 41 1) (hF : Fr [41] σ τ) (hO : Fo 41 [5, 6, 7, 8] σ τ) : RdP (erR f w) σ τ := ⟨Or.inr ⟨hf, h5, h6, h4⟩, h7, hF.sub (by decide), hO.sub (by decide)⟩
theorem nf_01 {tx : Int → Int} {len most p : Int} : nfS tx len most p = 0 ∨ nfS tx len most p = 1 ∨ nfS tx len most p = 2 := by
  unfold nfS
  repeat' split
  all_goals omega
set_option maxHeartbeats 1000000 in
theorem c_X5_readLet (hf : σ 41 5 = 0) (h4 : 0 ≤ σ 41 4 ∧ σ 41 4 < 10) (ht : TxOk (σ 41 1) (σ 42)) (h0 : 0 ≤ σ 41 7 ∧ σ 41 7 ≤ σ 41 1) : CV l G M_X5_readLet 7 [vr 41] σ (RdP (letR (σ 42) (σ 41 1) (σ 41 7)) σ) := by
  have br := bl_rg (tx := σ 42) h0.2
  have wr := we_rg (tx := σ 42) h0.2
  have kr := lkF_rg (tx := σ 42) (s := (blS (σ 42) (σ 41 1) (σ 41 7))) (e := (weS (σ 42) (σ 41 1) (σ 41 7))) (n := 5) (k := 0)
  have kr : (wkS (σ 42) (σ 41 1) 0 5 (σ 41 7)) = -1 ∨ (0 ≤ (wkS (σ 42) (σ 41 1) 0 5 (σ 41 7)) ∧ (wkS (σ 42) (σ 41 1) 0 5 (σ 41 7)) < 0 + ((5 : Nat) : Int)) := kr
  refine Ct.of rfl (Nat.le_of_ble_eq_true rfl) ?_
  refine x_aload_n (E_X5_readLet_0 0 rfl) rfl ?_
  refine x_iconst (E_X5_readLet_0 1 rfl) ?_
  refine x_iconst (E_X5_readLet_0 2 rfl) ?_
  refine z_callVi (E_X5_readLet_0 3 rfl) ml_X5_44 mv_X5_takeWord rfl (by decide) (by decide) (c_X5_takeWord (a := 0) (b := 4) (n := 5) (by omega) ht h0) (by decide) rfl rfl (Nat.le_of_ble_eq_true rfl) (fun v9 τ9 h9 => ?_)
  obtain ⟨z9, s9, a9, f9, w9, F9, O9⟩ := h9
  have l9 := O9 1 (by decide)
  have k9 := O9 4 (by decide)
  have x9 : τ9 42 = σ 42 := F9 42 (by decide)
  have t9 : TxOk (τ9 41 1) (τ9 42) := by rw [l9, x9]; exact ht
  refine x_istore_n (E_X5_readLet_0 4 rfl) rfl ?_
  refine x_iload_n (E_X5_readLet_0 5 rfl) rfl ?_
  refine x_iconst (E_X5_readLet_0 6 rfl) ?_
  refine x_icmp_eq (E_X5_readLet_0 7 rfl) (by omega) (by decide) (fun c1 => ?_) (fun c1 => ?_)
  · refine z_vret (E_X5_readLet_0 16 rfl) trivial ?_
    have hk : (wkS (σ 42) (σ 41 1) 0 5 (σ 41 7)) = -1 := Classical.byContradiction (fun h => by rw [if_neg h] at z9; omega)
    rw [if_pos hk] at a9 f9 w9
    unfold letR
    rw [if_pos hk]
    exact RdP.er (by decide) f9 w9 k9 (by omega) F9 O9
  · have hk : ¬ (wkS (σ 42) (σ 41 1) 0 5 (σ 41 7)) = -1 := fun h => by rw [if_pos h] at z9; omega
    rw [if_neg hk] at z9 a9 f9 w9
    have mq : 0 ≤ mostQ v9 ∧ mostQ v9 ≤ 999 := by
      have := (by decide : ∀ j, j < 5 → 0 ≤ mostQ ((j : Nat) : Int) ∧ mostQ ((j : Nat) : Int) ≤ 999) v9.toNat (by omega)
      rw [show ((v9.toNat : Nat) : Int) = v9 by omega] at this
      exact this
    refine x_aload_n (E_X5_readLet_0 8 rfl) rfl ?_
    refine x_iload_n (E_X5_readLet_0 9 rfl) rfl ?_
    refine x_aload_n (E_X5_readLet_0 10 rfl) rfl ?_
    refine x_gets (i := 3) (E_X5_readLet_0 11 rfl) rfl sl_X5_72 ?_
    refine x_iload_n (E_X5_readLet_0 12 rfl) rfl ?_
    refine x_ialdS (E_X5_readLet_0 13 rfl) rfl (show 0 ≤ v9 ∧ v9 < 5 by omega) (by decide) ?_
    refine z_callVi (E_X5_readLet_0 14 rfl) ml_X5_75 mv_X5_takeNumber rfl (by decide) (by decide) (c_X5_takeNumber (most := mostQ v9) (by omega) t9 (by omega)) (by decide) rfl rfl (Nat.le_of_ble_eq_true rfl) (fun v8 τ8 h8 => ?_)
    unfold TnP at h8
    rw [l9, x9, a9] at h8
    obtain ⟨z8, s8, a8, f8, w8, F8, O8⟩ := h8
    have l8 := O8 1 (by decide)
    have k8 := O8 4 (by decide)
    have x8 : τ8 42 = τ9 42 := F8 42 (by decide)
    have F98 : Fr [41] σ τ8 := Fr.trans F9 F8 (fun k h => h) (fun k h => h)
    have O98 : Fo 41 [5, 6, 7, 8] σ τ8 := Fo.trans O9 O8 (fun k h => h) (fun k h => h)
    have kz : v9 = (wkS (σ 42) (σ 41 1) 0 5 (σ 41 7)) := by omega
    have n01 := nf_01 (tx := σ 42) (len := σ 41 1) (most := mostQ v9) (p := (weS (σ 42) (σ 41 1) (σ 41 7)))
    have dr2 := de_rg (tx := σ 42) (p := (weS (σ 42) (σ 41 1) (σ 41 7))) wr.2
    have br2 := bl_rg (tx := σ 42) (p := (weS (σ 42) (σ 41 1) (σ 41 7))) wr.2
    by_cases hn : (nfS (σ 42) (σ 41 1) (mostQ v9) (weS (σ 42) (σ 41 1) (σ 41 7))) = 0
    · rw [if_pos hn] at f8 w8
      refine z_callVv (E_X5_readLet_0 15 rfl) ml_X5_65 mv_X5_keep rfl (by decide) (by decide) (c_X5_keep (ck := 0) (fi := v9) (se := v8) rfl (by omega) (by omega) (by rw [l8, x8]; exact t9) (by omega)) (by decide) rfl rfl (Nat.le_of_ble_eq_true rfl) (fun τ7 h7 => ?_)
      refine z_vret (E_X5_readLet_0 16 rfl) trivial ?_
      have r7 := h7.pre (σ := σ) (by omega) (by omega) F98 O98
      rw [x8, x9, l8, l9, a8, z8] at r7
      unfold letR
      rw [if_neg hk, ← kz, if_neg (fun h => h hn)]
      exact r7
    · rw [if_neg hn] at f8 w8
      refine z_callVv (E_X5_readLet_0 15 rfl) ml_X5_65 mv_X5_keep rfl (by decide) (by decide) (c_X5_keep0 (by omega) (by omega)) (by decide) rfl rfl (Nat.le_of_ble_eq_true rfl) (fun τ7 h7 => ?_)
      refine z_vret (E_X5_readLet_0 16 rfl) trivial ?_
      have e9 := h7
      subst e9
      unfold letR
      rw [if_neg hk, ← kz, if_pos hn]
      exact RdP.er hn f8 w8 (by omega) (by omega) F98 O98
set_option maxHeartbeats 1000000 in
theorem c_X5_readDry (hf : σ 41 5 = 0) (h4 : 0 ≤ σ 41 4 ∧ σ 41 4 < 10) (ht : TxOk (σ 41 1) (σ 42)) (h0 : 0 ≤ σ 41 7 ∧ σ 41 7 ≤ σ 41 1) : CV l G M_X5_readDry 7 [vr 41] σ (RdP (dryR (σ 42) (σ 41 1) (σ 41 7)) σ) := by
  have br := bl_rg (tx := σ 42) h0.2
  have dr := de_rg (tx := σ 42) h0.2
  have nr := nm_rg (tx := σ 42) h0.2
  have n01 := nf_01 (tx := σ 42) (len := σ 41 1) (most := 3) (p := σ 41 7)
  refine Ct.of rfl (Nat.le_of_ble_eq_true rfl) ?_
  refine x_aload_n (E_X5_readDry_0 0 rfl) rfl ?_
  refine x_iconst (E_X5_readDry_0 1 rfl) ?_
  refine z_callVi (E_X5_readDry_0 2 rfl) ml_X5_75 mv_X5_takeNumber rfl (by decide) (by decide) (c_X5_takeNumber (by omega) ht h0) (by decide) rfl rfl (Nat.le_of_ble_eq_true rfl) (fun v9 τ9 h9 => ?_)
  unfold TnP at h9
  obtain ⟨z9, s9, a9, f9, w9, F9, O9⟩ := h9
  have l9 := O9 1 (by decide)
  have k9 := O9 4 (by decide)
  have x9 : τ9 42 = σ 42 := F9 42 (by decide)
  have t9 : TxOk (τ9 41 1) (τ9 42) := by rw [l9, x9]; exact ht
  have f9r : rgi (τ9 41 5) := by rw [f9]; split <;> omega
  refine x_istore_n (E_X5_readDry_0 3 rfl) rfl ?_
  refine x_aload_n (E_X5_readDry_0 4 rfl) rfl ?_
  refine x_getIe (v := τ9 41 5) (E_X5_readDry_0 5 rfl) fl_X5_34 rfl (by decide) rfl ?_
  refine x_if_ne (E_X5_readDry_0 6 rfl) (by omega) (fun c1 => ?_) (fun c1 => ?_)
  · refine x_aload_n (E_X5_readDry_0 12 rfl) rfl ?_
    refine x_getIe (v := τ9 41 5) (E_X5_readDry_0 13 rfl) fl_X5_34 rfl (by decide) rfl ?_
    refine x_if_ne (E_X5_readDry_0 14 rfl) (by omega) (fun c1 => ?_) (fun c1 => ?_)
    · refine z_vret (E_X5_readDry_0 23 rfl) trivial ?_
      have hn : ¬ (nfS (σ 42) (σ 41 1) 3 (σ 41 7)) = 0 := fun h => by rw [if_pos h] at f9; omega
      rw [if_neg hn] at f9 w9
      unfold dryR
      rw [if_pos hn]
      exact RdP.er hn f9 w9 k9 (by omega) F9 O9
    · exfalso; omega
  · have hn : (nfS (σ 42) (σ 41 1) 3 (σ 41 7)) = 0 := Classical.byContradiction (fun h => by rw [if_neg h] at f9; omega)
    rw [if_pos hn] at f9 w9
    have br1 := bl_rg (tx := σ 42) (p := (deS (σ 42) (σ 41 1) (σ 41 7))) dr.2
    have wr1 := we_rg (tx := σ 42) (p := (deS (σ 42) (σ 41 1) (σ 41 7))) dr.2
    have kr1 : (wkS (σ 42) (σ 41 1) 13 1 (deS (σ 42) (σ 41 1) (σ 41 7))) = -1 ∨ (13 ≤ (wkS (σ 42) (σ 41 1) 13 1 (deS (σ 42) (σ 41 1) (σ 41 7))) ∧ (wkS (σ 42) (σ 41 1) 13 1 (deS (σ 42) (σ 41 1) (σ 41 7))) < 13 + ((1 : Nat) : Int)) := lkF_rg
    refine x_aload_n (E_X5_readDry_0 7 rfl) rfl ?_
    refine x_bipush (z := 13) (E_X5_readDry_0 8 rfl) (by decide) ?_
    refine x_bipush (z := 13) (E_X5_readDry_0 9 rfl) (by decide) ?_
    refine z_callVi (E_X5_readDry_0 10 rfl) ml_X5_44 mv_X5_takeWord rfl (by decide) (by decide) (c_X5_takeWord (a := 13) (b := 13) (n := 1) (by omega) t9 (by omega)) (by decide) rfl rfl (Nat.le_of_ble_eq_true rfl) (fun v8 τ8 h8 => ?_)
    unfold TwP at h8
    rw [l9, x9, a9] at h8
    obtain ⟨z8, s8, a8, f8, w8, F8, O8⟩ := h8
    have l8 := O8 1 (by decide)
    have k8 := O8 4 (by decide)
    have x8 : τ8 42 = τ9 42 := F8 42 (by decide)
    have t8 : TxOk (τ8 41 1) (τ8 42) := by rw [l8, x8]; exact t9
    have F98 : Fr [41] σ τ8 := Fr.trans F9 F8 (fun k h => h) (fun k h => h)
    have O98 : Fo 41 [5, 6, 7, 8] σ τ8 := Fo.trans O9 O8 (fun k h => h) (fun k h => h)
    have f8r : rgi (τ8 41 5) := by rw [f8]; split <;> omega
    refine x_pop (E_X5_readDry_0 11 rfl) ?_
    refine x_aload_n (E_X5_readDry_0 12 rfl) rfl ?_
    refine x_getIe (v := τ8 41 5) (E_X5_readDry_0 13 rfl) fl_X5_34 rfl (by decide) rfl ?_
    refine x_if_ne (E_X5_readDry_0 14 rfl) (by omega) (fun c1 => ?_) (fun c1 => ?_)
    · refine z_vret (E_X5_readDry_0 23 rfl) trivial ?_
      have hk : (wkS (σ 42) (σ 41 1) 13 1 (deS (σ 42) (σ 41 1) (σ 41 7))) = -1 := Classical.byContradiction (fun h => by rw [if_neg h] at f8; omega)
      rw [if_pos hk] at a8 f8 w8
      unfold dryR
      rw [if_neg (fun h => h hn), if_pos hk]
      exact RdP.er (by decide) f8 w8 (by omega) (by omega) F98 O98
    · have hk : ¬ (wkS (σ 42) (σ 41 1) 13 1 (deS (σ 42) (σ 41 1) (σ 41 7))) = -1 := fun h => by rw [if_pos h] at f8; omega
      rw [if_neg hk] at a8 f8 w8
      have br2 := bl_rg (tx := σ 42) (p := (weS (σ 42) (σ 41 1) (deS (σ 42) (σ 41 1) (σ 41 7)))) wr1.2
      have dr2 := de_rg (tx := σ 42) (p := (weS (σ 42) (σ 41 1) (deS (σ 42) (σ 41 1) (σ 41 7)))) wr1.2
      have n02 := nf_01 (tx := σ 42) (len := σ 41 1) (most := 999) (p := (weS (σ 42) (σ 41 1) (deS (σ 42) (σ 41 1) (σ 41 7))))
      refine x_aload_n (E_X5_readDry_0 15 rfl) rfl ?_
      refine x_iconst (E_X5_readDry_0 16 rfl) ?_
      refine x_iload_n (E_X5_readDry_0 17 rfl) rfl ?_
      refine x_iadd (E_X5_readDry_0 18 rfl) ?_
      refine x_aload_n (E_X5_readDry_0 19 rfl) rfl ?_
      refine x_sipush (z := 999) (E_X5_readDry_0 20 rfl) (by decide) ?_
      refine z_callVi (E_X5_readDry_0 21 rfl) ml_X5_75 mv_X5_takeNumber rfl (by decide) (by decide) (c_X5_takeNumber (by omega) t8 (by omega)) (by decide) rfl rfl (Nat.le_of_ble_eq_true rfl) (fun v7 τ7 h7 => ?_)
      unfold TnP at h7
      rw [l8, x8, a8, l9, x9] at h7
      obtain ⟨z7, s7, a7, f7, w7, F7, O7⟩ := h7
      have l7 := O7 1 (by decide)
      have k7 := O7 4 (by decide)
      have x7 : τ7 42 = τ8 42 := F7 42 (by decide)
      have F97 : Fr [41] σ τ7 := Fr.trans F98 F7 (fun k h => h) (fun k h => h)
      have O97 : Fo 41 [5, 6, 7, 8] σ τ7 := Fo.trans O98 O7 (fun k h => h) (fun k h => h)
      by_cases hm : (nfS (σ 42) (σ 41 1) 999 (weS (σ 42) (σ 41 1) (deS (σ 42) (σ 41 1) (σ 41 7)))) = 0
      · rw [if_pos hm] at f7 w7
        refine z_callVv (E_X5_readDry_0 22 rfl) ml_X5_65 mv_X5_keep rfl (by decide) (by decide) (c_X5_keep (ck := 1) (fi := v9) (se := v7) rfl (by omega) (by omega) (by rw [l7, x7]; exact t8) (by omega)) (by decide) rfl rfl (Nat.le_of_ble_eq_true rfl) (fun τ6 h6 => ?_)
        refine z_vret (E_X5_readDry_0 23 rfl) trivial ?_
        have r6 := h6.pre (σ := σ) (by omega) (by omega) F97 O97
        rw [x7, x8, x9, l7, l8, l9, a7, z7, z9] at r6
        unfold dryR
        rw [if_neg (fun h => h hn), if_neg hk, if_neg (fun h => h hm)]
        exact r6
      · rw [if_neg hm] at f7 w7
        refine z_callVv (E_X5_readDry_0 22 rfl) ml_X5_65 mv_X5_keep rfl (by decide) (by decide) (c_X5_keep0 (by omega) (by omega)) (by decide) rfl rfl (Nat.le_of_ble_eq_true rfl) (fun τ6 h6 => ?_)
        refine z_vret (E_X5_readDry_0 23 rfl) trivial ?_
        subst h6
        unfold dryR
        rw [if_neg (fun h => h hn), if_neg hk, if_pos hm]
        exact RdP.er hm f7 w7 (by omega) (by omega) F97 O97
set_option maxHeartbeats 1000000 in
theorem c_X5_takeTerm {nt : Int} (hn : 0 ≤ nt ∧ nt ≤ 8) (hf : σ 41 5 = 0) (h4 : 0 ≤ σ 41 4 ∧ σ 41 4 < 10) (ht : TxOk (σ 41 1) (σ 42)) (h0 : 0 ≤ σ 41 7 ∧ σ 41 7 ≤ σ 41 1) : CI l G M_X5_takeTerm 2 [vr 41, vi nt] σ (fun z τ => z = nmS (σ 42) (σ 41 1) (σ 41 7) ∧ τ 41 7 = (deS (σ 42) (σ 41 1) (σ 41 7)) ∧ τ 41 5 = (if nfS (σ 42) (σ 41 1) 9999 (σ 41 7) ≠ 0 then nfS (σ 42) (σ 41 1) 9999 (σ 41 7) else if nt ≤ nmS (σ 42) (σ 41 1) (σ 41 7) then 3 else 0) ∧ (τ 41 5 ≠ 0 → τ 41 6 = (blS (σ 42) (σ 41 1) (σ 41 7))) ∧ (τ 41 5 = 0 → τ 41 6 = σ 41 6) ∧ Fr [41] σ τ ∧ Fo 41 [5, 6, 7, 8] σ τ) := by
  have nr := nm_rg (tx := σ 42) h0.2
  have n01 := nf_01 (tx := σ 42) (len := σ 41 1) (most := 9999) (p := σ 41 7)
  refine Ct.of rfl (Nat.le_of_ble_eq_true rfl) ?_
  refine x_aload_n (E_X5_takeTerm_0 0 rfl) rfl ?_
  refine x_sipush (z := 9999) (E_X5_takeTerm_0 1 rfl) (by decide) ?_
  refine z_callVi (E_X5_takeTerm_0 2 rfl) ml_X5_75 mv_X5_takeNumber rfl (by decide) (by decide) (c_X5_takeNumber (by omega) ht h0) (by decide) rfl rfl (Nat.le_of_ble_eq_true rfl) (fun v9 τ9 h9 => ?_)
  unfold TnP at h9
  obtain ⟨z9, s9, a9, f9, w9, F9, O9⟩ := h9
  have f9r : rgi (τ9 41 5) := by rw [f9]; split <;> omega
  refine x_istore_n (E_X5_takeTerm_0 3 rfl) rfl ?_
  refine x_aload_n (E_X5_takeTerm_0 4 rfl) rfl ?_
  refine x_getIe (v := τ9 41 5) (E_X5_takeTerm_0 5 rfl) fl_X5_34 rfl (by decide) rfl ?_
  refine x_if_ne (E_X5_takeTerm_0 6 rfl) (by omega) (fun c1 => ?_) (fun c1 => ?_)
  · refine x_iload_n (E_X5_takeTerm_0 15 rfl) rfl ?_
    refine z_iret (E_X5_takeTerm_0 16 rfl) trivial ?_
    have hn : ¬ (nfS (σ 42) (σ 41 1) 9999 (σ 41 7)) = 0 := fun h => by rw [if_pos h] at f9; omega
    rw [if_neg hn] at f9 w9
    exact ⟨z9, a9, by rw [if_pos hn]; exact f9, fun _ => w9, fun h => absurd h (by omega), F9, O9⟩
  · refine x_iload_n (E_X5_takeTerm_0 7 rfl) rfl ?_
    refine x_iload_n (E_X5_takeTerm_0 8 rfl) rfl ?_
    refine x_icmp_lt (E_X5_takeTerm_0 9 rfl) (by omega) (by omega) (fun c2 => ?_) (fun c2 => ?_)
    · refine x_iload_n (E_X5_takeTerm_0 15 rfl) rfl ?_
      refine z_iret (E_X5_takeTerm_0 16 rfl) trivial ?_
      have hn : (nfS (σ 42) (σ 41 1) 9999 (σ 41 7)) = 0 := Classical.byContradiction (fun h => by rw [if_neg h] at f9; omega)
      rw [if_pos hn] at f9 w9
      exact ⟨z9, a9, by rw [if_neg (fun h => h hn), if_neg (by omega)]; omega, fun h => absurd (by omega) h, fun _ => w9, F9, O9⟩
    · refine x_aload_n (E_X5_takeTerm_0 10 rfl) rfl ?_
      refine x_iconst (E_X5_takeTerm_0 11 rfl) ?_
      refine x_aload_n (E_X5_takeTerm_0 12 rfl) rfl ?_
      refine x_getIe (v := τ9 41 8) (E_X5_takeTerm_0 13 rfl) fl_X5_48 rfl (by decide) rfl ?_
      refine z_callVv (E_X5_takeTerm_0 14 rfl) ml_X5_51 mv_X5_fail rfl (by decide) (by decide) c_X5_fail (by decide) rfl rfl (Nat.le_of_ble_eq_true rfl) (fun τ8 h8 => ?_)
      subst h8
      refine x_iload_n (E_X5_takeTerm_0 15 rfl) rfl ?_
      refine z_iret (E_X5_takeTerm_0 16 rfl) trivial ?_
      have hn : (nfS (σ 42) (σ 41 1) 9999 (σ 41 7)) = 0 := Classical.byContradiction (fun h => by rw [if_neg h] at f9; omega)
      rw [if_pos hn] at f9 w9
      exact ⟨z9, a9, by rw [if_neg (fun h => h hn), if_pos (by omega)]; rfl, fun _ => s9, fun h => absurd (show (3 : Int) = 0 from h) (by decide), (F9.up (by decide)).up (by decide), (O9.up (by decide)).up (by decide)⟩

