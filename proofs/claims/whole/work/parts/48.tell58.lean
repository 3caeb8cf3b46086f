/-! the story at 58: pass, isDone, clear, tell -/
variable {l : Launch} {G : GC} {σ : Nat → Int → Int}
variable {dt : Nat → Int → Int} {hd : Int → Int → Int} {n : Nat} {nl : Int}
set_option maxHeartbeats 1000000 in
theorem c_X7_pass_58 {i : Int} (hi : 0 ≤ i ∧ i < (n : Int)) (th : (SC 58 n nl σ) 1 (dt 2 i) = 1) (k : dt 0 i = 1) (hL : LD dt hd n nl σ) (hD : DOk dt hd n nl) (hy : YOk n nl (dt 6) (SC 58 n nl σ)) (hon : ∀ l, 0 ≤ l → l < nl → σ 70 l = onS (SC 58 n nl σ) n l) : CI l G M_X7_pass 3 [vr 58, vi (dt 2 i), vi i] σ (DoP58 dt hd n nl i σ) := by
  obtain ⟨⟨e8, e9, e11, e12, e13, e14, e3⟩, ⟨e79, e15⟩, -⟩ := id hL
  obtain ⟨n120, nl12, hln, hck, hhd⟩ := id hD
  obtain ⟨l0, l1, l2, l3, l4, l5, l6, l7, l8, l9⟩ := hln i hi.1 hi.2
  unfold hasPq at l4
  have f8 := congrFun e8 i
  have f9 := congrFun e9 i
  have f11 := congrFun e11 i
  have f12 := congrFun e12 i
  have f13 := congrFun e13 i
  have f14 := congrFun e14 i
  have rd : (0 ≤ dt 2 i ∧ dt 2 i < (n : Int)) ∧ σ 59 (dt 2 i) = 1 ∧ (SC 58 n nl σ) 3 (dt 2 i) = σ 61 (dt 2 i) ∧ (SC 58 n nl σ) 4 (dt 2 i) = σ 62 (dt 2 i) ∧ (SC 58 n nl σ) 5 (dt 2 i) = σ 63 (dt 2 i) ∧ (SC 58 n nl σ) 6 (dt 2 i) = σ 64 (dt 2 i) ∧ (SC 58 n nl σ) 7 (dt 2 i) = σ 65 (dt 2 i) ∧ (SC 58 n nl σ) 8 (dt 2 i) = σ 66 (dt 2 i) ∧ (SC 58 n nl σ) 9 (dt 2 i) = σ 67 (dt 2 i) := StG_rd th
  obtain ⟨d1, d2, d3, d4, d5, d6, d7, d8, d9⟩ := rd
  have yr := hy.2.1 _ th
  refine Ct.of rfl (Nat.le_of_ble_eq_true rfl) ?_
  have j121 : ∀ (ρ : Nat → Int → Int) (pd : Int), (pd = 0 ∨ pd = 1) → (pd = 1 ↔ dt 5 i = 1) → okS dt hd (SC 58 n nl σ) i = true → Mid58 dt hd n nl (upq (SC 58 n nl σ) 6 (dt 2 i) (if (SC 58 n nl σ) 6 (dt 2 i) = dt 4 i ∨ (dt 5 i = 1 ∧ hd (dt 1 i) 1 = 1) then dt 3 i else (SC 58 n nl σ) 6 (dt 2 i))) (σ 70) σ ρ → XI l G M_X7_pass 3 121 [some (vr 58), some (vi (dt 2 i)), some (vi i), some (vi (σ 13 i)), some (vi pd), some (vi (σ 9 i))] [] ρ (DoP58 dt hd n nl i σ) := by
    intro ρ pd p01 pdi ok m
    have r12 : ρ 12 i = dt 3 i := congrFun m.2.2.1.1.2.2.2.1 i
    refine x_aload_n (E_X7_pass_1 8 rfl) rfl ?_
    refine x_getR (E_X7_pass_1 9 rfl) fl_X7_25 rfl (by decide) rfl ?_
    refine x_iload_n (E_X7_pass_1 10 rfl) rfl ?_
    refine x_aload_n (E_X7_pass_1 11 rfl) rfl ?_
    refine x_getR (E_X7_pass_1 12 rfl) fl_X7_53 rfl (by decide) rfl ?_
    refine x_getR (E_X7_pass_1 13 rfl) fl_X7_133 rfl (by decide) rfl ?_
    refine x_iload_n (E_X7_pass_1 14 rfl) rfl ?_
    refine x_ialde (f := ρ 12) (E_X7_pass_1 15 rfl) rfl (by decide) (by omega) rfl ?_
    refine x_iast (E_X7_pass_1 16 rfl) rfl (by decide) (by omega) ?_
    refine x_iload (E_X7_pass_1 17 rfl) rfl ?_
    refine x_if_eq (E_X7_pass_1 18 rfl) (by omega) (fun c1 => ?_) (fun c1 => ?_)
    · refine x_iconst (E_X7_pass_1 24 rfl) ?_
      refine z_iret (E_X7_pass_1 25 rfl) (Or.inr rfl) ?_
      have q5 : ¬ dt 5 i = 1 := by omega
      have ee : upq (upq (SC 58 n nl σ) 6 (dt 2 i) (if (SC 58 n nl σ) 6 (dt 2 i) = dt 4 i ∨ (dt 5 i = 1 ∧ hd (dt 1 i) 1 = 1) then dt 3 i else (SC 58 n nl σ) 6 (dt 2 i))) 5 (dt 2 i) (ρ 12 i) = efS dt hd n (SC 58 n nl σ) i := by
        rw [efS_1 k, if_neg q5, r12]
        exact (upq_self (y := upq (upq (SC 58 n nl σ) 6 (dt 2 i) (if (SC 58 n nl σ) 6 (dt 2 i) = dt 4 i ∨ (dt 5 i = 1 ∧ hd (dt 1 i) 1 = 1) then dt 3 i else (SC 58 n nl σ) 6 (dt 2 i))) 5 (dt 2 i) (dt 3 i)) (k := 9) (i := dt 2 i)).symm
      refine DoP58.yes ok (by rw [← ee]; exact m.u5 th) (fun x a b => ?_)
      rw [← ee]
      exact (hon x a b).trans (onS_eq rfl rfl rfl)
    · refine x_aload_n (E_X7_pass_1 19 rfl) rfl ?_
      refine x_getR (E_X7_pass_1 20 rfl) fl_X7_37 rfl (by decide) rfl ?_
      refine x_iload_n (E_X7_pass_1 21 rfl) rfl ?_
      refine x_iconst (E_X7_pass_1 22 rfl) ?_
      refine x_iast (E_X7_pass_1 23 rfl) rfl (by decide) (by omega) ?_
      refine x_iconst (E_X7_pass_1 24 rfl) ?_
      refine z_iret (E_X7_pass_1 25 rfl) (Or.inr rfl) ?_
      have q5 : dt 5 i = 1 := by omega
      have ee : upq (upq (upq (SC 58 n nl σ) 6 (dt 2 i) (if (SC 58 n nl σ) 6 (dt 2 i) = dt 4 i ∨ (dt 5 i = 1 ∧ hd (dt 1 i) 1 = 1) then dt 3 i else (SC 58 n nl σ) 6 (dt 2 i))) 5 (dt 2 i) (ρ 12 i)) 9 (dt 2 i) (-1) = efS dt hd n (SC 58 n nl σ) i := by
        rw [efS_1 k, r12, if_pos q5]
      refine DoP58.yes ok (by rw [← ee]; exact (m.u5 th).u9 th) (fun x a b => ?_)
      rw [← ee]
      exact (hon x a b).trans (onS_eq rfl rfl rfl)
  have j106 : ∀ (ρ : Nat → Int → Int) (pd : Int), (pd = 0 ∨ pd = 1) → (pd = 1 ↔ dt 5 i = 1) → okS dt hd (SC 58 n nl σ) i = true → ((SC 58 n nl σ) 6 (dt 2 i) = dt 4 i ∨ (dt 5 i = 1 ∧ hd (dt 1 i) 1 = 1)) → Mid58 dt hd n nl (SC 58 n nl σ) (σ 70) σ ρ → XI l G M_X7_pass 3 106 [some (vr 58), some (vi (dt 2 i)), some (vi i), some (vi (σ 13 i)), some (vi pd), some (vi (σ 9 i))] [] ρ (DoP58 dt hd n nl i σ) := by
    intro ρ pd p01 pdi ok tv m
    have r12 : ρ 12 i = dt 3 i := congrFun m.2.2.1.1.2.2.2.1 i
    refine x_aload_n (E_X7_pass_0 59 rfl) rfl ?_
    refine x_getR (E_X7_pass_1 0 rfl) fl_X7_28 rfl (by decide) rfl ?_
    refine x_iload_n (E_X7_pass_1 1 rfl) rfl ?_
    refine x_aload_n (E_X7_pass_1 2 rfl) rfl ?_
    refine x_getR (E_X7_pass_1 3 rfl) fl_X7_53 rfl (by decide) rfl ?_
    refine x_getR (E_X7_pass_1 4 rfl) fl_X7_133 rfl (by decide) rfl ?_
    refine x_iload_n (E_X7_pass_1 5 rfl) rfl ?_
    refine x_ialde (f := ρ 12) (E_X7_pass_1 6 rfl) rfl (by decide) (by omega) rfl ?_
    refine x_iast (E_X7_pass_1 7 rfl) rfl (by decide) (by omega) ?_
    rw [r12]
    refine j121 _ pd p01 pdi ok ?_
    rw [if_pos tv]
    exact m.u6 th
  have j77 : ∀ (ρ : Nat → Int → Int) (pd : Int), (pd = 0 ∨ pd = 1) → (pd = 1 ↔ dt 5 i = 1) → okS dt hd (SC 58 n nl σ) i = true → Mid58 dt hd n nl (SC 58 n nl σ) (σ 70) σ ρ → XI l G M_X7_pass 3 77 [some (vr 58), some (vi (dt 2 i)), some (vi i), some (vi (σ 13 i)), some (vi pd), some (vi (σ 9 i))] [] ρ (DoP58 dt hd n nl i σ) := by
    intro ρ pd p01 pdi ok m
    have r6 : (SC 58 n nl σ) 6 (dt 2 i) = ρ 64 (dt 2 i) := by
      have := (StG_rd (a := fun j => ρ (58 + j)) (d := ρ 58 15) (n := n) (nl := nl) (w := dt 2 i) (by have := m.1; unfold SC at this; rw [this]; exact th)).2.2.2.2.2.1
      have q := m.1
      unfold SC at q
      rw [q] at this
      exact this
    refine x_aload_n (E_X7_pass_0 44 rfl) rfl ?_
    refine x_getR (E_X7_pass_0 45 rfl) fl_X7_28 rfl (by decide) rfl ?_
    refine x_iload_n (E_X7_pass_0 46 rfl) rfl ?_
    refine x_ialde (f := ρ 64) (E_X7_pass_0 47 rfl) rfl (by decide) (by omega) rfl ?_
    refine x_iload_n (E_X7_pass_0 48 rfl) rfl ?_
    refine x_icmp_eq (E_X7_pass_0 49 rfl) (by omega) (by omega) (fun c1 => ?_) (fun c1 => ?_)
    · exact j106 _ pd p01 pdi ok (Or.inl (by omega)) m
    · refine x_iload (E_X7_pass_0 50 rfl) rfl ?_
      refine x_if_eq (E_X7_pass_0 51 rfl) (by omega) (fun c2 => ?_) (fun c2 => ?_)
      · refine j121 _ pd p01 pdi ok ?_
        rw [if_neg (by omega), upq_self]
        exact m
      · refine x_aload_n (E_X7_pass_0 52 rfl) rfl ?_
        refine x_getR (E_X7_pass_0 53 rfl) fl_X7_57 rfl (by decide) rfl ?_
        refine x_iconst (E_X7_pass_0 54 rfl) ?_
        refine x_iload (E_X7_pass_0 55 rfl) rfl ?_
        refine z_callVi (E_X7_pass_0 56 rfl) ml_X7_150 mv_X8_on rfl (by decide) (by decide) (c_X8_on (w := 1) (d := σ 9 i) (by decide) (by omega) m.2.2.1.2.2.1 m.2.2.1.2.2.2.1 m.2.2.1.2.2.2.2.1) (by decide) rfl rfl (Nat.le_of_ble_eq_true rfl) (fun z7 τ7 k7 => ?_)
        obtain ⟨v7, k7⟩ := k7
        rw [m.2.2.1.2.2.2.2.2, f9] at v7
        have m7 := m.hold k7 (by omega)
        have h7 := hhd (dt 1 i) 1 (by decide) (by decide)
        rw [← v7] at h7
        refine x_iconst (E_X7_pass_0 57 rfl) ?_
        refine x_icmp_ne (E_X7_pass_0 58 rfl) (by omega) (by decide) (fun c3 => ?_) (fun c3 => ?_)
        · refine j121 _ pd p01 pdi ok ?_
          rw [if_neg (by omega), upq_self]
          exact m7
        · exact j106 _ pd p01 pdi ok (Or.inr (by omega)) m7
  refine x_aload_n (E_X7_pass_0 0 rfl) rfl ?_
  refine x_getR (E_X7_pass_0 1 rfl) fl_X7_53 rfl (by decide) rfl ?_
  refine x_getR (E_X7_pass_0 2 rfl) fl_X7_147 rfl (by decide) rfl ?_
  refine x_iload_n (E_X7_pass_0 3 rfl) rfl ?_
  refine x_ialde (f := σ 13) (E_X7_pass_0 4 rfl) rfl (by decide) (by omega) rfl ?_
  refine x_istore_n (E_X7_pass_0 5 rfl) rfl ?_
  refine x_aload_n (E_X7_pass_0 6 rfl) rfl ?_
  refine x_getR (E_X7_pass_0 7 rfl) fl_X7_53 rfl (by decide) rfl ?_
  refine x_getR (E_X7_pass_0 8 rfl) fl_X7_130 rfl (by decide) rfl ?_
  refine x_iload_n (E_X7_pass_0 9 rfl) rfl ?_
  refine x_ialde (f := σ 14) (E_X7_pass_0 10 rfl) rfl (by decide) (by omega) rfl ?_
  refine x_iconst (E_X7_pass_0 11 rfl) ?_
  refine x_icmp_ne (E_X7_pass_0 12 rfl) (by omega) (by decide) (fun c1 => ?_) (fun c1 => ?_)
  · refine x_iconst (E_X7_pass_0 15 rfl) ?_
    refine x_istore (E_X7_pass_0 16 rfl) rfl ?_
    refine x_aload_n (E_X7_pass_0 17 rfl) rfl ?_
    refine x_getR (E_X7_pass_0 18 rfl) fl_X7_53 rfl (by decide) rfl ?_
    refine x_getR (E_X7_pass_0 19 rfl) fl_X7_81 rfl (by decide) rfl ?_
    refine x_iload_n (E_X7_pass_0 20 rfl) rfl ?_
    refine x_ialde (f := σ 9) (E_X7_pass_0 21 rfl) rfl (by decide) (by omega) rfl ?_
    refine x_istore (E_X7_pass_0 22 rfl) rfl ?_
    refine x_aload_n (E_X7_pass_0 23 rfl) rfl ?_
    refine x_getR (E_X7_pass_0 24 rfl) fl_X7_25 rfl (by decide) rfl ?_
    refine x_iload_n (E_X7_pass_0 25 rfl) rfl ?_
    refine x_ialde (f := σ 63) (E_X7_pass_0 26 rfl) rfl (by decide) (by omega) rfl ?_
    refine x_iload_n (E_X7_pass_0 27 rfl) rfl ?_
    refine x_icmp_ne (E_X7_pass_0 28 rfl) (by omega) (by omega) (fun c2 => ?_) (fun c2 => ?_)
    · refine x_iconst (E_X7_pass_0 42 rfl) ?_
      refine z_iret (E_X7_pass_0 43 rfl) (Or.inl rfl) ?_
      exact DoP58.no (by rw [okS_1 k th]; exact decide_eq_false (by omega)) (Mid58.rf hL) hon
    · refine x_aload_n (E_X7_pass_0 29 rfl) rfl ?_
      refine x_getR (E_X7_pass_0 30 rfl) fl_X7_37 rfl (by decide) rfl ?_
      refine x_iload_n (E_X7_pass_0 31 rfl) rfl ?_
      refine x_ialde (f := σ 67) (E_X7_pass_0 32 rfl) rfl (by decide) (by omega) rfl ?_
      refine x_iconst (E_X7_pass_0 33 rfl) ?_
      refine x_icmp_eq (E_X7_pass_0 34 rfl) (by omega) (by decide) (fun c3 => ?_) (fun c3 => ?_)
      · exact j77 _ 0 (by decide) (by omega) (by rw [okS_1 k th]; exact decide_eq_true (by omega)) (Mid58.rf hL)
      · refine x_aload_n (E_X7_pass_0 35 rfl) rfl ?_
        refine x_getR (E_X7_pass_0 36 rfl) fl_X7_57 rfl (by decide) rfl ?_
        refine x_iconst (E_X7_pass_0 37 rfl) ?_
        refine x_iload (E_X7_pass_0 38 rfl) rfl ?_
        refine z_callVi (E_X7_pass_0 39 rfl) ml_X7_150 mv_X8_on rfl (by decide) (by decide) (c_X8_on (w := 2) (d := σ 9 i) (by decide) (by omega) (Mid58.rf hL).2.2.1.2.2.1 (Mid58.rf hL).2.2.1.2.2.2.1 (Mid58.rf hL).2.2.1.2.2.2.2.1) (by decide) rfl rfl (Nat.le_of_ble_eq_true rfl) (fun z8 τ8 k8 => ?_)
        obtain ⟨v8, k8⟩ := k8
        rw [(Mid58.rf hL).2.2.1.2.2.2.2.2, f9] at v8
        have m8 := (Mid58.rf hL).hold k8 (by omega)
        have h8 := hhd (dt 1 i) 2 (by decide) (by decide)
        rw [← v8] at h8
        refine x_iconst (E_X7_pass_0 40 rfl) ?_
        refine x_icmp_ne (E_X7_pass_0 41 rfl) (by omega) (by decide) (fun c4 => ?_) (fun c4 => ?_)
        · exact j77 _ 0 (by decide) (by omega) (by rw [okS_1 k th]; exact decide_eq_true (by omega)) m8
        · refine x_iconst (E_X7_pass_0 42 rfl) ?_
          refine z_iret (E_X7_pass_0 43 rfl) (Or.inl rfl) ?_
          exact DoP58.no (by rw [okS_1 k th]; exact decide_eq_false (by omega)) m8 hon
  · refine x_iconst (E_X7_pass_0 13 rfl) ?_
    refine x_goto (E_X7_pass_0 14 rfl) ?_
    refine x_istore (E_X7_pass_0 16 rfl) rfl ?_
    refine x_aload_n (E_X7_pass_0 17 rfl) rfl ?_
    refine x_getR (E_X7_pass_0 18 rfl) fl_X7_53 rfl (by decide) rfl ?_
    refine x_getR (E_X7_pass_0 19 rfl) fl_X7_81 rfl (by decide) rfl ?_
    refine x_iload_n (E_X7_pass_0 20 rfl) rfl ?_
    refine x_ialde (f := σ 9) (E_X7_pass_0 21 rfl) rfl (by decide) (by omega) rfl ?_
    refine x_istore (E_X7_pass_0 22 rfl) rfl ?_
    refine x_aload_n (E_X7_pass_0 23 rfl) rfl ?_
    refine x_getR (E_X7_pass_0 24 rfl) fl_X7_25 rfl (by decide) rfl ?_
    refine x_iload_n (E_X7_pass_0 25 rfl) rfl ?_
    refine x_ialde (f := σ 63) (E_X7_pass_0 26 rfl) rfl (by decide) (by omega) rfl ?_
    refine x_iload_n (E_X7_pass_0 27 rfl) rfl ?_
    refine x_icmp_ne (E_X7_pass_0 28 rfl) (by omega) (by omega) (fun c5 => ?_) (fun c5 => ?_)
    · refine x_iconst (E_X7_pass_0 42 rfl) ?_
      refine z_iret (E_X7_pass_0 43 rfl) (Or.inl rfl) ?_
      exact DoP58.no (by rw [okS_1 k th]; exact decide_eq_false (by omega)) (Mid58.rf hL) hon
    · refine x_aload_n (E_X7_pass_0 29 rfl) rfl ?_
      refine x_getR (E_X7_pass_0 30 rfl) fl_X7_37 rfl (by decide) rfl ?_
      refine x_iload_n (E_X7_pass_0 31 rfl) rfl ?_
      refine x_ialde (f := σ 67) (E_X7_pass_0 32 rfl) rfl (by decide) (by omega) rfl ?_
      refine x_iconst (E_X7_pass_0 33 rfl) ?_
      refine x_icmp_eq (E_X7_pass_0 34 rfl) (by omega) (by decide) (fun c6 => ?_) (fun c6 => ?_)
      · exact j77 _ 1 (by decide) (by omega) (by rw [okS_1 k th]; exact decide_eq_true (by omega)) (Mid58.rf hL)
      · refine x_aload_n (E_X7_pass_0 35 rfl) rfl ?_
        refine x_getR (E_X7_pass_0 36 rfl) fl_X7_57 rfl (by decide) rfl ?_
        refine x_iconst (E_X7_pass_0 37 rfl) ?_
        refine x_iload (E_X7_pass_0 38 rfl) rfl ?_
        refine z_callVi (E_X7_pass_0 39 rfl) ml_X7_150 mv_X8_on rfl (by decide) (by decide) (c_X8_on (w := 2) (d := σ 9 i) (by decide) (by omega) (Mid58.rf hL).2.2.1.2.2.1 (Mid58.rf hL).2.2.1.2.2.2.1 (Mid58.rf hL).2.2.1.2.2.2.2.1) (by decide) rfl rfl (Nat.le_of_ble_eq_true rfl) (fun z8 τ8 k8 => ?_)
        obtain ⟨v8, k8⟩ := k8
        rw [(Mid58.rf hL).2.2.1.2.2.2.2.2, f9] at v8
        have m8 := (Mid58.rf hL).hold k8 (by omega)
        have h8 := hhd (dt 1 i) 2 (by decide) (by decide)
        rw [← v8] at h8
        refine x_iconst (E_X7_pass_0 40 rfl) ?_
        refine x_icmp_ne (E_X7_pass_0 41 rfl) (by omega) (by decide) (fun c7 => ?_) (fun c7 => ?_)
        · exact j77 _ 1 (by decide) (by omega) (by rw [okS_1 k th]; exact decide_eq_true (by omega)) m8
        · refine x_iconst (E_X7_pass_0 42 rfl) ?_
          refine z_iret (E_X7_pass_0 43 rfl) (Or.inl rfl) ?_
          exact DoP58.no (by rw [okS_1 k th]; exact decide_eq_false (by omega)) m8 hon

theorem DoP58.z01 {i z : Int} {τ : Nat → Int → Int} (h : DoP58 dt hd n nl i σ z τ) : z = 0 ∨ z = 1 := by
  rw [h.1]
  split
  · exact Or.inr rfl
  · exact Or.inl rfl
set_option maxHeartbeats 1000000 in
theorem c_X7_isDone_58 {i : Int} (hi : 0 ≤ i ∧ i < (n : Int)) (h0 : (SC 58 n nl σ) 1 i = 0) (hL : LD dt hd n nl σ) (hD : DOk dt hd n nl) (hy : YOk n nl (dt 6) (SC 58 n nl σ)) (hon : ∀ l, 0 ≤ l → l < nl → σ 70 l = onS (SC 58 n nl σ) n l) : CI l G M_X7_isDone 4 [vr 58, vi i] σ (DoP58 dt hd n nl i σ) := by
  obtain ⟨⟨e8, e9, e11, e12, e13, e14, e3⟩, ⟨e79, e15⟩, -⟩ := id hL
  obtain ⟨n120, nl12, hln, hck, hhd⟩ := id hD
  obtain ⟨l0, l1, l2, l3, l4, l5, l6, l7, l8, l9⟩ := hln i hi.1 hi.2
  unfold hasPq at l4
  have f8 := congrFun e8 i
  have f9 := congrFun e9 i
  have f11 := congrFun e11 i
  have f12 := congrFun e12 i
  have f13 := congrFun e13 i
  have f14 := congrFun e14 i
  refine Ct.of rfl (Nat.le_of_ble_eq_true rfl) ?_
  have j59 : ∀ o : Option AV, (dt 0 i = 0 ∨ dt 0 i = 8 ∨ dt 0 i = 10 ∨ (SC 58 n nl σ) 1 (dt 2 i) = 1) → XI l G M_X7_isDone 4 59 [some (vr 58), some (vi i), some (vi (σ 8 i)), some (vi (dt 2 i)), o] [] σ (DoP58 dt hd n nl i σ) := by
    intro o ht
    refine x_iload_n (E_X7_isDone_0 33 rfl) rfl ?_
    by_cases w0 : σ 8 i = 0
    · rw [w0]
      refine x_tsw (t := 116) (E_X7_isDone_0 34 rfl) (by decide) (by decide) (by decide) ?_
      refine x_aload_n (E_X7_isDone_0 35 rfl) rfl ?_
      refine x_iload_n (E_X7_isDone_0 36 rfl) rfl ?_
      refine x_iload_n (E_X7_isDone_0 37 rfl) rfl ?_
      refine z_callVi (E_X7_isDone_0 38 rfl) ml_X7_99 mv_X7_issue rfl (by decide) (by decide) (c_X7_issue_58 hi (by omega) h0 hL hD hy hon) (by decide) rfl rfl (Nat.le_of_ble_eq_true rfl) (fun z9 τ9 h9 => ?_)
      refine z_iret (E_X7_isDone_0 39 rfl) h9.z01 ?_
      exact h9
    by_cases w1 : σ 8 i = 1
    · rw [w1]
      refine x_tsw (t := 123) (E_X7_isDone_0 34 rfl) (by decide) (by decide) (by decide) ?_
      refine x_aload_n (E_X7_isDone_0 40 rfl) rfl ?_
      refine x_iload_n (E_X7_isDone_0 41 rfl) rfl ?_
      refine x_iload_n (E_X7_isDone_0 42 rfl) rfl ?_
      refine z_callVi (E_X7_isDone_0 43 rfl) ml_X7_103 mv_X7_pass rfl (by decide) (by decide) (c_X7_pass_58 hi (by omega) (by omega) hL hD hy hon) (by decide) rfl rfl (Nat.le_of_ble_eq_true rfl) (fun z9 τ9 h9 => ?_)
      refine z_iret (E_X7_isDone_0 44 rfl) h9.z01 ?_
      exact h9
    by_cases w2 : σ 8 i = 2
    · rw [w2]
      refine x_tsw (t := 130) (E_X7_isDone_0 34 rfl) (by decide) (by decide) (by decide) ?_
      refine x_aload_n (E_X7_isDone_0 45 rfl) rfl ?_
      refine x_iload_n (E_X7_isDone_0 46 rfl) rfl ?_
      refine x_iload_n (E_X7_isDone_0 47 rfl) rfl ?_
      refine z_callVi (E_X7_isDone_0 48 rfl) ml_X7_106 mv_X7_divide rfl (by decide) (by decide) (c_X7_divide_58 hi (by omega) (by omega) h0 hL hD hy hon) (by decide) rfl rfl (Nat.le_of_ble_eq_true rfl) (fun z9 τ9 h9 => ?_)
      refine z_iret (E_X7_isDone_0 49 rfl) h9.z01 ?_
      exact h9
    by_cases w3 : σ 8 i = 3
    · rw [w3]
      refine x_tsw (t := 137) (E_X7_isDone_0 34 rfl) (by decide) (by decide) (by decide) ?_
      refine x_aload_n (E_X7_isDone_0 50 rfl) rfl ?_
      refine x_iload_n (E_X7_isDone_0 51 rfl) rfl ?_
      refine x_iload_n (E_X7_isDone_0 52 rfl) rfl ?_
      refine z_callVi (E_X7_isDone_0 53 rfl) ml_X7_109 mv_X7_lend rfl (by decide) (by decide) (c_X7_lend_58 hi (by omega) (by omega) hL hD hy hon) (by decide) rfl rfl (Nat.le_of_ble_eq_true rfl) (fun z9 τ9 h9 => ?_)
      refine z_iret (E_X7_isDone_0 54 rfl) h9.z01 ?_
      exact h9
    by_cases w4 : σ 8 i = 4
    · rw [w4]
      refine x_tsw (t := 144) (E_X7_isDone_0 34 rfl) (by decide) (by decide) (by decide) ?_
      refine x_aload_n (E_X7_isDone_0 55 rfl) rfl ?_
      refine x_iload_n (E_X7_isDone_0 56 rfl) rfl ?_
      refine z_callVi (E_X7_isDone_0 57 rfl) ml_X7_112 mv_X7_repay rfl (by decide) (by decide) (c_X7_repay_58 hi (by omega) (by omega) hL hD hy hon) (by decide) rfl rfl (Nat.le_of_ble_eq_true rfl) (fun z9 τ9 h9 => ?_)
      refine z_iret (E_X7_isDone_0 58 rfl) h9.z01 ?_
      exact h9
    by_cases w5 : σ 8 i = 5
    · rw [w5]
      refine x_tsw (t := 150) (E_X7_isDone_0 34 rfl) (by decide) (by decide) (by decide) ?_
      refine x_aload_n (E_X7_isDone_0 59 rfl) rfl ?_
      refine x_iload_n (E_X7_isDone_1 0 rfl) rfl ?_
      refine x_iload_n (E_X7_isDone_1 1 rfl) rfl ?_
      refine z_callVi (E_X7_isDone_1 2 rfl) ml_X7_115 mv_X7_stop rfl (by decide) (by decide) (c_X7_stop_58 hi (by omega) (by omega) hL hD hy hon) (by decide) rfl rfl (Nat.le_of_ble_eq_true rfl) (fun z9 τ9 h9 => ?_)
      refine z_iret (E_X7_isDone_1 3 rfl) h9.z01 ?_
      exact h9
    by_cases w6 : σ 8 i = 6
    · rw [w6]
      refine x_tsw (t := 157) (E_X7_isDone_0 34 rfl) (by decide) (by decide) (by decide) ?_
      refine x_aload_n (E_X7_isDone_1 4 rfl) rfl ?_
      refine x_iload_n (E_X7_isDone_1 5 rfl) rfl ?_
      refine z_callVi (E_X7_isDone_1 6 rfl) ml_X7_118 mv_X7_free rfl (by decide) (by decide) (c_X7_free_58 hi (by omega) (by omega) hL hD hy hon) (by decide) rfl rfl (Nat.le_of_ble_eq_true rfl) (fun z9 τ9 h9 => ?_)
      refine z_iret (E_X7_isDone_1 7 rfl) h9.z01 ?_
      exact h9
    by_cases w7 : σ 8 i = 7
    · rw [w7]
      refine x_tsw (t := 163) (E_X7_isDone_0 34 rfl) (by decide) (by decide) (by decide) ?_
      refine x_aload_n (E_X7_isDone_1 8 rfl) rfl ?_
      refine x_iload_n (E_X7_isDone_1 9 rfl) rfl ?_
      refine x_iload_n (E_X7_isDone_1 10 rfl) rfl ?_
      refine z_callVi (E_X7_isDone_1 11 rfl) ml_X7_121 mv_X7_handOut rfl (by decide) (by decide) (c_X7_handOut_58 hi (by omega) (by omega) hL hD hy hon) (by decide) rfl rfl (Nat.le_of_ble_eq_true rfl) (fun z9 τ9 h9 => ?_)
      refine z_iret (E_X7_isDone_1 12 rfl) h9.z01 ?_
      exact h9
    by_cases w8 : σ 8 i = 8
    · rw [w8]
      refine x_tsw (t := 170) (E_X7_isDone_0 34 rfl) (by decide) (by decide) (by decide) ?_
      refine x_aload_n (E_X7_isDone_1 13 rfl) rfl ?_
      refine x_iload_n (E_X7_isDone_1 14 rfl) rfl ?_
      refine x_iload_n (E_X7_isDone_1 15 rfl) rfl ?_
      refine z_callVi (E_X7_isDone_1 16 rfl) ml_X7_124 mv_X7_burn rfl (by decide) (by decide) (c_X7_burn_58 hi (by omega) hL hD hy hon) (by decide) rfl rfl (Nat.le_of_ble_eq_true rfl) (fun z9 τ9 h9 => ?_)
      refine z_iret (E_X7_isDone_1 17 rfl) h9.z01 ?_
      exact h9
    by_cases w9 : σ 8 i = 9
    · rw [w9]
      refine x_tsw (t := 177) (E_X7_isDone_0 34 rfl) (by decide) (by decide) (by decide) ?_
      refine x_aload_n (E_X7_isDone_1 18 rfl) rfl ?_
      refine x_iload_n (E_X7_isDone_1 19 rfl) rfl ?_
      refine x_iload_n (E_X7_isDone_1 20 rfl) rfl ?_
      refine z_callVi (E_X7_isDone_1 21 rfl) ml_X7_127 mv_X7_steal rfl (by decide) (by decide) (c_X7_steal_58 hi (by omega) (by omega) hL hD hy hon) (by decide) rfl rfl (Nat.le_of_ble_eq_true rfl) (fun z9 τ9 h9 => ?_)
      refine z_iret (E_X7_isDone_1 22 rfl) h9.z01 ?_
      exact h9
    refine x_tswD (t := 184) (E_X7_isDone_0 34 rfl) (by omega) (by omega) (by decide) ?_
    refine x_iconst (E_X7_isDone_1 23 rfl) ?_
    refine z_iret (E_X7_isDone_1 24 rfl) (Or.inr rfl) ?_
    exact DoP58.yes (okS_t (Or.inr (by omega))) (by rw [efS_10 (by omega)]; exact Mid58.rf hL) (by rw [efS_10 (by omega)]; exact hon)
  refine x_aload_n (E_X7_isDone_0 0 rfl) rfl ?_
  refine x_getR (E_X7_isDone_0 1 rfl) fl_X7_53 rfl (by decide) rfl ?_
  refine x_getR (E_X7_isDone_0 2 rfl) fl_X7_93 rfl (by decide) rfl ?_
  refine x_iload_n (E_X7_isDone_0 3 rfl) rfl ?_
  refine x_ialde (f := σ 8) (E_X7_isDone_0 4 rfl) rfl (by decide) (by omega) rfl ?_
  refine x_istore_n (E_X7_isDone_0 5 rfl) rfl ?_
  refine x_aload_n (E_X7_isDone_0 6 rfl) rfl ?_
  refine x_getR (E_X7_isDone_0 7 rfl) fl_X7_53 rfl (by decide) rfl ?_
  refine x_getR (E_X7_isDone_0 8 rfl) fl_X7_96 rfl (by decide) rfl ?_
  refine x_iload_n (E_X7_isDone_0 9 rfl) rfl ?_
  refine x_ialde (f := σ 11) (E_X7_isDone_0 10 rfl) rfl (by decide) (by omega) rfl ?_
  refine x_istore_n (E_X7_isDone_0 11 rfl) rfl ?_
  rw [f11]
  refine x_iload_n (E_X7_isDone_0 12 rfl) rfl ?_
  refine x_if_eq (E_X7_isDone_0 13 rfl) (by omega) (fun c1 => ?_) (fun c1 => ?_)
  · refine x_iconst (E_X7_isDone_0 22 rfl) ?_
    refine x_istore (E_X7_isDone_0 23 rfl) rfl ?_
    refine x_iload (E_X7_isDone_0 24 rfl) rfl ?_
    refine x_if_eq (E_X7_isDone_0 25 rfl) (by decide) (fun _ => ?_) (fun c9 => absurd rfl c9)
    exact j59 _ (by omega)
  · refine x_iload_n (E_X7_isDone_0 14 rfl) rfl ?_
    refine x_bipush (z := 8) (E_X7_isDone_0 15 rfl) (by decide) ?_
    refine x_icmp_eq (E_X7_isDone_0 16 rfl) (by omega) (by decide) (fun c2 => ?_) (fun c2 => ?_)
    · refine x_iconst (E_X7_isDone_0 22 rfl) ?_
      refine x_istore (E_X7_isDone_0 23 rfl) rfl ?_
      refine x_iload (E_X7_isDone_0 24 rfl) rfl ?_
      refine x_if_eq (E_X7_isDone_0 25 rfl) (by decide) (fun _ => ?_) (fun c9 => absurd rfl c9)
      exact j59 _ (by omega)
    · refine x_iload_n (E_X7_isDone_0 17 rfl) rfl ?_
      refine x_bipush (z := 10) (E_X7_isDone_0 18 rfl) (by decide) ?_
      refine x_icmp_eq (E_X7_isDone_0 19 rfl) (by omega) (by decide) (fun c3 => ?_) (fun c3 => ?_)
      · refine x_iconst (E_X7_isDone_0 22 rfl) ?_
        refine x_istore (E_X7_isDone_0 23 rfl) rfl ?_
        refine x_iload (E_X7_isDone_0 24 rfl) rfl ?_
        refine x_if_eq (E_X7_isDone_0 25 rfl) (by decide) (fun _ => ?_) (fun c9 => absurd rfl c9)
        exact j59 _ (by omega)
      · refine x_iconst (E_X7_isDone_0 20 rfl) ?_
        refine x_goto (E_X7_isDone_0 21 rfl) ?_
        refine x_istore (E_X7_isDone_0 23 rfl) rfl ?_
        refine x_iload (E_X7_isDone_0 24 rfl) rfl ?_
        refine x_if_eq (E_X7_isDone_0 25 rfl) (by decide) (fun c9 => absurd c9 (by decide)) (fun _ => ?_)
        have g1 : (SC 58 n nl σ) 1 (dt 2 i) = σ 59 (dt 2 i) := StG_1 (by omega)
        have g2 := (hy.1 (dt 2 i)).1
        refine x_aload_n (E_X7_isDone_0 26 rfl) rfl ?_
        refine x_getR (E_X7_isDone_0 27 rfl) fl_X7_9 rfl (by decide) rfl ?_
        refine x_iload_n (E_X7_isDone_0 28 rfl) rfl ?_
        refine x_zalde (f := σ 59) (E_X7_isDone_0 29 rfl) rfl (by decide) (by omega) rfl ?_
        refine x_if_ne (E_X7_isDone_0 30 rfl) (by omega) (fun c2 => ?_) (fun c2 => ?_)
        · exact j59 _ (by omega)
        · refine x_iconst (E_X7_isDone_0 31 rfl) ?_
          refine z_iret (E_X7_isDone_0 32 rfl) (Or.inl rfl) ?_
          exact DoP58.no (okS_no (by omega) (by omega)) (Mid58.rf hL) hon

/-- what clear leaves -/
def ClP58 (n nl : Int) (σ τ : Nat → Int → Int) : Prop := (∀ w, 0 ≤ w → w < n → τ 59 w = 0 ∧ τ 60 w = 0) ∧ (∀ w, 0 ≤ w → w < nl → τ 68 w = 0 ∧ τ 69 w = 0 ∧ τ 70 w = 0) ∧ τ 58 15 = 0 ∧ Fr [58, 59, 60, 61, 62, 63, 64, 65, 66, 67, 68, 69, 70] σ τ ∧ Fo 58 [15] σ τ
theorem c_X7_clear_58 (e79 : σ 7 9 = (n : Int)) (e15 : σ 1 5 = nl) (n120 : n ≤ 120) (nl12 : 0 ≤ nl ∧ nl ≤ 12) : CV l G M_X7_clear 0 [vr 58] σ (ClP58 n nl σ) := by
  refine Ct.of rfl (Nat.le_of_ble_eq_true rfl) ?_
  have loop2 : ∀ (k : Nat) (i : Int) (τ : Nat → Int → Int), i = nl - k → k ≤ nl.toNat → (∀ w, 0 ≤ w → w < (n : Int) → τ 59 w = 0 ∧ τ 60 w = 0) → (∀ w, 0 ≤ w → w < i → τ 68 w = 0 ∧ τ 69 w = 0 ∧ τ 70 w = 0) → Fr [59, 60, 61, 62, 63, 64, 65, 66, 67, 68, 69, 70] σ τ → XV l G M_X7_clear 0 35 [some (vr 58), some (vi i)] [] τ (ClP58 n nl σ) := by
    intro k
    induction k using Nat.strongRecOn with
    | _ k ih =>
    intro i τ hi hk hA hB hF
    have q15 := congrFun (hF 1 (by decide)) 5
    refine x_iload_n (E_X7_clear_0 21 rfl) rfl ?_
    refine x_aload_n (E_X7_clear_0 22 rfl) rfl ?_
    refine x_getR (E_X7_clear_0 23 rfl) fl_X7_49 rfl (by decide) rfl ?_
    refine x_getIe (v := τ 1 5) (E_X7_clear_0 24 rfl) fl_X7_87 rfl (by decide) rfl ?_
    refine x_icmp_ge (E_X7_clear_0 25 rfl) (by omega) (by omega) (fun c1 => ?_) (fun c1 => ?_)
    · refine x_aload_n (E_X7_clear_0 43 rfl) rfl ?_
      refine x_iconst (E_X7_clear_0 44 rfl) ?_
      refine x_putI (E_X7_clear_0 45 rfl) fl_X7_90 rfl (by decide) ?_
      refine z_vret (E_X7_clear_0 46 rfl) trivial ?_
      exact ⟨hA, fun w a b => hB w a (by omega), rfl, (hF.sub (by decide)).up (by decide), (Fo.of hF (by decide)).up (by decide)⟩
    · refine x_aload_n (E_X7_clear_0 26 rfl) rfl ?_
      refine x_getR (E_X7_clear_0 27 rfl) fl_X7_40 rfl (by decide) rfl ?_
      refine x_iload_n (E_X7_clear_0 28 rfl) rfl ?_
      refine x_iconst (E_X7_clear_0 29 rfl) ?_
      refine x_iast (E_X7_clear_0 30 rfl) rfl (by decide) (by omega) ?_
      refine x_aload_n (E_X7_clear_0 31 rfl) rfl ?_
      refine x_getR (E_X7_clear_0 32 rfl) fl_X7_43 rfl (by decide) rfl ?_
      refine x_iload_n (E_X7_clear_0 33 rfl) rfl ?_
      refine x_iconst (E_X7_clear_0 34 rfl) ?_
      refine x_iast (E_X7_clear_0 35 rfl) rfl (by decide) (by omega) ?_
      refine x_aload_n (E_X7_clear_0 36 rfl) rfl ?_
      refine x_getR (E_X7_clear_0 37 rfl) fl_X7_46 rfl (by decide) rfl ?_
      refine x_iload_n (E_X7_clear_0 38 rfl) rfl ?_
      refine x_iconst (E_X7_clear_0 39 rfl) ?_
      refine x_iast (E_X7_clear_0 40 rfl) rfl (by decide) (by omega) ?_
      refine x_iinc (E_X7_clear_0 41 rfl) rfl rfl ?_
      refine x_goto (E_X7_clear_0 42 rfl) ?_
      refine ih (k - 1) (by omega) _ _ (by omega) (by omega) hA (fun w a b => ?_) (((hF.up (by decide)).up (by decide)).up (by decide))
      show (if w = i then 0 else τ 68 w) = 0 ∧ (if w = i then 0 else τ 69 w) = 0 ∧ (if w = i then 0 else τ 70 w) = 0
      by_cases e : w = i
      · rw [if_pos e, if_pos e, if_pos e]; exact ⟨rfl, rfl, rfl⟩
      · rw [if_neg e, if_neg e, if_neg e]; exact hB w a (by omega)
  have loop1 : ∀ (k : Nat) (i : Int) (τ : Nat → Int → Int), i = n - k → k ≤ n → (∀ w, 0 ≤ w → w < i → τ 59 w = 0 ∧ τ 60 w = 0) → Fr [59, 60, 61, 62, 63, 64, 65, 66, 67, 68, 69, 70] σ τ → XV l G M_X7_clear 0 2 [some (vr 58), some (vi i)] [] τ (ClP58 n nl σ) := by
    intro k
    induction k using Nat.strongRecOn with
    | _ k ih =>
    intro i τ hi hk hA hF
    have q79 := congrFun (hF 7 (by decide)) 9
    refine x_iload_n (E_X7_clear_0 2 rfl) rfl ?_
    refine x_aload_n (E_X7_clear_0 3 rfl) rfl ?_
    refine x_getR (E_X7_clear_0 4 rfl) fl_X7_53 rfl (by decide) rfl ?_
    refine x_getIe (v := τ 7 9) (E_X7_clear_0 5 rfl) fl_X7_70 rfl (by decide) rfl ?_
    refine x_icmp_ge (E_X7_clear_0 6 rfl) (by omega) (by omega) (fun c1 => ?_) (fun c1 => ?_)
    · refine x_iconst (E_X7_clear_0 19 rfl) ?_
      refine x_istore_n (E_X7_clear_0 20 rfl) rfl ?_
      exact loop2 nl.toNat 0 τ (by omega) (Nat.le_refl _) (fun w a b => hA w a (by omega)) (fun w a b => absurd a (by omega)) hF
    · refine x_aload_n (E_X7_clear_0 7 rfl) rfl ?_
      refine x_getR (E_X7_clear_0 8 rfl) fl_X7_9 rfl (by decide) rfl ?_
      refine x_iload_n (E_X7_clear_0 9 rfl) rfl ?_
      refine x_iconst (E_X7_clear_0 10 rfl) ?_
      refine x_zast (E_X7_clear_0 11 rfl) rfl (by decide) (by omega) (Or.inl rfl) ?_
      refine x_aload_n (E_X7_clear_0 12 rfl) rfl ?_
      refine x_getR (E_X7_clear_0 13 rfl) fl_X7_15 rfl (by decide) rfl ?_
      refine x_iload_n (E_X7_clear_0 14 rfl) rfl ?_
      refine x_iconst (E_X7_clear_0 15 rfl) ?_
      refine x_zast (E_X7_clear_0 16 rfl) rfl (by decide) (by omega) (Or.inl rfl) ?_
      refine x_iinc (E_X7_clear_0 17 rfl) rfl rfl ?_
      refine x_goto (E_X7_clear_0 18 rfl) ?_
      refine ih (k - 1) (by omega) _ _ (by omega) (by omega) (fun w a b => ?_) ((hF.up (by decide)).up (by decide))
      show (if w = i then 0 else τ 59 w) = 0 ∧ (if w = i then 0 else τ 60 w) = 0
      by_cases e : w = i
      · rw [if_pos e, if_pos e]; exact ⟨rfl, rfl⟩
      · rw [if_neg e, if_neg e]; exact hA w a (by omega)
  refine x_iconst (E_X7_clear_0 0 rfl) ?_
  refine x_istore_n (E_X7_clear_0 1 rfl) rfl ?_
  exact loop1 n 0 σ (by omega) (Nat.le_refl _) (fun w a b => absurd a (by omega)) Fr.rf

/-- what tell leaves -/
def TlP58 (dt : Nat → Int → Int) (hd : Int → Int → Int) (n : Nat) (nl d kn : Int) (σ τ : Nat → Int → Int) : Prop := SC 58 n nl τ = (tlS dt hd n ((bookS (dt 1) (dt 0) (dt 2) (σ 10) kn n).filter (fun i => decide (dt 1 i ≤ d))) (fun _ _ => 0)) ∧ (∀ l, 0 ≤ l → l < nl → τ 70 l = onS (tlS dt hd n ((bookS (dt 1) (dt 0) (dt 2) (σ 10) kn n).filter (fun i => decide (dt 1 i ≤ d))) (fun _ _ => 0)) n l) ∧ LD dt hd n nl τ ∧ Fr [7, 16, 17, 39, 40, 58, 59, 60, 61, 62, 63, 64, 65, 66, 67, 68, 69, 70] σ τ ∧ Fo 58 [15] σ τ ∧ Fo 17 [7] σ τ ∧ Fo 7 [10] σ τ
set_option maxHeartbeats 2000000 in
theorem c_X7_tell_58 {d kn : Int} (hd9 : rgi d) (hkn : rgi kn) (hL : LD dt hd n nl σ) (hD : DOk dt hd n nl) (hT : ∀ i, 0 ≤ i → i < (n : Int) → 0 ≤ σ 10 i ∧ σ 10 i ≤ 2000) (hs : ∀ i j, 0 ≤ i → i ≤ j → j < (n : Int) → σ 10 i ≤ σ 10 j) (ho : RepL (σ 15) (srtL (dt 1) (fun _ => true) n)) : CV l G M_X7_tell 5 [vr 58, vi d, vi kn] σ (TlP58 dt hd n nl d kn σ) := by
  obtain ⟨⟨e8, e9, e11, e12, e13, e14, e3⟩, ⟨e79, e15⟩, -⟩ := id hL
  obtain ⟨n120, nl12, hln, hck, hhd⟩ := id hD
  refine Ct.of rfl (Nat.le_of_ble_eq_true rfl) ?_
  have loop : ∀ (κ : Nat → Int → Int), KnP kn σ κ ∨ True → Fr [7, 16, 17, 39, 40, 58, 59, 60, 61, 62, 63, 64, 65, 66, 67, 68, 69, 70] σ κ → Fo 58 [15] σ κ → Fo 17 [7] σ κ → Fo 7 [10] σ κ → (∀ x ∈ srtL (dt 1) (fun _ => true) n, (0 ≤ x ∧ x < 120) ∧ (κ 16 x = 0 ∨ κ 16 x = 1) ∧ (inBS (dt 0) (dt 2) (σ 10) kn n x = true ↔ x < κ 7 10 ∧ κ 16 x = 0)) → (0 ≤ κ 7 10 ∧ κ 7 10 ≤ 120) → ∀ (R : List Int) (k : Int) (o : Option AV) (y : Nat → Int → Int) (ρ : Nat → Int → Int) (f : Int → Int), (srtL (dt 1) (fun _ => true) n).drop k.toNat = R → R.Nodup → 0 ≤ k → k + R.length = (n : Int) → (∀ i ∈ R, y 1 i = 0) → tlS dt hd n (R.filter (fun i => inBS (dt 0) (dt 2) (σ 10) kn n i && decide (dt 1 i ≤ d))) y = (tlS dt hd n ((bookS (dt 1) (dt 0) (dt 2) (σ 10) kn n).filter (fun i => decide (dt 1 i ≤ d))) (fun _ _ => 0)) → YOk n nl (dt 6) y → Mid58 dt hd n nl y f κ ρ → (∀ l, 0 ≤ l → l < nl → f l = onS y n l) → XV l G M_X7_tell 5 14 [some (vr 58), some (vi d), some (vi kn), some (vi k), o] [] ρ (TlP58 dt hd n nl d kn σ) := by
    intro κ _ hF0 hO0 hO17 hO7 hx h10 R
    induction R with
    | nil =>
      intro k o y ρ f w1 w2 w3 w4 w5 w6 hy m hf
      simp only [List.length_nil] at w4
      have q79 := m.2.2.1.2.1.1
      refine x_iload_n (E_X7_tell_0 8 rfl) rfl ?_
      refine x_aload_n (E_X7_tell_0 9 rfl) rfl ?_
      refine x_getR (E_X7_tell_0 10 rfl) fl_X7_53 rfl (by decide) rfl ?_
      refine x_getIe (v := ρ 7 9) (E_X7_tell_0 11 rfl) fl_X7_70 rfl (by decide) rfl ?_
      refine x_icmp_ge (E_X7_tell_0 12 rfl) (by omega) (by omega) (fun c1 => ?_) (fun c1 => ?_)
      · refine z_vret (E_X7_tell_0 44 rfl) trivial ?_
        have w6 : y = (tlS dt hd n ((bookS (dt 1) (dt 0) (dt 2) (σ 10) kn n).filter (fun i => decide (dt 1 i ≤ d))) (fun _ _ => 0)) := w6
        refine ⟨m.1.trans w6, fun x a b => ?_, m.2.2.1, Fr.trans hF0 m.2.2.2.1 (fun k h => h) (by decide), Fo.trans hO0 m.2.2.2.2.1 (fun k h => h) (fun k h => h), Fo.trans hO17 m.2.2.2.2.2 (fun k h => h) (fun k h => h), fun j h => (congrFun (m.2.2.2.1 7 (by decide)) j).trans (hO7 j h)⟩
        rw [m.2.1, hf x a b, w6]
      · exfalso; omega
    | cons x R ih =>
      intro k o y ρ f w1 w2 w3 w4 w5 w6 hy m hf
      simp only [List.length_cons] at w4
      have q79 := m.2.2.1.2.1.1
      have hxo : (srtL (dt 1) (fun _ => true) n)[k.toNat]? = some x := by
        have : ((srtL (dt 1) (fun _ => true) n).drop k.toNat)[0]? = some x := by rw [w1]; rfl
        rw [List.getElem?_drop] at this
        exact this
      have hxm := List.mem_of_getElem? hxo
      have hxr := srtL_mem.mp hxm
      have r15 : ρ 15 = σ 15 := (m.2.2.2.1 15 (by decide)).trans (hF0 15 (by decide))
      have hk : ρ 15 k = x := by
        have := ho _ _ hxo
        rw [show ((k.toNat : Nat) : Int) = k by omega] at this
        rw [r15]; exact this
      have r16 : ρ 16 = κ 16 := m.2.2.2.1 16 (by decide)
      have r7 : ρ 7 = κ 7 := m.2.2.2.1 7 (by decide)
      have hX := hx x hxm
      have f16 := congrFun r16 x
      have f710 := congrFun r7 10
      have r9 : ρ 9 x = dt 1 x := congrFun m.2.2.1.1.2.1 x
      have ln := hln x hxr.1 hxr.2.1
      have l1 := ln.2.1
      have ed : (srtL (dt 1) (fun _ => true) n).drop (k + 1).toNat = R := by
        rw [show (k + 1).toNat = k.toNat + 1 by omega, ← List.drop_drop, w1]
        rfl
      rw [List.nodup_cons] at w2
      have skip : ¬ (inBS (dt 0) (dt 2) (σ 10) kn n x = true ∧ dt 1 x ≤ d) → ∀ o, XV l G M_X7_tell 5 83 [some (vr 58), some (vi d), some (vi kn), some (vi k), o] [] ρ (TlP58 dt hd n nl d kn σ) := by
        intro hp o
        rw [List.filter_cons, if_neg (by rw [Bool.and_eq_true, decide_eq_true_iff]; exact hp)] at w6
        refine x_iinc (E_X7_tell_0 42 rfl) rfl rfl ?_
        refine x_goto (E_X7_tell_0 43 rfl) ?_
        exact ih (k + 1) _ y ρ f ed w2.2 (by omega) (by omega) (fun i hi => w5 i (List.mem_cons_of_mem _ hi)) w6 hy m hf
      refine x_iload_n (E_X7_tell_0 8 rfl) rfl ?_
      refine x_aload_n (E_X7_tell_0 9 rfl) rfl ?_
      refine x_getR (E_X7_tell_0 10 rfl) fl_X7_53 rfl (by decide) rfl ?_
      refine x_getIe (v := ρ 7 9) (E_X7_tell_0 11 rfl) fl_X7_70 rfl (by decide) rfl ?_
      refine x_icmp_ge (E_X7_tell_0 12 rfl) (by omega) (by omega) (fun c1 => ?_) (fun c1 => ?_)
      · exfalso; omega
      · refine x_aload_n (E_X7_tell_0 13 rfl) rfl ?_
        refine x_getR (E_X7_tell_0 14 rfl) fl_X7_53 rfl (by decide) rfl ?_
        refine x_getR (E_X7_tell_0 15 rfl) fl_X7_74 rfl (by decide) rfl ?_
        refine x_iload_n (E_X7_tell_0 16 rfl) rfl ?_
        refine x_ialde (f := ρ 15) (E_X7_tell_0 17 rfl) rfl (by decide) (by omega) rfl ?_
        rw [hk]
        refine x_istore (E_X7_tell_0 18 rfl) rfl ?_
        refine x_aload_n (E_X7_tell_0 19 rfl) rfl ?_
        refine x_getR (E_X7_tell_0 20 rfl) fl_X7_53 rfl (by decide) rfl ?_
        refine x_iload (E_X7_tell_0 21 rfl) rfl ?_
        refine z_callVi (E_X7_tell_0 22 rfl) ml_X7_77 mv_X2_isInBook rfl (by decide) (by decide) (c_X2_isInBook hX.1 (by rw [f710]; exact h10) (by rw [f16]; exact hX.2.1)) (by decide) rfl rfl (Nat.le_of_ble_eq_true rfl) (fun z9 τ9 h9 => ?_)
        obtain ⟨rfl, ⟨rfl, c2⟩ | ⟨rfl, c2⟩⟩ := h9
        · refine x_if_eq (E_X7_tell_0 23 rfl) (by decide) (fun c9 => absurd c9 (by decide)) (fun _ => ?_)
          refine x_aload_n (E_X7_tell_0 24 rfl) rfl ?_
          refine x_getR (E_X7_tell_0 25 rfl) fl_X7_53 rfl (by decide) rfl ?_
          refine x_getR (E_X7_tell_0 26 rfl) fl_X7_81 rfl (by decide) rfl ?_
          refine x_iload (E_X7_tell_0 27 rfl) rfl ?_
          refine x_ialde (f := ρ 9) (E_X7_tell_0 28 rfl) rfl (by decide) (by omega) rfl ?_
          refine x_iload_n (E_X7_tell_0 29 rfl) rfl ?_
          refine x_icmp_gt (E_X7_tell_0 30 rfl) (by omega) (by omega) (fun c3 => ?_) (fun c3 => ?_)
          · exact skip (fun h => by omega) _
          · refine x_aload_n (E_X7_tell_0 31 rfl) rfl ?_
            refine x_getR (E_X7_tell_0 32 rfl) fl_X7_15 rfl (by decide) rfl ?_
            refine x_iload (E_X7_tell_0 33 rfl) rfl ?_
            have pt : (fun i => inBS (dt 0) (dt 2) (σ 10) kn n i && decide (dt 1 i ≤ d)) x = true := by
              rw [Bool.and_eq_true, decide_eq_true_iff]
              exact ⟨hX.2.2.mpr (by omega), by omega⟩
            rw [List.filter_cons, if_pos pt] at w6
            have dn := c_X7_isDone_58 (l := l) (G := G) (σ := ρ) (dt := dt) (hd := hd) (n := n) (nl := nl) (i := x) (by omega) (by rw [m.1]; exact w5 x List.mem_cons_self) m.2.2.1 hD (by rw [m.1]; exact hy) (by rw [m.1, m.2.1]; exact hf)
            refine x_aload_n (E_X7_tell_0 34 rfl) rfl ?_
            refine x_iload (E_X7_tell_0 35 rfl) rfl ?_
            refine z_callVi (E_X7_tell_0 36 rfl) ml_X7_84 mv_X7_isDone rfl (by decide) (by decide) dn (by decide) rfl rfl (Nat.le_of_ble_eq_true rfl) (fun z9 τ9 h9 => ?_)
            obtain ⟨z1, f9, m9, hf9⟩ := h9
            rw [m.1] at z1 m9 hf9
            have z01 : z9 = 0 ∨ z9 = 1 := by rw [z1]; split <;> omega
            have mm : ∀ v, v = (if okS dt hd y x = true then 0 else 1) → Mid58 dt hd n nl (stS dt hd n y x) f9 κ (upq τ9 60 x v) := fun v hv => by
              subst hv
              have u := m9.u2 (w := x) (v := if okS dt hd y x = true then 0 else 1) (by omega)
              exact ⟨u.1, u.2.1, u.2.2.1, Fr.trans m.2.2.2.1 u.2.2.2.1 (fun k h => h) (fun k h => h), Fo.trans m.2.2.2.2.1 u.2.2.2.2.1 (fun k h => h) (fun k h => h), Fo.trans m.2.2.2.2.2 u.2.2.2.2.2 (fun k h => h) (fun k h => h)⟩
            have nx : ∀ v, v = (if okS dt hd y x = true then 0 else 1) → ∀ o, XV l G M_X7_tell 5 14 [some (vr 58), some (vi d), some (vi kn), some (vi (k + 1)), o] [] (upq τ9 60 x v) (TlP58 dt hd n nl d kn σ) := fun v hv o => ih (k + 1) o (stS dt hd n y x) _ f9 ed w2.2 (by omega) (by omega) (fun i hi => by rw [stS_1 (fun e => w2.1 (by rw [← e]; exact hi))]; exact w5 i (List.mem_cons_of_mem _ hi)) w6 (hy.st ln (by omega)) (mm v hv) hf9
            refine x_if_ne (E_X7_tell_0 37 rfl) (by omega) (fun c4 => ?_) (fun c4 => ?_)
            · refine x_iconst (E_X7_tell_0 40 rfl) ?_
              refine x_zast (E_X7_tell_0 41 rfl) rfl (by decide) (by omega) (Or.inl rfl) ?_
              refine x_iinc (E_X7_tell_0 42 rfl) rfl rfl ?_
              refine x_goto (E_X7_tell_0 43 rfl) ?_
              exact nx 0 (if_p (Classical.byContradiction (fun q => by rw [if_neg q] at z1; omega)) rfl).symm _
            · refine x_iconst (E_X7_tell_0 38 rfl) ?_
              refine x_goto (E_X7_tell_0 39 rfl) ?_
              refine x_zast (E_X7_tell_0 41 rfl) rfl (by decide) (by omega) (Or.inr rfl) ?_
              refine x_iinc (E_X7_tell_0 42 rfl) rfl rfl ?_
              refine x_goto (E_X7_tell_0 43 rfl) ?_
              exact nx 1 (if_n (fun q => by rw [if_pos q] at z1; omega) rfl).symm _
        · refine x_if_eq (E_X7_tell_0 23 rfl) (by decide) (fun _ => ?_) (fun c9 => absurd (by decide) c9)
          exact skip (fun h => by have := hX.2.2.mp h.1; omega) _
  refine x_aload_n (E_X7_tell_0 0 rfl) rfl ?_
  refine z_callVv (E_X7_tell_0 1 rfl) ml_X7_61 mv_X7_clear rfl (by decide) (by decide) (c_X7_clear_58 e79 e15 n120 nl12) (by decide) rfl rfl (Nat.le_of_ble_eq_true rfl) (fun τ8 h8 => ?_)
  obtain ⟨c1, c2, c3, c4, c5⟩ := h8
  have low : ∀ k, k ≤ 44 → τ8 k = σ k := fun k hk => c4 k (by simp; omega)
  have hL8 := hL.low low
  have kno := c_X2_know (l := l) (G := G) (σ := τ8) (kn := kn) hkn (by rw [hL8.2.1.1]; omega) (by rw [hL8.2.1.1, hL8.1.1]; exact fun i a b => (hln i a b).1) (by
    rw [hL8.2.1.1, hL8.1.1, hL8.1.2.2.1]
    intro i a b c
    exact (hln i a b).2.2.2.1 (by omega)) (by rw [hL8.2.1.1, low 10 (by decide)]; exact hT) (by rw [hL8.2.1.1, low 10 (by decide)]; exact hs)
  refine x_aload_n (E_X7_tell_0 2 rfl) rfl ?_
  refine x_getR (E_X7_tell_0 3 rfl) fl_X7_53 rfl (by decide) rfl ?_
  refine x_iload_n (E_X7_tell_0 4 rfl) rfl ?_
  refine z_callVv (E_X7_tell_0 5 rfl) ml_X7_64 mv_X2_know rfl (by decide) (by decide) kno (by decide) rfl rfl (Nat.le_of_ble_eq_true rfl) (fun τ9 h9 => ?_)
  refine x_iconst (E_X7_tell_0 6 rfl) ?_
  refine x_istore_n (E_X7_tell_0 7 rfl) rfl ?_
  have mem := fun x hx => h9.mem (x := x) (by rw [hL8.2.1.1]; omega) hx
  have hb := h9.1
  obtain ⟨k1, k2, k3, k4, k5⟩ := h9
  rw [hL8.2.1.1, hL8.1.1, hL8.1.2.1, hL8.1.2.2.1, low 10 (by decide)] at mem
  rw [Int.toNat_natCast] at mem
  rw [hL8.2.1.1] at hb
  have low9 : ∀ k, k ≤ 44 → k ≠ 7 → k ≠ 16 → τ9 k = σ k := fun k a b c => (k4 k (by simp; omega)).trans (low k a)
  have hL9 : LD dt hd n nl τ9 := by
    have hcd : cdq τ9 = cdq σ := by
      unfold cdq
      rw [low9 21 (by decide) (by decide) (by decide), low9 22 (by decide) (by decide) (by decide), low9 23 (by decide) (by decide) (by decide), low9 24 (by decide) (by decide) (by decide), low9 25 (by decide) (by decide) (by decide), low9 26 (by decide) (by decide) (by decide), low9 27 (by decide) (by decide) (by decide), low9 28 (by decide) (by decide) (by decide)]
    have hvl : vlq τ9 = vlq σ := by
      unfold vlq
      rw [low9 30 (by decide) (by decide) (by decide), low9 31 (by decide) (by decide) (by decide), low9 32 (by decide) (by decide) (by decide), low9 33 (by decide) (by decide) (by decide), low9 34 (by decide) (by decide) (by decide), low9 35 (by decide) (by decide) (by decide), low9 36 (by decide) (by decide) (by decide), low9 37 (by decide) (by decide) (by decide)]
    have h79 : τ9 7 9 = σ 7 9 := (k5 9 (by decide)).trans (congrFun (low 7 (by decide)) 9)
    have hL' := hL
    unfold LD TmOk at hL' ⊢
    rw [h79, hcd, hvl, low9 8 (by decide) (by decide) (by decide), low9 9 (by decide) (by decide) (by decide), low9 11 (by decide) (by decide) (by decide), low9 12 (by decide) (by decide) (by decide), low9 13 (by decide) (by decide) (by decide), low9 14 (by decide) (by decide) (by decide), low9 3 (by decide) (by decide) (by decide), low9 1 (by decide) (by decide) (by decide), low9 17 (by decide) (by decide) (by decide), low9 18 (by decide) (by decide) (by decide), low9 19 (by decide) (by decide) (by decide), low9 38 (by decide) (by decide) (by decide), low9 40 (by decide) (by decide) (by decide)]
    exact hL'
  have z0 : SC 58 n nl τ9 = fun _ _ => 0 := by
    rw [show SC 58 n nl τ9 = SC 58 n nl τ8 from SC58_fr (fun k a b => k4 k (by simp; omega))]
    unfold SC
    rw [c3]
    exact StG_z (fun w a b => (c1 w a b).1) (fun w a b => (c1 w a b).2) (fun w a b => (c2 w a b).1) (fun w a b => (c2 w a b).2.1)
  have on9 : τ9 70 = τ8 70 := k4 70 (by decide)
  refine loop τ9 (Or.inr trivial) (Fr.trans c4 k4 (by decide) (by decide)) (fun j h => (congrFun (k4 58 (by decide)) j).trans (c5 j h)) (fun j h => (congrFun (low9 17 (by decide) (by decide) (by decide)) j)) (fun j h => (k5 j h).trans (congrFun (low 7 (by decide)) j)) mem (by omega) (srtL (dt 1) (fun _ => true) n) 0 none (fun _ _ => 0) τ9 (τ9 70) rfl srtL_nodup (by omega) (by rw [srtL_len]; omega) (fun _ _ => rfl) ?_ (YOk.zero (fun x a b => (hck x a b).1)) ⟨z0, rfl, hL9, Fr.rf, Fo.rf, Fo.rf⟩ (fun x a b => ?_)
  · congr 1
    unfold bookS
    rw [srtL_filter, srtL_filter]
    exact srtL_cong (fun i _ _ => ⟨rfl, by simp⟩)
  · rw [on9, (c2 x a b).2.2, onS_0 (fun w h => absurd (show (0 : Int) = 1 from h) (by decide))]

