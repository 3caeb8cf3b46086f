/-! plan: the class -/
variable {l : Launch} {G : GC} {σ τ : Nat → Int → Int}

theorem sh_all : ∀ k : Nat, k < 13 → ((Int32.ofInt (k : Nat)).toUInt32 &&& Int32.toUInt32 31) = UInt32.ofNat k := by decide
theorem bUsh_neg {x : Int} {k : Nat} (hx : rgi x) (h0 : x < 0) (hk : k ≤ 12) : bUsh x (k : Nat) ≠ 0 := by
  intro h
  unfold bUsh at h
  rw [sh_all k (by omega)] at h
  have h1 : ((Int32.ofInt x).toUInt32 >>> UInt32.ofNat k).toInt32 = 0 := Int32.toInt_inj.mp (h.trans (by decide))
  have h2 := congrArg Int32.toUInt32 h1
  rw [UInt32.toUInt32_toInt32] at h2
  have h3 := congrArg UInt32.toNat h2
  rw [UInt32.toNat_shiftRight] at h3
  have e1 : (Int32.ofInt x).toUInt32.toNat = (x % 4294967296).toNat := b_bvn x
  have e2 : (UInt32.ofNat k).toNat % 32 = k := (by decide : ∀ k : Nat, k < 13 → (UInt32.ofNat k).toNat % 32 = k) k (by omega)
  have e3 : (Int32.toUInt32 0).toNat = 0 := by decide
  rw [e1, e2, e3, Nat.shiftRight_eq_div_pow] at h3
  have p : 2 ^ k ≤ 4096 := Nat.pow_le_pow_right (n := 2) (by decide) hk
  have p0 : 0 < 2 ^ k := Nat.pow_pos (by decide)
  have q := (Nat.div_eq_zero_iff).mp h3
  omega
theorem bUsh_0 {x : Int} {k : Nat} (hx : rgi x) (hk : k ≤ 12) : bUsh x (k : Nat) = 0 ↔ (0 ≤ x ∧ x < 2 ^ k) := by
  by_cases n : x < 0
  · exact ⟨fun h => absurd h (bUsh_neg hx n hk), fun h => by omega⟩
  · obtain ⟨a, rfl⟩ : ∃ a : Nat, x = a := ⟨x.toNat, by omega⟩
    rw [bUsh_n (by omega) (by omega)]
    have p0 : 0 < 2 ^ k := Nat.pow_pos (by decide)
    have e : (2 : Int) ^ k = ((2 ^ k : Nat) : Int) := by push_cast; rfl
    rw [e]
    constructor
    · intro h
      have h : a / 2 ^ k = 0 := by omega
      have q := (Nat.div_eq_zero_iff).mp h
      omega
    · intro h
      have : a / 2 ^ k = 0 := Nat.div_eq_of_lt (by omega)
      omega
theorem bUsh_rg {x y : Int} : rgi (bUsh x y) := ⟨Int32.le_toInt _, Int32.toInt_lt _⟩
theorem cqS_hi {set : Int} {nl : Nat} (h : 0 ≤ set ∧ set < 2 ^ nl) : ∀ {n : Nat}, nl ≤ n → cqS set n = cqS set nl
  | 0, hn => by rw [show nl = 0 by omega]
  | n + 1, hn => by
    by_cases e : nl = n + 1
    · rw [e]
    · have m : (2 : Int) ^ nl ≤ 2 ^ n := by
        have := Nat.pow_le_pow_right (n := 2) (by decide) (show nl ≤ n by omega)
        exact_mod_cast this
      rw [cqS_s0 (by rw [bq_low ⟨h.1, by omega⟩]; decide)]
      exact cqS_hi h (by omega)
theorem cqS_le {set : Int} : ∀ {n : Nat}, cqS set n ≤ n
  | 0 => Nat.le_refl _
  | n + 1 => by
    have := cqS_le (set := set) (n := n)
    show cqS set n + (if set / 2 ^ n % 2 = 1 then 1 else 0) ≤ n + 1
    split <;> omega
theorem p12 {nl : Nat} (h : nl ≤ 12) : (1 : Int) ≤ 2 ^ nl ∧ (2 : Int) ^ nl ≤ 4096 := (by decide : ∀ n : Nat, n ≤ 12 → (1 : Int) ≤ 2 ^ n ∧ (2 : Int) ^ n ≤ 4096) nl h
/-- the answer of plan where it is asked well; P the least price -/
def plZ (P set i : Int) : Int := if ¬ P < 1152921504606846976 then -1003 else if i = -1 then P / 1679616 else if set / 2 ^ i.toNat % 2 = 1 then P / ofF (cqS set i.toNat : Nat) % 6 else -1
theorem ful_int {c : Nat} : ((2 ^ c - 1 : Nat) : Int) = 2 ^ c - 1 := by
  have p0 : 0 < 2 ^ c := Nat.pow_pos (by decide)
  have e : (2 : Int) ^ c = ((2 ^ c : Nat) : Int) := by push_cast; rfl
  rw [e]; omega
theorem RR.plth (hR : RR σ) {nl : Nat} (hnl : σ 1 5 = (nl : Nat)) : ∀ x, 0 ≤ x → x < ((nl : Nat) : Int) → 0 ≤ (thS (σ 3) (Yq σ (σ 0 0) (σ 0 0))) x ∧ (thS (σ 3) (Yq σ (σ 0 0) (σ 0 0))) x ≤ 200 := fun x a b => hR.th ⟨a, by omega⟩
theorem RR.plso (hR : RR σ) {nl : Nat} (hnl : σ 1 5 = (nl : Nat)) : ∀ x, 0 ≤ x → x < ((nl : Nat) : Int) → (0 ≤ σ 2 x ∧ σ 2 x ≤ 3) ∧ (0 ≤ σ 5 x ∧ σ 5 x ≤ 5) := fun x a b => by
  have := hR.2.1.2.2.2 x a (by omega)
  exact ⟨this.1, this.2.2.2.1⟩
theorem RR.plrg (hR : RR σ) {nl : Nat} (hnl : σ 1 5 = (nl : Nat)) {set : Int} (hc : cqS set nl ≤ 8) : (0 ≤ btF (σ 5) (σ 2) (σ 105) (σ 106) (thS (σ 3) (Yq σ (σ 0 0) (σ 0 0))) set nl 6 ((2 ^ cqS set nl - 1 : Nat) : Int) ∧ btF (σ 5) (σ 2) (σ 105) (σ 106) (thS (σ 3) (Yq σ (σ 0 0) (σ 0 0))) set nl 6 ((2 ^ cqS set nl - 1 : Nat) : Int) ≤ 1152921504606846976) ∧ (btF (σ 5) (σ 2) (σ 105) (σ 106) (thS (σ 3) (Yq σ (σ 0 0) (σ 0 0))) set nl 6 ((2 ^ cqS set nl - 1 : Nat) : Int) < 1152921504606846976 → btF (σ 5) (σ 2) (σ 105) (σ 106) (thS (σ 3) (Yq σ (σ 0 0) (σ 0 0))) set nl 6 ((2 ^ cqS set nl - 1 : Nat) : Int) ≤ 3200000000) := by
  have p0 : 0 < 2 ^ cqS set nl := Nat.pow_pos (by decide)
  have p8 : 2 ^ cqS set nl ≤ 256 := Nat.pow_le_pow_right (n := 2) (by decide) hc
  exact ⟨btF_rg hc (hR.plth hnl) (by decide) (by omega), fun h => ((plan_eq (pm := σ 168) (g1 := fun _ => 0) (g2 := fun _ => 0) hc (hR.plth hnl) (fun x a b => (hR.plso hnl x a b).1) hR.2.2.2.2.2.2.2.2.2.2.1 (fun _ _ => rfl) (fun _ _ => rfl)).2 h).2⟩
theorem Sc_fr {σ τ : Nat → Int → Int} (h : Fr [107, 108, 109, 110, 111, 112, 113] σ τ) : Sd σ τ := ⟨⟨fun k hk => h k ((by decide : ∀ k ∈ PCa, k ∉ [107, 108, 109, 110, 111, 112, 113]) k hk), fun q hq => congrFun (h q.1 ((by decide : ∀ q ∈ PCo, q.1 ∉ [107, 108, 109, 110, 111, 112, 113]) q hq)) q.2⟩, congrFun (h 17 (by decide)) 7, h 40 (by decide)⟩
theorem plZ_rg {P set i : Int} (h : 0 ≤ P) (h2 : P < 1152921504606846976 → P ≤ 3200000000) : rgi (plZ P set i) := by
  unfold plZ
  repeat' split
  all_goals omega

set_option maxHeartbeats 2000000 in
theorem c_X10_plan {set i : Int} {nl : Nat} (hnl : σ 1 5 = (nl : Nat)) (hR : RR σ) (q1 : rgi set) (q2 : rgi i) : CI l G M_X10_plan 6 [vr 0, vi set, vi i] σ (fun z υ => (¬ ((0 ≤ set ∧ set < 2 ^ nl) ∧ (i = -1 ∨ (0 ≤ i ∧ i < ((nl : Nat) : Int)))) ∧ z = -1001 ∧ υ = σ) ∨ (((0 ≤ set ∧ set < 2 ^ nl) ∧ (i = -1 ∨ (0 ≤ i ∧ i < ((nl : Nat) : Int)))) ∧ ¬ (cqS set nl ≤ 8) ∧ z = -1002 ∧ υ = σ) ∨ (((0 ≤ set ∧ set < 2 ^ nl) ∧ (i = -1 ∨ (0 ≤ i ∧ i < ((nl : Nat) : Int)))) ∧ (cqS set nl ≤ 8) ∧ z = plZ (btF (σ 5) (σ 2) (σ 105) (σ 106) (thS (σ 3) (Yq σ (σ 0 0) (σ 0 0))) set nl 6 ((2 ^ cqS set nl - 1 : Nat) : Int)) set i ∧ Sc σ υ ∧ RR υ)) := by
  have now := hR.now
  have nl12 := hR.lots
  have us := bUsh_0 (x := set) (k := nl) q1 (by omega)
  have ur := @bUsh_rg set ((nl : Nat) : Int)
  have pn := p12 (nl := nl) (by omega)
  refine Ct.of rfl (Nat.le_of_ble_eq_true rfl) ?_
  refine x_iload_n (E_X10_plan_0 0 rfl) rfl ?_
  refine x_aload_n (E_X10_plan_0 1 rfl) rfl ?_
  refine x_getR (E_X10_plan_0 2 rfl) fl_X10_16 rfl (by decide) rfl ?_
  refine x_getIe (v := σ 1 5) (E_X10_plan_0 3 rfl) fl_X10_114 rfl (by decide) rfl ?_
  rw [hnl]
  refine x_iushr (E_X10_plan_0 4 rfl) ?_
  refine x_if_ne (E_X10_plan_0 5 rfl) ur (fun c1 => ?_) (fun c1 => ?_)
  · refine x_sipush (z := (-1001)) (E_X10_plan_0 14 rfl) (by decide) ?_
    refine z_iret (E_X10_plan_0 15 rfl) trivial ?_
    exact Or.inl ⟨fun q => c1 (us.mpr q.1), rfl, rfl⟩
  · refine x_iload_n (E_X10_plan_0 6 rfl) rfl ?_
    refine x_iconst (E_X10_plan_0 7 rfl) ?_
    refine x_icmp_eq (E_X10_plan_0 8 rfl) (by omega) (by decide) (fun c2 => ?_) (fun c2 => ?_)
    · refine x_iload_n (E_X10_plan_0 16 rfl) rfl ?_
      have hs := us.mp (by omega)
      have hh := cqS_hi hs (show nl ≤ 12 by omega)
      refine z_callSi (E_X10_plan_0 17 rfl) ml_X10_360 ms_J6_bitCount_0f7a4 (c_J6_bitCount (by omega)) (by decide) rfl rfl (Nat.le_of_ble_eq_true rfl) (fun z9 τ9 h9 => ?_)
      obtain ⟨rfl, rfl⟩ := h9
      rw [hh]
      have c12 : cqS set nl ≤ nl := cqS_le
      refine x_bipush (z := 8) (E_X10_plan_0 18 rfl) (by decide) ?_
      refine x_icmp_le (E_X10_plan_0 19 rfl) (by omega) (by decide) (fun c3 => ?_) (fun c3 => ?_)
      · refine x_aload_n (E_X10_plan_0 22 rfl) rfl ?_
        refine x_getR (E_X10_plan_0 23 rfl) fl_X10_46 rfl (by decide) rfl ?_
        refine x_aload_n (E_X10_plan_0 24 rfl) rfl ?_
        refine x_getIe (v := σ 0 0) (E_X10_plan_0 25 rfl) fl_X10_7 rfl (by decide) rfl ?_
        refine x_aload_n (E_X10_plan_0 26 rfl) rfl ?_
        refine x_getIe (v := σ 0 0) (E_X10_plan_0 27 rfl) fl_X10_7 rfl (by decide) rfl ?_
        refine z_callVv (E_X10_plan_0 28 rfl) ml_X10_174 mv_X7_tell rfl (by decide) (by decide) (tC hR (by omega) (by omega)) (by decide) rfl rfl (Nat.le_of_ble_eq_true rfl) (fun τ9 h9 => ?_)
        have hc : cqS set nl ≤ 8 := by omega
        have F9 := h9.2.2.2.1
        have hT : ∀ υ, Fr [107, 108, 109, 110, 111, 112, 113] τ9 υ → ∀ x, 0 ≤ x → x < ((nl : Nat) : Int) → CI l G M_X7_thereOf 0 [vr 45, vi x] υ (IP ((thS (σ 3) (Yq σ (σ 0 0) (σ 0 0))) x) υ) := fun υ hF x x0 x1 => by
          have e := c_X7_thereOf_45 (l := l) (G := G) (σ := υ) (x := x) (n := nq σ) (nl := σ 1 5) ⟨x0, by omega⟩ (h9.2.2.1.low (fun k hk => hF k (by simp only [List.mem_cons, List.not_mem_nil, or_false, not_or]; omega))) hR.dok
          rw [SC45_fr (fun k a b => hF k (by simp only [List.mem_cons, List.not_mem_nil, or_false, not_or]; omega)), h9.1] at e
          exact e
        have n5 : τ9 1 5 = (nl : Nat) := by rw [F9 1 (by decide)]; exact hnl
        have rg9 := hR.plrg hnl hc
        refine x_aload_n (E_X10_plan_0 29 rfl) rfl ?_
        refine x_getR (E_X10_plan_0 30 rfl) fl_X10_96 rfl (by decide) rfl ?_
        refine x_iload_n (E_X10_plan_0 31 rfl) rfl ?_
        refine x_aload_n (E_X10_plan_0 32 rfl) rfl ?_
        refine x_getR (E_X10_plan_0 33 rfl) fl_X10_16 rfl (by decide) rfl ?_
        refine x_aload_n (E_X10_plan_0 34 rfl) rfl ?_
        refine x_getR (E_X10_plan_0 35 rfl) fl_X10_46 rfl (by decide) rfl ?_
        refine x_aload_n (E_X10_plan_0 36 rfl) rfl ?_
        refine x_getR (E_X10_plan_0 37 rfl) fl_X10_86 rfl (by decide) rfl ?_
        refine x_aload_n (E_X10_plan_0 38 rfl) rfl ?_
        refine x_getR (E_X10_plan_0 39 rfl) fl_X10_90 rfl (by decide) rfl ?_
        refine z_callVv (E_X10_plan_0 40 rfl) ml_X10_365 mv_X4_lay rfl (by decide) (by decide) (c_X4_lay (th := (thS (σ 3) (Yq σ (σ 0 0) (σ 0 0)))) (set := set) (nl := nl) (by omega) (by omega) hc hT (hR.plth hnl) n5 (by rw [F9 2 (by decide)]; exact fun x a b => (hR.plso hnl x a b).1) (by rw [F9 5 (by decide)]; exact fun x a b => (hR.plso hnl x a b).2) (by rw [F9 105 (by decide)]; exact fun f a b => hR.2.2.1.2 f a (by omega))) (by decide) rfl rfl (Nat.le_of_ble_eq_true rfl) (fun τ8 h8 => ?_)
        obtain ⟨hch, hbt, hF8, hO8⟩ := h8
        have sd8 := Sc_fr hF8
        have sc8 : Sc σ τ8 := h9.sc.trans sd8.1
        have rr8 : RR τ8 := sd8.rr (h9.rr hR)
        have bt8 : τ8 113 (2 ^ cqS set nl - 1) = btF (σ 5) (σ 2) (σ 105) (σ 106) (thS (σ 3) (Yq σ (σ 0 0) (σ 0 0))) set nl 6 ((2 ^ cqS set nl - 1 : Nat) : Int) := by
          have := hbt (2 ^ cqS set nl - 1) (by rw [ful_int]; omega)
          rw [F9 5 (by decide), F9 2 (by decide), F9 105 (by decide), F9 106 (by decide)] at this
          rw [← this, ful_int]
        refine x_aload_n (E_X10_plan_0 41 rfl) rfl ?_
        refine x_getR (E_X10_plan_0 42 rfl) fl_X10_96 rfl (by decide) rfl ?_
        refine z_callVi (E_X10_plan_0 43 rfl) ml_X10_369 mv_X4_isFound rfl (by decide) (by decide) (c_X4_isFound hc hch.1 (by rw [bt8]; exact rg9.1)) (by decide) rfl rfl (Nat.le_of_ble_eq_true rfl) (fun z9 τ9 h9 => ?_)
        obtain ⟨rfl, ⟨rfl, c4⟩ | ⟨rfl, c4⟩⟩ := h9
        · refine x_if_ne (E_X10_plan_0 44 rfl) (by decide) (fun _ => ?_) (fun c9 => absurd c9 (by decide))
          refine x_iload_n (E_X10_plan_0 47 rfl) rfl ?_
          refine x_iconst (E_X10_plan_0 48 rfl) ?_
          refine x_icmp_ne (E_X10_plan_0 49 rfl) (by omega) (by decide) (fun c5 => ?_) (fun c5 => ?_)
          · have i9 : 0 ≤ i ∧ i < ((nl : Nat) : Int) := by omega
            have cp := hch.2 i.toNat (by omega)
            rw [show ((i.toNat : Nat) : Int) = i by omega] at cp
            have pl9 : τ8 108 i = -1 ∨ (0 ≤ τ8 108 i ∧ τ8 108 i < 8) := by
              by_cases b : set / 2 ^ i.toNat % 2 = 1
              · have m : cqS set (i.toNat + 1) ≤ cqS set nl := cqS_mono (by omega)
                rw [cqS_s1 b] at m
                have := (cp.1 b).1
                exact Or.inr (by omega)
              · exact Or.inl (cp.2 b)
            refine x_aload_n (E_X10_plan_0 54 rfl) rfl ?_
            refine x_getR (E_X10_plan_0 55 rfl) fl_X10_96 rfl (by decide) rfl ?_
            refine x_iload_n (E_X10_plan_0 56 rfl) rfl ?_
            refine z_callVi (E_X10_plan_0 57 rfl) ml_X10_376 mv_X4_floorOf rfl (by decide) (by decide) (c_X4_floorOf (by omega) pl9 hc hch.1 (by rw [bt8]; omega)) (by decide) rfl rfl (Nat.le_of_ble_eq_true rfl) (fun z7 τ7 h7 => ?_)
            obtain ⟨e7, rfl⟩ := h7
            refine z_iret (E_X10_plan_0 58 rfl) trivial ?_
            refine Or.inr (Or.inr ⟨⟨hs, by omega⟩, hc, ?_, sc8, rr8⟩)
            have pz : plZ (btF (σ 5) (σ 2) (σ 105) (σ 106) (thS (σ 3) (Yq σ (σ 0 0) (σ 0 0))) set nl 6 ((2 ^ cqS set nl - 1 : Nat) : Int)) set i = if set / 2 ^ i.toNat % 2 = 1 then btF (σ 5) (σ 2) (σ 105) (σ 106) (thS (σ 3) (Yq σ (σ 0 0) (σ 0 0))) set nl 6 ((2 ^ cqS set nl - 1 : Nat) : Int) / ofF (cqS set i.toNat : Nat) % 6 else -1 := by
              unfold plZ
              rw [if_neg (by omega), if_neg (by omega)]
            rw [e7, pz]
            by_cases b : set / 2 ^ i.toNat % 2 = 1
            · rw [if_pos b, (cp.1 b).1, if_neg (by omega), bt8]
            · rw [if_neg b, cp.2 b, if_pos rfl]
          · refine x_aload_n (E_X10_plan_0 50 rfl) rfl ?_
            refine x_getR (E_X10_plan_0 51 rfl) fl_X10_96 rfl (by decide) rfl ?_
            refine z_callVi (E_X10_plan_0 52 rfl) ml_X10_373 mv_X4_moved rfl (by decide) (by decide) (c_X4_moved hc hch.1 (by rw [bt8]; omega)) (by decide) rfl rfl (Nat.le_of_ble_eq_true rfl) (fun z7 τ7 h7 => ?_)
            obtain ⟨e7, rfl⟩ := h7
            refine x_goto (E_X10_plan_0 53 rfl) ?_
            refine z_iret (E_X10_plan_0 58 rfl) trivial ?_
            refine Or.inr (Or.inr ⟨⟨hs, by omega⟩, hc, ?_, sc8, rr8⟩)
            rw [e7]
            unfold plZ
            rw [if_neg (by omega), if_pos (by omega), bt8]
        · refine x_if_ne (E_X10_plan_0 44 rfl) (by decide) (fun c9 => absurd c9 (by decide)) (fun _ => ?_)
          refine x_sipush (z := (-1003)) (E_X10_plan_0 45 rfl) (by decide) ?_
          refine z_iret (E_X10_plan_0 46 rfl) trivial ?_
          refine Or.inr (Or.inr ⟨⟨hs, by omega⟩, hc, ?_, sc8, rr8⟩)
          exact (if_pos (by omega)).symm
      · refine x_sipush (z := (-1002)) (E_X10_plan_0 20 rfl) (by decide) ?_
        refine z_iret (E_X10_plan_0 21 rfl) trivial ?_
        exact Or.inr (Or.inl ⟨⟨us.mp (by omega), by omega⟩, by omega, rfl, rfl⟩)
    · refine x_aload_n (E_X10_plan_0 9 rfl) rfl ?_
      refine x_getR (E_X10_plan_0 10 rfl) fl_X10_16 rfl (by decide) rfl ?_
      refine x_iload_n (E_X10_plan_0 11 rfl) rfl ?_
      refine z_callVi (E_X10_plan_0 12 rfl) ml_X10_121 mv_X3_has rfl (by decide) (by decide) (c_X3_has q2 nl12) (by decide) rfl rfl (Nat.le_of_ble_eq_true rfl) (fun z9 τ9 h9 => ?_)
      obtain ⟨rfl, ⟨rfl, c6⟩ | ⟨rfl, c6⟩⟩ := h9
      · refine x_if_ne (E_X10_plan_0 13 rfl) (by decide) (fun _ => ?_) (fun c9 => absurd c9 (by decide))
        refine x_iload_n (E_X10_plan_0 16 rfl) rfl ?_
        have hs := us.mp (by omega)
        have hh := cqS_hi hs (show nl ≤ 12 by omega)
        refine z_callSi (E_X10_plan_0 17 rfl) ml_X10_360 ms_J6_bitCount_0f7a4 (c_J6_bitCount (by omega)) (by decide) rfl rfl (Nat.le_of_ble_eq_true rfl) (fun z9 τ9 h9 => ?_)
        obtain ⟨rfl, rfl⟩ := h9
        rw [hh]
        have c12 : cqS set nl ≤ nl := cqS_le
        refine x_bipush (z := 8) (E_X10_plan_0 18 rfl) (by decide) ?_
        refine x_icmp_le (E_X10_plan_0 19 rfl) (by omega) (by decide) (fun c7 => ?_) (fun c7 => ?_)
        · refine x_aload_n (E_X10_plan_0 22 rfl) rfl ?_
          refine x_getR (E_X10_plan_0 23 rfl) fl_X10_46 rfl (by decide) rfl ?_
          refine x_aload_n (E_X10_plan_0 24 rfl) rfl ?_
          refine x_getIe (v := σ 0 0) (E_X10_plan_0 25 rfl) fl_X10_7 rfl (by decide) rfl ?_
          refine x_aload_n (E_X10_plan_0 26 rfl) rfl ?_
          refine x_getIe (v := σ 0 0) (E_X10_plan_0 27 rfl) fl_X10_7 rfl (by decide) rfl ?_
          refine z_callVv (E_X10_plan_0 28 rfl) ml_X10_174 mv_X7_tell rfl (by decide) (by decide) (tC hR (by omega) (by omega)) (by decide) rfl rfl (Nat.le_of_ble_eq_true rfl) (fun τ9 h9 => ?_)
          have hc : cqS set nl ≤ 8 := by omega
          have F9 := h9.2.2.2.1
          have hT : ∀ υ, Fr [107, 108, 109, 110, 111, 112, 113] τ9 υ → ∀ x, 0 ≤ x → x < ((nl : Nat) : Int) → CI l G M_X7_thereOf 0 [vr 45, vi x] υ (IP ((thS (σ 3) (Yq σ (σ 0 0) (σ 0 0))) x) υ) := fun υ hF x x0 x1 => by
            have e := c_X7_thereOf_45 (l := l) (G := G) (σ := υ) (x := x) (n := nq σ) (nl := σ 1 5) ⟨x0, by omega⟩ (h9.2.2.1.low (fun k hk => hF k (by simp only [List.mem_cons, List.not_mem_nil, or_false, not_or]; omega))) hR.dok
            rw [SC45_fr (fun k a b => hF k (by simp only [List.mem_cons, List.not_mem_nil, or_false, not_or]; omega)), h9.1] at e
            exact e
          have n5 : τ9 1 5 = (nl : Nat) := by rw [F9 1 (by decide)]; exact hnl
          have rg9 := hR.plrg hnl hc
          refine x_aload_n (E_X10_plan_0 29 rfl) rfl ?_
          refine x_getR (E_X10_plan_0 30 rfl) fl_X10_96 rfl (by decide) rfl ?_
          refine x_iload_n (E_X10_plan_0 31 rfl) rfl ?_
          refine x_aload_n (E_X10_plan_0 32 rfl) rfl ?_
          refine x_getR (E_X10_plan_0 33 rfl) fl_X10_16 rfl (by decide) rfl ?_
          refine x_aload_n (E_X10_plan_0 34 rfl) rfl ?_
          refine x_getR (E_X10_plan_0 35 rfl) fl_X10_46 rfl (by decide) rfl ?_
          refine x_aload_n (E_X10_plan_0 36 rfl) rfl ?_
          refine x_getR (E_X10_plan_0 37 rfl) fl_X10_86 rfl (by decide) rfl ?_
          refine x_aload_n (E_X10_plan_0 38 rfl) rfl ?_
          refine x_getR (E_X10_plan_0 39 rfl) fl_X10_90 rfl (by decide) rfl ?_
          refine z_callVv (E_X10_plan_0 40 rfl) ml_X10_365 mv_X4_lay rfl (by decide) (by decide) (c_X4_lay (th := (thS (σ 3) (Yq σ (σ 0 0) (σ 0 0)))) (set := set) (nl := nl) (by omega) (by omega) hc hT (hR.plth hnl) n5 (by rw [F9 2 (by decide)]; exact fun x a b => (hR.plso hnl x a b).1) (by rw [F9 5 (by decide)]; exact fun x a b => (hR.plso hnl x a b).2) (by rw [F9 105 (by decide)]; exact fun f a b => hR.2.2.1.2 f a (by omega))) (by decide) rfl rfl (Nat.le_of_ble_eq_true rfl) (fun τ8 h8 => ?_)
          obtain ⟨hch, hbt, hF8, hO8⟩ := h8
          have sd8 := Sc_fr hF8
          have sc8 : Sc σ τ8 := h9.sc.trans sd8.1
          have rr8 : RR τ8 := sd8.rr (h9.rr hR)
          have bt8 : τ8 113 (2 ^ cqS set nl - 1) = btF (σ 5) (σ 2) (σ 105) (σ 106) (thS (σ 3) (Yq σ (σ 0 0) (σ 0 0))) set nl 6 ((2 ^ cqS set nl - 1 : Nat) : Int) := by
            have := hbt (2 ^ cqS set nl - 1) (by rw [ful_int]; omega)
            rw [F9 5 (by decide), F9 2 (by decide), F9 105 (by decide), F9 106 (by decide)] at this
            rw [← this, ful_int]
          refine x_aload_n (E_X10_plan_0 41 rfl) rfl ?_
          refine x_getR (E_X10_plan_0 42 rfl) fl_X10_96 rfl (by decide) rfl ?_
          refine z_callVi (E_X10_plan_0 43 rfl) ml_X10_369 mv_X4_isFound rfl (by decide) (by decide) (c_X4_isFound hc hch.1 (by rw [bt8]; exact rg9.1)) (by decide) rfl rfl (Nat.le_of_ble_eq_true rfl) (fun z9 τ9 h9 => ?_)
          obtain ⟨rfl, ⟨rfl, c8⟩ | ⟨rfl, c8⟩⟩ := h9
          · refine x_if_ne (E_X10_plan_0 44 rfl) (by decide) (fun _ => ?_) (fun c9 => absurd c9 (by decide))
            refine x_iload_n (E_X10_plan_0 47 rfl) rfl ?_
            refine x_iconst (E_X10_plan_0 48 rfl) ?_
            refine x_icmp_ne (E_X10_plan_0 49 rfl) (by omega) (by decide) (fun c9 => ?_) (fun c9 => ?_)
            · have i9 : 0 ≤ i ∧ i < ((nl : Nat) : Int) := by omega
              have cp := hch.2 i.toNat (by omega)
              rw [show ((i.toNat : Nat) : Int) = i by omega] at cp
              have pl9 : τ8 108 i = -1 ∨ (0 ≤ τ8 108 i ∧ τ8 108 i < 8) := by
                by_cases b : set / 2 ^ i.toNat % 2 = 1
                · have m : cqS set (i.toNat + 1) ≤ cqS set nl := cqS_mono (by omega)
                  rw [cqS_s1 b] at m
                  have := (cp.1 b).1
                  exact Or.inr (by omega)
                · exact Or.inl (cp.2 b)
              refine x_aload_n (E_X10_plan_0 54 rfl) rfl ?_
              refine x_getR (E_X10_plan_0 55 rfl) fl_X10_96 rfl (by decide) rfl ?_
              refine x_iload_n (E_X10_plan_0 56 rfl) rfl ?_
              refine z_callVi (E_X10_plan_0 57 rfl) ml_X10_376 mv_X4_floorOf rfl (by decide) (by decide) (c_X4_floorOf (by omega) pl9 hc hch.1 (by rw [bt8]; omega)) (by decide) rfl rfl (Nat.le_of_ble_eq_true rfl) (fun z7 τ7 h7 => ?_)
              obtain ⟨e7, rfl⟩ := h7
              refine z_iret (E_X10_plan_0 58 rfl) trivial ?_
              refine Or.inr (Or.inr ⟨⟨hs, by omega⟩, hc, ?_, sc8, rr8⟩)
              have pz : plZ (btF (σ 5) (σ 2) (σ 105) (σ 106) (thS (σ 3) (Yq σ (σ 0 0) (σ 0 0))) set nl 6 ((2 ^ cqS set nl - 1 : Nat) : Int)) set i = if set / 2 ^ i.toNat % 2 = 1 then btF (σ 5) (σ 2) (σ 105) (σ 106) (thS (σ 3) (Yq σ (σ 0 0) (σ 0 0))) set nl 6 ((2 ^ cqS set nl - 1 : Nat) : Int) / ofF (cqS set i.toNat : Nat) % 6 else -1 := by
                unfold plZ
                rw [if_neg (by omega), if_neg (by omega)]
              rw [e7, pz]
              by_cases b : set / 2 ^ i.toNat % 2 = 1
              · rw [if_pos b, (cp.1 b).1, if_neg (by omega), bt8]
              · rw [if_neg b, cp.2 b, if_pos rfl]
            · refine x_aload_n (E_X10_plan_0 50 rfl) rfl ?_
              refine x_getR (E_X10_plan_0 51 rfl) fl_X10_96 rfl (by decide) rfl ?_
              refine z_callVi (E_X10_plan_0 52 rfl) ml_X10_373 mv_X4_moved rfl (by decide) (by decide) (c_X4_moved hc hch.1 (by rw [bt8]; omega)) (by decide) rfl rfl (Nat.le_of_ble_eq_true rfl) (fun z7 τ7 h7 => ?_)
              obtain ⟨e7, rfl⟩ := h7
              refine x_goto (E_X10_plan_0 53 rfl) ?_
              refine z_iret (E_X10_plan_0 58 rfl) trivial ?_
              refine Or.inr (Or.inr ⟨⟨hs, by omega⟩, hc, ?_, sc8, rr8⟩)
              rw [e7]
              unfold plZ
              rw [if_neg (by omega), if_pos (by omega), bt8]
          · refine x_if_ne (E_X10_plan_0 44 rfl) (by decide) (fun c9 => absurd c9 (by decide)) (fun _ => ?_)
            refine x_sipush (z := (-1003)) (E_X10_plan_0 45 rfl) (by decide) ?_
            refine z_iret (E_X10_plan_0 46 rfl) trivial ?_
            refine Or.inr (Or.inr ⟨⟨hs, by omega⟩, hc, ?_, sc8, rr8⟩)
            exact (if_pos (by omega)).symm
        · refine x_sipush (z := (-1002)) (E_X10_plan_0 20 rfl) (by decide) ?_
          refine z_iret (E_X10_plan_0 21 rfl) trivial ?_
          exact Or.inr (Or.inl ⟨⟨us.mp (by omega), by omega⟩, by omega, rfl, rfl⟩)
      · refine x_if_ne (E_X10_plan_0 13 rfl) (by decide) (fun c9 => absurd c9 (by decide)) (fun _ => ?_)
        refine x_sipush (z := (-1001)) (E_X10_plan_0 14 rfl) (by decide) ?_
        refine z_iret (E_X10_plan_0 15 rfl) trivial ?_
        exact Or.inl ⟨fun q => by omega, rfl, rfl⟩

