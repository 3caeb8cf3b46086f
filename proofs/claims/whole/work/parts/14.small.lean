/-! small helpers -/
/-- a boolean answer that says C; nothing changes -/
def BP (C : Prop) (σ : Nat → Int → Int) : Int → (Nat → Int → Int) → Prop := fun z τ => σ = τ ∧ ((z = 1 ∧ C) ∨ (z = 0 ∧ ¬ C))
def IP (e : Int) (σ : Nat → Int → Int) : Int → (Nat → Int → Int) → Prop := fun z τ => z = e ∧ σ = τ
theorem x_tswD {l : Launch} {G : GC} {M : MI} {R : Room} {pc nx tg : Nat} {L : List (Option AV)} {st : List AV} {S : WS} {ca sl : Nat} {Q : Option AV → WS → Prop} {dflt lo hi x : Int} {offs : Array Int} {len : Nat} (hd : dok M.2.1 (pc, .tableswitch dflt lo hi offs, len, nx, tg)) (hx : rgi x) (h : x < lo ∨ hi < x) {t : Nat} (ht : (pc : Int) + dflt = (t : Int)) (k : RunX l G M R t L st S ca sl Q) : RunX l G M R pc L (vi x :: st) S ca sl Q := by
  intro p e s m args below meth c H locs Z ls hc hn hks hr hi9 hlo hl
  exact lv_tableOut hc.1 hc.2.1 hd.1 (by rw [o32 hx]; exact h) ht (k p e s m args below meth c H locs Z ls hc hn hks hr hi9 hlo hl)
theorem if_p {α : Sort _} {c : Prop} [Decidable c] {a b x : α} (h : c) (e : a = x) : (if c then a else b) = x := (if_pos h).trans e
theorem if_n {α : Sort _} {c : Prop} [Decidable c] {a b x : α} (h : ¬ c) (e : b = x) : (if c then a else b) = x := (if_neg h).trans e
theorem Ct.mono {l : Launch} {G : GC} {M : MI} {d mc ms : Nat} {As : List AV} {S : WS} {Q Q' : Option AV → WS → Prop} (h : Ct l G M d mc ms As S Q) (hQ : ∀ r S', Q r S' → Q' r S') : Ct l G M d mc ms As S Q' := by
  intro p e ha hc hk s m args below hf hap hP hK
  obtain ⟨k, o, h1, h2, h3, ⟨r, S', e1, e2, e3⟩, h4⟩ := h p e ha hc hk s m args below hf hap hP hK
  exact ⟨k, o, h1, h2, h3, ⟨r, S', e1, hQ _ _ e2, e3⟩, h4⟩
theorem CI_mono {l : Launch} {G : GC} {M : MI} {d : Nat} {As : List AV} {σ : Nat → Int → Int} {P P' : Int → (Nat → Int → Int) → Prop} (h : CI l G M d As σ P) (hP : ∀ z τ, P z τ → P' z τ) : CI l G M d As σ P' := Ct.mono h (fun r S' q => by
  obtain ⟨z, τ, a, b, c⟩ := q
  exact ⟨z, τ, a, b, hP z τ c⟩)
theorem CV_mono {l : Launch} {G : GC} {M : MI} {d : Nat} {As : List AV} {σ : Nat → Int → Int} {P P' : (Nat → Int → Int) → Prop} (h : CV l G M d As σ P) (hP : ∀ τ, P τ → P' τ) : CV l G M d As σ P' := Ct.mono h (fun r S' q => by
  obtain ⟨τ, a, b, c⟩ := q
  exact ⟨τ, a, b, hP τ c⟩)
section XE
variable {l : Launch} {G : GC} {M : MI} {R : Room} {pc nx tg : Nat} {L : List (Option AV)} {st : List AV} {ca sl : Nat} {Q : Option AV → WS → Prop}
variable {n0 k idx ci N j n : Nat} {ρ : Nat → Int → Option Nat} {σ : Nat → Int → Int} {z i v : Int} {f : Int → Int} {fin : Bool}
theorem x_getIe (hd : dok M.2.1 (pc, .getfield idx, 3, nx, tg)) (hf : flq M.1.cls idx ci N j z true fin) (hs : shp k = (ci, N)) (hk : k < n0) (hv : σ k z = v) (kk : RunX l G M R nx L (vi v :: st) (n0, ρ, σ) ca sl Q) : RunX l G M R pc L (vr k :: st) (n0, ρ, σ) ca sl Q := by
  subst hv
  exact x_getI hd hf hs hk kk
theorem x_ialde (hd : dok M.2.1 (pc, .iaload, 1, nx, tg)) (hs : shp k = (12, n)) (hk : k < n0) (hix : 0 ≤ i ∧ i < n) (hf : σ k = f) (kk : RunX l G M R nx L (vi (f i) :: st) (n0, ρ, σ) ca sl Q) : RunX l G M R pc L (vi i :: vr k :: st) (n0, ρ, σ) ca sl Q := by
  subst hf
  exact x_iald hd hs hk hix kk
theorem x_zalde (hd : dok M.2.1 (pc, .baload, 1, nx, tg)) (hs : shp k = (13, n)) (hk : k < n0) (hix : 0 ≤ i ∧ i < n) (hf : σ k = f) (kk : RunX l G M R nx L (vi (f i) :: st) (n0, ρ, σ) ca sl Q) : RunX l G M R pc L (vi i :: vr k :: st) (n0, ρ, σ) ca sl Q := by
  subst hf
  exact x_zald hd hs hk hix kk
theorem x_lalde (hd : dok M.2.1 (pc, .laload, 1, nx, tg)) (hs : shp k = (14, n)) (hk : k < n0) (hix : 0 ≤ i ∧ i < n) (hf : σ k = f) (kk : RunX l G M R nx L (vl (f i) :: st) (n0, ρ, σ) ca sl Q) : RunX l G M R pc L (vi i :: vr k :: st) (n0, ρ, σ) ca sl Q := by
  subst hf
  exact x_lald hd hs hk hix kk
end XE
variable {l : Launch} {G : GC} {σ : Nat → Int → Int}

section XMath
variable {M : MI} {R : Room} {pc nx tg idx : Nat} {L : List (Option AV)} {st : List AV} {S : WS} {ca sl : Nat} {Q : Option AV → WS → Prop}
theorem x_mmax {x y : Int} (hd : dok M.2.1 (pc, .invokestatic idx, 3, nx, tg)) (hlk : Cond.methodLink M.1.cls idx M_J9_max_7cf53.1 ∈ tbG) (hx : rgi x) (hy : rgi y) (hR : 1 ≤ R.frames ∧ 21 ≤ R.locals ∧ ca ≤ R.cells ∧ sl ≤ R.slots ∧ catq st ≤ 8) (kk : RunX l G M R nx L (vi (max x y) :: st) S ca sl Q) : RunX l G M R pc L (vi y :: vi x :: st) S ca sl Q := by
  intro p e s m args below meth c H locs Z ls hc hn hks hr hi hlo hl
  obtain ⟨hd1, hd2, hd3⟩ := hd
  dsimp only at hd1 hd2 hd3
  subst hd2
  obtain ⟨⟨m1, m2, m3⟩, m4⟩ := ms_J9_max_7cf53
  have k1 := kk p e s m args below meth c H locs Z ls hc hn hks hr hi hlo hl
  refine va_mmax hc.1 hc.2.1 (hc.2.2.1.trans hl.1.symm) hc.2.2.2.1 (hc.2.2.2.2 _ hlk) (hc.2.2.2.2 _ m4) (hc.2.2.2.2 _ m2) (hc.2.2.2.2 _ m1) hR.1 (by rw [catq_sum]; omega) hR.2.2.1 hR.2.2.2.1 hd1 ?_
  have e : (if Int32.ofInt x < Int32.ofInt y then Int32.ofInt y else Int32.ofInt x) = Int32.ofInt (max x y) := by
    by_cases h : x < y
    · rw [if_pos ((o32_lt hx hy).mpr h), Int.max_eq_right (by omega)]
    · rw [if_neg (fun q => h ((o32_lt hx hy).mp q)), Int.max_eq_left (by omega)]
  rw [e]
  exact k1
theorem x_mmin {x y : Int} (hd : dok M.2.1 (pc, .invokestatic idx, 3, nx, tg)) (hlk : Cond.methodLink M.1.cls idx M_J9_min_7cf53.1 ∈ tbG) (hx : rgi x) (hy : rgi y) (hR : 1 ≤ R.frames ∧ 21 ≤ R.locals ∧ ca ≤ R.cells ∧ sl ≤ R.slots ∧ catq st ≤ 8) (kk : RunX l G M R nx L (vi (min x y) :: st) S ca sl Q) : RunX l G M R pc L (vi y :: vi x :: st) S ca sl Q := by
  intro p e s m args below meth c H locs Z ls hc hn hks hr hi hlo hl
  obtain ⟨hd1, hd2, hd3⟩ := hd
  dsimp only at hd1 hd2 hd3
  subst hd2
  obtain ⟨⟨m1, m2, m3⟩, m4⟩ := ms_J9_min_7cf53
  have k1 := kk p e s m args below meth c H locs Z ls hc hn hks hr hi hlo hl
  refine va_mmin hc.1 hc.2.1 (hc.2.2.1.trans hl.1.symm) hc.2.2.2.1 (hc.2.2.2.2 _ hlk) (hc.2.2.2.2 _ m4) (hc.2.2.2.2 _ m2) (hc.2.2.2.2 _ m1) hR.1 (by rw [catq_sum]; omega) hR.2.2.1 hR.2.2.2.1 hd1 ?_
  have e : (if Int32.ofInt y < Int32.ofInt x then Int32.ofInt y else Int32.ofInt x) = Int32.ofInt (min x y) := by
    by_cases h : y < x
    · rw [if_pos ((o32_lt hy hx).mpr h), Int.min_eq_right (by omega)]
    · rw [if_neg (fun q => h ((o32_lt hy hx).mp q)), Int.min_eq_left (by omega)]
  rw [e]
  exact k1
theorem x_mminL {x y : Int} (hd : dok M.2.1 (pc, .invokestatic idx, 3, nx, tg)) (hlk : Cond.methodLink M.1.cls idx M_J9_min_f86c9.1 ∈ tbG) (hx : rgl x) (hy : rgl y) (hR : 1 ≤ R.frames ∧ 23 ≤ R.locals ∧ ca ≤ R.cells ∧ sl ≤ R.slots ∧ catq st ≤ 8) (kk : RunX l G M R nx L (vl (min x y) :: st) S ca sl Q) : RunX l G M R pc L (vl y :: vl x :: st) S ca sl Q := by
  intro p e s m args below meth c H locs Z ls hc hn hks hr hi hlo hl
  obtain ⟨hd1, hd2, hd3⟩ := hd
  dsimp only at hd1 hd2 hd3
  subst hd2
  obtain ⟨⟨m1, m2, m3⟩, m4⟩ := ms_J9_min_f86c9
  have k1 := kk p e s m args below meth c H locs Z ls hc hn hks hr hi hlo hl
  refine va_mmin_long hc.1 hc.2.1 (hc.2.2.1.trans hl.1.symm) hc.2.2.2.1 (hc.2.2.2.2 _ hlk) (hc.2.2.2.2 _ m4) (hc.2.2.2.2 _ m2) (hc.2.2.2.2 _ m1) hR.1 (by rw [catq_sum]; omega) hR.2.2.1 hR.2.2.2.1 hd1 ?_
  have e : (if Int64.ofInt y < Int64.ofInt x then Int64.ofInt y else Int64.ofInt x) = Int64.ofInt (min x y) := by
    by_cases h : y < x
    · rw [if_pos ((o64_lt hy hx).mpr h), Int.min_eq_right (by omega)]
    · rw [if_neg (fun q => h ((o64_lt hy hx).mp q)), Int.min_eq_left (by omega)]
  rw [e]
  exact k1
end XMath

theorem c_X10_within {v a b : Int} (hv : rgi v) (ha : rgi a) (hb : rgi b) : CI l G M_X10_within 0 [vi v, vi a, vi b] σ (BP (a ≤ v ∧ v ≤ b) σ) := by
  refine Ct.of rfl (Nat.le_of_ble_eq_true rfl) ?_
  refine x_iload_n (E_X10_within_0 0 rfl) rfl ?_
  refine x_iload_n (E_X10_within_0 1 rfl) rfl ?_
  refine x_icmp_lt (E_X10_within_0 2 rfl) (by omega) (by omega) (fun c1 => ?_) (fun c1 => ?_)
  · refine x_iconst (E_X10_within_0 8 rfl) ?_
    refine z_iret (E_X10_within_0 9 rfl) (Or.inl rfl) ?_
    exact ⟨rfl, by first | exact Or.inl ⟨rfl, by omega⟩ | exact Or.inr ⟨rfl, by omega⟩⟩
  · refine x_iload_n (E_X10_within_0 3 rfl) rfl ?_
    refine x_iload_n (E_X10_within_0 4 rfl) rfl ?_
    refine x_icmp_gt (E_X10_within_0 5 rfl) (by omega) (by omega) (fun c2 => ?_) (fun c2 => ?_)
    · refine x_iconst (E_X10_within_0 8 rfl) ?_
      refine z_iret (E_X10_within_0 9 rfl) (Or.inl rfl) ?_
      exact ⟨rfl, by first | exact Or.inl ⟨rfl, by omega⟩ | exact Or.inr ⟨rfl, by omega⟩⟩
    · refine x_iconst (E_X10_within_0 6 rfl) ?_
      refine x_goto (E_X10_within_0 7 rfl) ?_
      refine z_iret (E_X10_within_0 9 rfl) (Or.inr rfl) ?_
      exact ⟨rfl, by first | exact Or.inl ⟨rfl, by omega⟩ | exact Or.inr ⟨rfl, by omega⟩⟩

theorem c_X10_isHouse {v : Int} (hv : rgi v) : CI l G M_X10_isHouse 1 [vi v] σ (BP (0 ≤ v ∧ v ≤ 7) σ) := by
  refine Ct.of rfl (Nat.le_of_ble_eq_true rfl) ?_
  refine x_iload_n (E_X10_isHouse_0 0 rfl) rfl ?_
  refine x_iconst (E_X10_isHouse_0 1 rfl) ?_
  refine x_bipush (z := 7) (E_X10_isHouse_0 2 rfl) (by decide) ?_
  refine z_callSi (E_X10_isHouse_0 3 rfl) ml_X10_100 ms_X10_within (c_X10_within (by omega) (by omega) (by omega)) (by decide) rfl rfl (Nat.le_of_ble_eq_true rfl) (fun z9 τ9 h9 => ?_)
  obtain ⟨rfl, ⟨rfl, c1⟩ | ⟨rfl, c1⟩⟩ := h9
  · refine z_iret (E_X10_isHouse_0 4 rfl) (Or.inr rfl) ?_
    exact ⟨rfl, by first | exact Or.inl ⟨rfl, by omega⟩ | exact Or.inr ⟨rfl, by omega⟩⟩
  · refine z_iret (E_X10_isHouse_0 4 rfl) (Or.inl rfl) ?_
    exact ⟨rfl, by first | exact Or.inl ⟨rfl, by omega⟩ | exact Or.inr ⟨rfl, by omega⟩⟩

theorem c_X10_isFloor {v : Int} (hv : rgi v) : CI l G M_X10_isFloor 1 [vi v] σ (BP (0 ≤ v ∧ v ≤ 5) σ) := by
  refine Ct.of rfl (Nat.le_of_ble_eq_true rfl) ?_
  refine x_iload_n (E_X10_isFloor_0 0 rfl) rfl ?_
  refine x_iconst (E_X10_isFloor_0 1 rfl) ?_
  refine x_iconst (E_X10_isFloor_0 2 rfl) ?_
  refine z_callSi (E_X10_isFloor_0 3 rfl) ml_X10_100 ms_X10_within (c_X10_within (by omega) (by omega) (by omega)) (by decide) rfl rfl (Nat.le_of_ble_eq_true rfl) (fun z9 τ9 h9 => ?_)
  obtain ⟨rfl, ⟨rfl, c1⟩ | ⟨rfl, c1⟩⟩ := h9
  · refine z_iret (E_X10_isFloor_0 4 rfl) (Or.inr rfl) ?_
    exact ⟨rfl, by first | exact Or.inl ⟨rfl, by omega⟩ | exact Or.inr ⟨rfl, by omega⟩⟩
  · refine z_iret (E_X10_isFloor_0 4 rfl) (Or.inl rfl) ?_
    exact ⟨rfl, by first | exact Or.inl ⟨rfl, by omega⟩ | exact Or.inr ⟨rfl, by omega⟩⟩

theorem c_X10_isSort {v : Int} (hv : rgi v) : CI l G M_X10_isSort 1 [vi v] σ (BP (0 ≤ v ∧ v ≤ 3) σ) := by
  refine Ct.of rfl (Nat.le_of_ble_eq_true rfl) ?_
  refine x_iload_n (E_X10_isSort_0 0 rfl) rfl ?_
  refine x_iconst (E_X10_isSort_0 1 rfl) ?_
  refine x_iconst (E_X10_isSort_0 2 rfl) ?_
  refine z_callSi (E_X10_isSort_0 3 rfl) ml_X10_100 ms_X10_within (c_X10_within (by omega) (by omega) (by omega)) (by decide) rfl rfl (Nat.le_of_ble_eq_true rfl) (fun z9 τ9 h9 => ?_)
  obtain ⟨rfl, ⟨rfl, c1⟩ | ⟨rfl, c1⟩⟩ := h9
  · refine z_iret (E_X10_isSort_0 4 rfl) (Or.inr rfl) ?_
    exact ⟨rfl, by first | exact Or.inl ⟨rfl, by omega⟩ | exact Or.inr ⟨rfl, by omega⟩⟩
  · refine z_iret (E_X10_isSort_0 4 rfl) (Or.inl rfl) ?_
    exact ⟨rfl, by first | exact Or.inl ⟨rfl, by omega⟩ | exact Or.inr ⟨rfl, by omega⟩⟩

theorem c_X10_isDay {v : Int} (hv : rgi v) : CI l G M_X10_isDay 1 [vi v] σ (BP (0 ≤ v ∧ v ≤ 2000) σ) := by
  refine Ct.of rfl (Nat.le_of_ble_eq_true rfl) ?_
  refine x_iload_n (E_X10_isDay_0 0 rfl) rfl ?_
  refine x_iconst (E_X10_isDay_0 1 rfl) ?_
  refine x_sipush (z := 2000) (E_X10_isDay_0 2 rfl) (by decide) ?_
  refine z_callSi (E_X10_isDay_0 3 rfl) ml_X10_100 ms_X10_within (c_X10_within (by omega) (by omega) (by omega)) (by decide) rfl rfl (Nat.le_of_ble_eq_true rfl) (fun z9 τ9 h9 => ?_)
  obtain ⟨rfl, ⟨rfl, c1⟩ | ⟨rfl, c1⟩⟩ := h9
  · refine z_iret (E_X10_isDay_0 4 rfl) (Or.inr rfl) ?_
    exact ⟨rfl, by first | exact Or.inl ⟨rfl, by omega⟩ | exact Or.inr ⟨rfl, by omega⟩⟩
  · refine z_iret (E_X10_isDay_0 4 rfl) (Or.inl rfl) ?_
    exact ⟨rfl, by first | exact Or.inl ⟨rfl, by omega⟩ | exact Or.inr ⟨rfl, by omega⟩⟩

theorem lCmp_lt {x y : Int} : lCmp x y < 0 ↔ x < y := by unfold lCmp; repeat' split <;> omega
theorem lCmp_gt {x y : Int} : 0 < lCmp x y ↔ y < x := by unfold lCmp; repeat' split <;> omega
theorem lCmp_rg {x y : Int} : rgi (lCmp x y) := by unfold lCmp; constructor <;> repeat' split <;> omega

theorem c_X11_in {v a b : Int} (hv : rgl v) (ha : rgl a) (hb : rgl b) : CI l G M_X11_in 0 [vl v, vl a, vl b] σ (BP (a ≤ v ∧ v ≤ b) σ) := by
  refine Ct.of rfl (Nat.le_of_ble_eq_true rfl) ?_
  refine x_lload_n (E_X11_in_0 0 rfl) rfl ?_
  refine x_lload_n (E_X11_in_0 1 rfl) rfl ?_
  refine x_lcmp (E_X11_in_0 2 rfl) (by omega) (by omega) ?_
  refine x_if_lt (E_X11_in_0 3 rfl) lCmp_rg (fun c1 => ?_) (fun c1 => ?_)
  · refine x_iconst (E_X11_in_0 10 rfl) ?_
    refine z_iret (E_X11_in_0 11 rfl) (Or.inl rfl) ?_
    (try rw [lCmp_lt] at c1) <;> (try rw [lCmp_gt] at c2) <;> exact ⟨rfl, by first | exact Or.inl ⟨rfl, by omega⟩ | exact Or.inr ⟨rfl, by omega⟩⟩
  · refine x_lload_n (E_X11_in_0 4 rfl) rfl ?_
    refine x_lload (E_X11_in_0 5 rfl) rfl ?_
    refine x_lcmp (E_X11_in_0 6 rfl) (by omega) (by omega) ?_
    refine x_if_gt (E_X11_in_0 7 rfl) lCmp_rg (fun c2 => ?_) (fun c2 => ?_)
    · refine x_iconst (E_X11_in_0 10 rfl) ?_
      refine z_iret (E_X11_in_0 11 rfl) (Or.inl rfl) ?_
      (try rw [lCmp_lt] at c1) <;> (try rw [lCmp_gt] at c2) <;> exact ⟨rfl, by first | exact Or.inl ⟨rfl, by omega⟩ | exact Or.inr ⟨rfl, by omega⟩⟩
    · refine x_iconst (E_X11_in_0 8 rfl) ?_
      refine x_goto (E_X11_in_0 9 rfl) ?_
      refine z_iret (E_X11_in_0 11 rfl) (Or.inr rfl) ?_
      (try rw [lCmp_lt] at c1) <;> (try rw [lCmp_gt] at c2) <;> exact ⟨rfl, by first | exact Or.inl ⟨rfl, by omega⟩ | exact Or.inr ⟨rfl, by omega⟩⟩

theorem c_X11_isHouse {v : Int} (hv : rgi v) : CI l G M_X11_isHouse 1 [vi v] σ (BP (0 ≤ v ∧ v ≤ 7) σ) := by
  refine Ct.of rfl (Nat.le_of_ble_eq_true rfl) ?_
  refine x_iload_n (E_X11_isHouse_0 0 rfl) rfl ?_
  refine x_i2l (E_X11_isHouse_0 1 rfl) (by omega) ?_
  refine x_lconst (z := 0) (E_X11_isHouse_0 2 rfl) rfl ?_
  refine x_ldc2 (z := 7) (E_X11_isHouse_0 3 rfl) kc_X11_195 (by decide) ?_
  refine z_callSi (E_X11_isHouse_0 4 rfl) ml_X11_197 ms_X11_in (c_X11_in (by omega) (by omega) (by omega)) (by decide) rfl rfl (Nat.le_of_ble_eq_true rfl) (fun z9 τ9 h9 => ?_)
  obtain ⟨rfl, ⟨rfl, c1⟩ | ⟨rfl, c1⟩⟩ := h9
  · refine z_iret (E_X11_isHouse_0 5 rfl) (Or.inr rfl) ?_
    exact ⟨rfl, by first | exact Or.inl ⟨rfl, by omega⟩ | exact Or.inr ⟨rfl, by omega⟩⟩
  · refine z_iret (E_X11_isHouse_0 5 rfl) (Or.inl rfl) ?_
    exact ⟨rfl, by first | exact Or.inl ⟨rfl, by omega⟩ | exact Or.inr ⟨rfl, by omega⟩⟩

theorem c_X11_isFloor {v : Int} (hv : rgi v) : CI l G M_X11_isFloor 1 [vi v] σ (BP (0 ≤ v ∧ v ≤ 5) σ) := by
  refine Ct.of rfl (Nat.le_of_ble_eq_true rfl) ?_
  refine x_iload_n (E_X11_isFloor_0 0 rfl) rfl ?_
  refine x_i2l (E_X11_isFloor_0 1 rfl) (by omega) ?_
  refine x_lconst (z := 0) (E_X11_isFloor_0 2 rfl) rfl ?_
  refine x_ldc2 (z := 5) (E_X11_isFloor_0 3 rfl) kc_X11_201 (by decide) ?_
  refine z_callSi (E_X11_isFloor_0 4 rfl) ml_X11_197 ms_X11_in (c_X11_in (by omega) (by omega) (by omega)) (by decide) rfl rfl (Nat.le_of_ble_eq_true rfl) (fun z9 τ9 h9 => ?_)
  obtain ⟨rfl, ⟨rfl, c1⟩ | ⟨rfl, c1⟩⟩ := h9
  · refine z_iret (E_X11_isFloor_0 5 rfl) (Or.inr rfl) ?_
    exact ⟨rfl, by first | exact Or.inl ⟨rfl, by omega⟩ | exact Or.inr ⟨rfl, by omega⟩⟩
  · refine z_iret (E_X11_isFloor_0 5 rfl) (Or.inl rfl) ?_
    exact ⟨rfl, by first | exact Or.inl ⟨rfl, by omega⟩ | exact Or.inr ⟨rfl, by omega⟩⟩

theorem c_X11_isDay {v : Int} (hv : rgi v) : CI l G M_X11_isDay 1 [vi v] σ (BP (0 ≤ v ∧ v ≤ 2000) σ) := by
  refine Ct.of rfl (Nat.le_of_ble_eq_true rfl) ?_
  refine x_iload_n (E_X11_isDay_0 0 rfl) rfl ?_
  refine x_i2l (E_X11_isDay_0 1 rfl) (by omega) ?_
  refine x_lconst (z := 0) (E_X11_isDay_0 2 rfl) rfl ?_
  refine x_ldc2 (z := 2000) (E_X11_isDay_0 3 rfl) kc_X11_203 (by decide) ?_
  refine z_callSi (E_X11_isDay_0 4 rfl) ml_X11_197 ms_X11_in (c_X11_in (by omega) (by omega) (by omega)) (by decide) rfl rfl (Nat.le_of_ble_eq_true rfl) (fun z9 τ9 h9 => ?_)
  obtain ⟨rfl, ⟨rfl, c1⟩ | ⟨rfl, c1⟩⟩ := h9
  · refine z_iret (E_X11_isDay_0 5 rfl) (Or.inr rfl) ?_
    exact ⟨rfl, by first | exact Or.inl ⟨rfl, by omega⟩ | exact Or.inr ⟨rfl, by omega⟩⟩
  · refine z_iret (E_X11_isDay_0 5 rfl) (Or.inl rfl) ?_
    exact ⟨rfl, by first | exact Or.inl ⟨rfl, by omega⟩ | exact Or.inr ⟨rfl, by omega⟩⟩

theorem c_X11_one {v : Int} (hv : v = 0 ∨ v = 1) : CI l G M_X11_one 0 [vi v] σ (IP v σ) := by
  refine Ct.of rfl (Nat.le_of_ble_eq_true rfl) ?_
  refine x_iload_n (E_X11_one_0 0 rfl) rfl ?_
  refine x_if_eq (E_X11_one_0 1 rfl) (by omega) (fun c1 => ?_) (fun c1 => ?_)
  · refine x_iconst (E_X11_one_0 4 rfl) ?_
    refine z_iret (E_X11_one_0 5 rfl) trivial ?_
    exact ⟨by omega, rfl⟩
  · refine x_iconst (E_X11_one_0 2 rfl) ?_
    refine x_goto (E_X11_one_0 3 rfl) ?_
    refine z_iret (E_X11_one_0 5 rfl) trivial ?_
    exact ⟨by omega, rfl⟩

theorem c_X11_isKnown {v : Int} (hv : rgi v) (hn : rgi (σ 114 0)) : CI l G M_X11_isKnown 1 [vr 114, vi v] σ (BP (0 ≤ v ∧ v ≤ σ 114 0) σ) := by
  refine Ct.of rfl (Nat.le_of_ble_eq_true rfl) ?_
  refine x_iload_n (E_X11_isKnown_0 0 rfl) rfl ?_
  refine x_i2l (E_X11_isKnown_0 1 rfl) (by omega) ?_
  refine x_lconst (z := 0) (E_X11_isKnown_0 2 rfl) rfl ?_
  refine x_aload_n (E_X11_isKnown_0 3 rfl) rfl ?_
  refine x_getIe (v := σ 114 0) (E_X11_isKnown_0 4 rfl) fl_X11_205 rfl (by decide) rfl ?_
  refine x_i2l (E_X11_isKnown_0 5 rfl) (by omega) ?_
  refine z_callSi (E_X11_isKnown_0 6 rfl) ml_X11_197 ms_X11_in (c_X11_in (by omega) (by omega) (by omega)) (by decide) rfl rfl (Nat.le_of_ble_eq_true rfl) (fun z9 τ9 h9 => ?_)
  obtain ⟨rfl, ⟨rfl, c1⟩ | ⟨rfl, c1⟩⟩ := h9
  · refine z_iret (E_X11_isKnown_0 7 rfl) (Or.inr rfl) ?_
    exact ⟨rfl, by first | exact Or.inl ⟨rfl, by omega⟩ | exact Or.inr ⟨rfl, by omega⟩⟩
  · refine z_iret (E_X11_isKnown_0 7 rfl) (Or.inl rfl) ?_
    exact ⟨rfl, by first | exact Or.inl ⟨rfl, by omega⟩ | exact Or.inr ⟨rfl, by omega⟩⟩

theorem c_X11_noLot {v : Int} (hv : rgi v) (hn : 0 ≤ σ 114 1 ∧ σ 114 1 ≤ 12) : CI l G M_X11_noLot 1 [vr 114, vi v] σ (BP (¬ (0 ≤ v ∧ v < σ 114 1)) σ) := by
  refine Ct.of rfl (Nat.le_of_ble_eq_true rfl) ?_
  refine x_iload_n (E_X11_noLot_0 0 rfl) rfl ?_
  refine x_i2l (E_X11_noLot_0 1 rfl) (by omega) ?_
  refine x_lconst (z := 0) (E_X11_noLot_0 2 rfl) rfl ?_
  refine x_aload_n (E_X11_noLot_0 3 rfl) rfl ?_
  refine x_getIe (v := σ 114 1) (E_X11_noLot_0 4 rfl) fl_X11_208 rfl (by decide) rfl ?_
  refine x_iconst (E_X11_noLot_0 5 rfl) ?_
  refine x_isub (E_X11_noLot_0 6 rfl) ?_
  refine x_i2l (E_X11_noLot_0 7 rfl) (by omega) ?_
  refine z_callSi (E_X11_noLot_0 8 rfl) ml_X11_197 ms_X11_in (c_X11_in (by omega) (by omega) (by omega)) (by decide) rfl rfl (Nat.le_of_ble_eq_true rfl) (fun z9 τ9 h9 => ?_)
  obtain ⟨rfl, ⟨rfl, c1⟩ | ⟨rfl, c1⟩⟩ := h9
  · refine x_if_ne (E_X11_noLot_0 9 rfl) (by decide) (fun _ => ?_) (fun c9 => absurd c9 (by decide))
    refine x_iconst (E_X11_noLot_0 12 rfl) ?_
    refine z_iret (E_X11_noLot_0 13 rfl) (Or.inl rfl) ?_
    exact ⟨rfl, by first | exact Or.inl ⟨rfl, by omega⟩ | exact Or.inr ⟨rfl, by omega⟩⟩
  · refine x_if_ne (E_X11_noLot_0 9 rfl) (by decide) (fun c9 => absurd c9 (by decide)) (fun _ => ?_)
    refine x_iconst (E_X11_noLot_0 10 rfl) ?_
    refine x_goto (E_X11_noLot_0 11 rfl) ?_
    refine z_iret (E_X11_noLot_0 13 rfl) (Or.inr rfl) ?_
    exact ⟨rfl, by first | exact Or.inl ⟨rfl, by omega⟩ | exact Or.inr ⟨rfl, by omega⟩⟩

theorem c_X3_has {v : Int} (hv : rgi v) (hn : 0 ≤ σ 1 5 ∧ σ 1 5 ≤ 12) : CI l G M_X3_has 0 [vr 1, vi v] σ (BP (0 ≤ v ∧ v < σ 1 5) σ) := by
  refine Ct.of rfl (Nat.le_of_ble_eq_true rfl) ?_
  refine x_iload_n (E_X3_has_0 0 rfl) rfl ?_
  refine x_if_lt (E_X3_has_0 1 rfl) (by omega) (fun c1 => ?_) (fun c1 => ?_)
  · refine x_iconst (E_X3_has_0 8 rfl) ?_
    refine z_iret (E_X3_has_0 9 rfl) (Or.inl rfl) ?_
    exact ⟨rfl, by first | exact Or.inl ⟨rfl, by omega⟩ | exact Or.inr ⟨rfl, by omega⟩⟩
  · refine x_iload_n (E_X3_has_0 2 rfl) rfl ?_
    refine x_aload_n (E_X3_has_0 3 rfl) rfl ?_
    refine x_getIe (v := σ 1 5) (E_X3_has_0 4 rfl) fl_X3_27 rfl (by decide) rfl ?_
    refine x_icmp_ge (E_X3_has_0 5 rfl) (by omega) (by omega) (fun c2 => ?_) (fun c2 => ?_)
    · refine x_iconst (E_X3_has_0 8 rfl) ?_
      refine z_iret (E_X3_has_0 9 rfl) (Or.inl rfl) ?_
      exact ⟨rfl, by first | exact Or.inl ⟨rfl, by omega⟩ | exact Or.inr ⟨rfl, by omega⟩⟩
    · refine x_iconst (E_X3_has_0 6 rfl) ?_
      refine x_goto (E_X3_has_0 7 rfl) ?_
      refine z_iret (E_X3_has_0 9 rfl) (Or.inr rfl) ?_
      exact ⟨rfl, by first | exact Or.inl ⟨rfl, by omega⟩ | exact Or.inr ⟨rfl, by omega⟩⟩

theorem c_X2_has {v : Int} (hv : rgi v) (hn : 0 ≤ σ 7 9 ∧ σ 7 9 ≤ 120) : CI l G M_X2_has 0 [vr 7, vi v] σ (BP (0 ≤ v ∧ v < σ 7 9) σ) := by
  refine Ct.of rfl (Nat.le_of_ble_eq_true rfl) ?_
  refine x_iload_n (E_X2_has_0 0 rfl) rfl ?_
  refine x_if_lt (E_X2_has_0 1 rfl) (by omega) (fun c1 => ?_) (fun c1 => ?_)
  · refine x_iconst (E_X2_has_0 8 rfl) ?_
    refine z_iret (E_X2_has_0 9 rfl) (Or.inl rfl) ?_
    exact ⟨rfl, by first | exact Or.inl ⟨rfl, by omega⟩ | exact Or.inr ⟨rfl, by omega⟩⟩
  · refine x_iload_n (E_X2_has_0 2 rfl) rfl ?_
    refine x_aload_n (E_X2_has_0 3 rfl) rfl ?_
    refine x_getIe (v := σ 7 9) (E_X2_has_0 4 rfl) fl_X2_40 rfl (by decide) rfl ?_
    refine x_icmp_ge (E_X2_has_0 5 rfl) (by omega) (by omega) (fun c2 => ?_) (fun c2 => ?_)
    · refine x_iconst (E_X2_has_0 8 rfl) ?_
      refine z_iret (E_X2_has_0 9 rfl) (Or.inl rfl) ?_
      exact ⟨rfl, by first | exact Or.inl ⟨rfl, by omega⟩ | exact Or.inr ⟨rfl, by omega⟩⟩
    · refine x_iconst (E_X2_has_0 6 rfl) ?_
      refine x_goto (E_X2_has_0 7 rfl) ?_
      refine z_iret (E_X2_has_0 9 rfl) (Or.inr rfl) ?_
      exact ⟨rfl, by first | exact Or.inl ⟨rfl, by omega⟩ | exact Or.inr ⟨rfl, by omega⟩⟩

