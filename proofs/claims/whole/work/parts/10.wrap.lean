/-! wrappers: what is made with its numbers named; calls in the world that stands -/
section XW
variable {l : Launch} {G : GC} {M : MI} {R : Room} {pc nx tg : Nat} {L : List (Option AV)} {st rest : List AV} {ca sl ca1 sl1 : Nat} {Q : Option AV → WS → Prop} {n0 n1 : Nat} {ρ : Nat → Int → Option Nat} {σ : Nat → Int → Int}
theorem y_new {idx ci N : Nat} {C : String} {T : u_T} {ty : Nat → FieldType} (hd : dok M.2.1 (pc, .new idx, 3, nx, tg)) (hcl : clkq ci C T N ty) (hty : ∀ j, j < N → (fI ci j = true → ty j = .int) ∧ (fI ci j = false → (∃ n, ty j = .object n) ∨ ∃ t, ty j = .array t)) (hlk : Cond.classLink M.1.cls idx C ∈ tbG) (h2 : Cond.instantiable C N ∈ tbG) (h3 : Cond.initialized C ∈ tbG) (hs : shp n0 = (ci, N)) (h9 : n1 ≤ 175) (hn : n0 + 1 = n1) (hc1 : ca + 1 = ca1) (hs1 : sl + N = sl1) (hca : ca1 ≤ R.cells ∧ sl1 ≤ R.slots) (hz : σ n0 = fun _ => 0) (hρ : ρ n0 = fun _ => none) (kk : RunX l G M R nx L (vr n0 :: st) (n1, ρ, σ) ca1 sl1 Q) : RunX l G M R pc L st (n0, ρ, σ) ca sl Q := by
  subst hn hc1 hs1
  exact x_new hd hcl hty hlk h2 h3 hs h9 hca hz hρ kk
theorem y_newa {at9 : ArrayType} {ty : FieldType} {kd N : Nat} {z : Int} (hd : dok M.2.1 (pc, .newarray at9, 2, nx, tg)) (ht : newarray.typeOf at9 = ty) (hkd : (kd = 12 ∧ ty = .int) ∨ (kd = 13 ∧ ty = .boolean) ∨ (kd = 14 ∧ ty = .long)) (hw : Cond.arrayClass ty ∈ tbG) (hzN : z = (N : Int)) (hN : N ≤ 256) (hs : shp n0 = (kd, N)) (h9 : n1 ≤ 175) (hn : n0 + 1 = n1) (hc1 : ca + 1 = ca1) (hs1 : sl + N = sl1) (hca : ca1 ≤ R.cells ∧ sl1 ≤ R.slots) (hz : σ n0 = fun _ => 0) (kk : RunX l G M R nx L (vr n0 :: st) (n1, ρ, σ) ca1 sl1 Q) : RunX l G M R pc L (vi z :: st) (n0, ρ, σ) ca sl Q := by
  subst hn hc1 hs1
  exact x_newa hd ht hkd hw hzN hN hs h9 hca hz kk
/-- the rows of new int[8][K] -/
def rwq (ρ : Nat → Int → Option Nat) (n0 : Nat) : Nat → Int → Option Nat := fun a => if a = n0 then (fun j => if 0 ≤ j ∧ j < 8 then some (n0 + 1 + j.toNat) else none) else ρ a
theorem y_mna {idx K : Nat} {z w : Int} (hd : dok M.2.1 (pc, .multianewarray idx 2, 4, nx, tg)) (hlk : Cond.classLink M.1.cls idx "[[I" ∈ tbG) (har : Cond.arrayClass .int ∈ tbG) (hz8 : z = 8) (hwK : w = (K : Int)) (hK : K ≤ 256) (hs : shp n0 = (15, 8)) (hsr : ∀ i, i < 8 → shp (n0 + 1 + i) = (12, K)) (h9 : n1 ≤ 104) (hn : n0 + 9 = n1) (hc1 : ca + 9 = ca1) (hs1 : sl + (8 + 8 * K) = sl1) (hca : ca1 ≤ R.cells ∧ sl1 ≤ R.slots) (hz : ∀ i, n0 ≤ i → i < n1 → σ i = fun _ => 0) (kk : RunX l G M R nx L (vr n0 :: st) (n1, rwq ρ n0, σ) ca1 sl1 Q) : RunX l G M R pc L (vi w :: vi z :: st) (n0, ρ, σ) ca sl Q := by
  subst hn hc1 hs1
  refine x_mna hd hlk har hz8 hwK hK hs hsr h9 hca (fun i hi => hz _ (by omega) (by omega)) (fun a ha => ?_) (fun j hj => ?_) kk
  · unfold rwq
    rw [if_neg (by omega)]
  · unfold rwq
    rw [if_pos rfl, if_pos (by omega)]
    rfl
variable {K : MI} {d mc ms n idx : Nat} {As : List AV} {Q1 : Option AV → WS → Prop}
/-- a constructor's call; what it makes is counted -/
theorem y_callI {S S1 : WS} {k : Nat} (hd : dok M.2.1 (pc, .invokespecial idx, 3, nx, tg)) (hlk : Cond.methodLink M.1.cls idx K.1 ∈ tbG) (hm : miq K n) (hct : Ct l G K d mc ms (vr k :: As) S (fun r S' => r = none ∧ S' = S1)) (hR : d + 1 ≤ R.frames ∧ 8 + (K.2.2.1 + 11) + 40 * d ≤ R.locals) (hc1 : ca + mc = ca1) (hs1 : sl + ms = sl1) (hca : ca1 ≤ R.cells ∧ sl1 ≤ R.slots) (hst : st = As.reverse ++ vr k :: rest) (hn : As.length = n) (hcat : catq rest ≤ 8) (kk : RunX l G M R nx L rest S1 ca1 sl1 Q) : RunX l G M R pc L st S ca sl Q := by
  subst hc1 hs1
  refine x_callI hd hlk hm hct hR hca hst hn hcat (fun r S' hq => ?_)
  obtain ⟨rfl, rfl⟩ := hq
  exact kk
theorem y_callIN {S S1 : WS} {k : Nat} {host : String} (hd : dok M.2.1 (pc, .invokespecial idx, 3, nx, tg)) (hlk : (M.1.cls, idx, K.1, host) ∈ nstq) (hm : miq K n) (hct : Ct l G K d mc ms (vr k :: As) S (fun r S' => r = none ∧ S' = S1)) (hR : d + 1 ≤ R.frames ∧ 8 + (K.2.2.1 + 11) + 40 * d ≤ R.locals) (hc1 : ca + mc = ca1) (hs1 : sl + ms = sl1) (hca : ca1 ≤ R.cells ∧ sl1 ≤ R.slots) (hst : st = As.reverse ++ vr k :: rest) (hn : As.length = n) (hcat : catq rest ≤ 8) (kk : RunX l G M R nx L rest S1 ca1 sl1 Q) : RunX l G M R pc L st S ca sl Q := by
  subst hc1 hs1
  refine x_callIN hd hlk hm hct hR hca hst hn hcat (fun r S' hq => ?_)
  obtain ⟨rfl, rfl⟩ := hq
  exact kk
end XW
/-! the world that stands: all is made -/
abbrev Wd (σ : Nat → Int → Int) : WS := (175, ρ0, σ)
def PI (P : Int → (Nat → Int → Int) → Prop) : Option AV → WS → Prop := fun r S' => ∃ z τ, r = some (vi z) ∧ S' = Wd τ ∧ P z τ
def PV (P : (Nat → Int → Int) → Prop) : Option AV → WS → Prop := fun r S' => ∃ τ, r = none ∧ S' = Wd τ ∧ P τ
/-- contracts of methods that answer an int (or boolean), and of void ones -/
abbrev CI (l : Launch) (G : GC) (K : MI) (d : Nat) (As : List AV) (σ : Nat → Int → Int) (P : Int → (Nat → Int → Int) → Prop) : Prop := Ct l G K d 0 0 As (Wd σ) (PI P)
abbrev CV (l : Launch) (G : GC) (K : MI) (d : Nat) (As : List AV) (σ : Nat → Int → Int) (P : (Nat → Int → Int) → Prop) : Prop := Ct l G K d 0 0 As (Wd σ) (PV P)
abbrev XI (l : Launch) (G : GC) (M : MI) (d : Nat) (pc : Nat) (L : List (Option AV)) (st : List AV) (σ : Nat → Int → Int) (P : Int → (Nat → Int → Int) → Prop) : Prop := RunX l G M (rmq d 0 0) pc L st (Wd σ) 0 0 (PI P)
abbrev XV (l : Launch) (G : GC) (M : MI) (d : Nat) (pc : Nat) (L : List (Option AV)) (st : List AV) (σ : Nat → Int → Int) (P : (Nat → Int → Int) → Prop) : Prop := RunX l G M (rmq d 0 0) pc L st (Wd σ) 0 0 (PV P)
section XX
variable {l : Launch} {G : GC} {M : MI} {R : Room} {pc nx tg : Nat} {L : List (Option AV)} {st rest : List AV} {Q : Option AV → WS → Prop} {σ : Nat → Int → Int}
variable {K : MI} {d n idx : Nat} {As : List AV} {P : Int → (Nat → Int → Int) → Prop} {PP : (Nat → Int → Int) → Prop}
theorem z_callVi {k ci N : Nat} (hd : dok M.2.1 (pc, .invokevirtual idx, 3, nx, tg)) (hlk : Cond.methodLink M.1.cls idx K.1 ∈ tbG) (hm : mvq K n) (hs : shp k = (ci, N)) (hk : k < 175) (hcc : ci < 12 ∧ vwCl[ci]?.map (·.1) = some K.1.cls) (hct : CI l G K d (vr k :: As) σ P) (hR : d + 1 ≤ R.frames ∧ 8 + (K.2.2.1 + 11) + 40 * d ≤ R.locals) (hst : st = As.reverse ++ vr k :: rest) (hn : As.length = n) (hcat : catq rest ≤ 8)
    (kk : ∀ z τ, P z τ → RunX l G M R nx L (vi z :: rest) (Wd τ) 0 0 Q) : RunX l G M R pc L st (Wd σ) 0 0 Q := by
  refine x_callV hd hlk hm hs hk hcc hct hR ⟨Nat.zero_le _, Nat.zero_le _⟩ hst hn hcat (fun r S' hq => ?_)
  obtain ⟨z, τ, rfl, rfl, hP⟩ := hq
  exact kk z τ hP
theorem z_callVv {k ci N : Nat} (hd : dok M.2.1 (pc, .invokevirtual idx, 3, nx, tg)) (hlk : Cond.methodLink M.1.cls idx K.1 ∈ tbG) (hm : mvq K n) (hs : shp k = (ci, N)) (hk : k < 175) (hcc : ci < 12 ∧ vwCl[ci]?.map (·.1) = some K.1.cls) (hct : CV l G K d (vr k :: As) σ PP) (hR : d + 1 ≤ R.frames ∧ 8 + (K.2.2.1 + 11) + 40 * d ≤ R.locals) (hst : st = As.reverse ++ vr k :: rest) (hn : As.length = n) (hcat : catq rest ≤ 8)
    (kk : ∀ τ, PP τ → RunX l G M R nx L rest (Wd τ) 0 0 Q) : RunX l G M R pc L st (Wd σ) 0 0 Q := by
  refine x_callV hd hlk hm hs hk hcc hct hR ⟨Nat.zero_le _, Nat.zero_le _⟩ hst hn hcat (fun r S' hq => ?_)
  obtain ⟨τ, rfl, rfl, hP⟩ := hq
  exact kk τ hP
theorem z_callSi (hd : dok M.2.1 (pc, .invokestatic idx, 3, nx, tg)) (hlk : Cond.methodLink M.1.cls idx K.1 ∈ tbG) (hm : msq K n) (hct : CI l G K d As σ P) (hR : d + 1 ≤ R.frames ∧ 8 + (K.2.2.1 + 11) + 40 * d ≤ R.locals) (hst : st = As.reverse ++ rest) (hn : As.length = n) (hcat : catq rest ≤ 8)
    (kk : ∀ z τ, P z τ → RunX l G M R nx L (vi z :: rest) (Wd τ) 0 0 Q) : RunX l G M R pc L st (Wd σ) 0 0 Q := by
  refine x_callS hd hlk hm hct hR ⟨Nat.zero_le _, Nat.zero_le _⟩ hst hn hcat (fun r S' hq => ?_)
  obtain ⟨z, τ, rfl, rfl, hP⟩ := hq
  exact kk z τ hP
theorem z_callSNi {host : String} (hd : dok M.2.1 (pc, .invokestatic idx, 3, nx, tg)) (hlk : (M.1.cls, idx, K.1, host) ∈ nstq) (hm : msq K n) (hct : CI l G K d As σ P) (hR : d + 1 ≤ R.frames ∧ 8 + (K.2.2.1 + 11) + 40 * d ≤ R.locals) (hst : st = As.reverse ++ rest) (hn : As.length = n) (hcat : catq rest ≤ 8)
    (kk : ∀ z τ, P z τ → RunX l G M R nx L (vi z :: rest) (Wd τ) 0 0 Q) : RunX l G M R pc L st (Wd σ) 0 0 Q := by
  refine x_callSN hd hlk hm hct hR ⟨Nat.zero_le _, Nat.zero_le _⟩ hst hn hcat (fun r S' hq => ?_)
  obtain ⟨z, τ, rfl, rfl, hP⟩ := hq
  exact kk z τ hP
theorem z_iret {z : Int} (hd : dok M.2.1 (pc, .ireturn, 1, nx, tg)) (hok : rokq M.2.2.2 (some (vi z))) (hq : P z σ) : RunX l G M R pc L [vi z] (Wd σ) 0 0 (PI P) := x_iret hd hok ⟨z, σ, rfl, rfl, hq⟩
theorem z_vret (hd : dok M.2.1 (pc, .return_, 1, nx, tg)) (hok : rokq M.2.2.2 none) (hq : PP σ) : RunX l G M R pc L [] (Wd σ) 0 0 (PV PP) := x_vret hd hok (Nat.zero_le _) (Nat.zero_le _) ⟨σ, rfl, rfl, hq⟩
theorem CI.mono {P' : Int → (Nat → Int → Int) → Prop} (h : XI l G M d pc L st σ P) (hP : ∀ z τ, P z τ → P' z τ) : XI l G M d pc L st σ P' := RunX.mono h (fun r S' q => by
  obtain ⟨z, τ, a, b, c⟩ := q
  exact ⟨z, τ, a, b, hP z τ c⟩)
end XX
