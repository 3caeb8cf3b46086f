/-! what is made: objects and arrays, the next cell -/
section XN
variable {l : Launch} {G : GC} {M : MI} {R : Room} {pc nx tg : Nat} {L : List (Option AV)} {st : List AV} {ca sl : Nat} {Q : Option AV → WS → Prop} {n0 : Nat} {ρ : Nat → Int → Option Nat} {σ : Nat → Int → Int}
theorem x_objinit {idx k : Nat} {S : WS} (hd : dok M.2.1 (pc, .invokespecial idx, 3, nx, tg)) (hlk : Cond.methodLink M.1.cls idx Lib.objectInit ∈ tbG) (h2 : Cond.instanceMethod Lib.objectInit ∈ tbG) (h3 : Cond.code Lib.objectInit ⟨#[0xb1]⟩ 1 none ∈ tbG) (hR : 1 ≤ R.frames ∧ catq st + 12 ≤ R.locals) (kk : RunX l G M R nx L st S ca sl Q) : RunX l G M R pc L (vr k :: st) S ca sl Q := by
  intro p e s m args below meth c H locs Z ls hc hn hks hr hi hlo hl
  obtain ⟨hd1, hd2, hd3⟩ := hd
  dsimp only at hd1 hd2 hd3
  subst hd2
  exact W.objInit hc.1 hc.2.1 hc.2.2.2.1 (hc.2.2.2.2 _ hlk) (hc.2.2.2.2 _ h2) (hc.2.2.2.2 _ h3) (g := F0 m pc ls (List.map (cvl G) (vr k :: st))) (rest := st.map (cvl G)) rfl (by rw [hc.2.2.1]; exact hl.1) rfl hd1 hR.1 (by rw [catq_sum]; show 2 * 0 + _ + 12 ≤ _; omega) (kk p e s m args below meth c H locs Z ls hc hn hks hr hi hlo hl)
/-- a new cell behind the others -/
theorem Invq.push {U : State} {H H' : Heap} {ρ' : Nat → Int → Option Nat} {σ' : Nat → Int → Int} (h : Invq G (n0, ρ, σ) U H) (h9 : n0 + 1 ≤ 175) (h4 : n0 ≠ 104) (hs : H'.size = H.size + 1) (ho : ∀ q, q < H.size → H'[q]? = H[q]?) (hρ : ∀ a, a < n0 → ρ' a = ρ a) (hσ : ∀ a, a < n0 → σ' a = σ a) (hc : cellq G ρ' σ' U H' n0) : Invq G (n0 + 1, ρ', σ') U H' := by
  obtain ⟨⟨h1, h0⟩, h2, h3⟩ := h
  have h1 : H.size = G.1 + posq n0 := h1
  have h5 : posq (n0 + 1) = posq n0 + 1 := by unfold posq; split <;> split <;> omega
  refine ⟨⟨by rw [hs, h1]; show _ = G.1 + posq (n0 + 1); omega, h9⟩, fun q hq => ?_, fun a ha => ?_⟩
  · rw [ho q (by omega)]; exact h2 q hq
  · by_cases e : a = n0
    · subst e; exact hc
    · have ha : a < n0 + 1 := ha
      have ha2 : a < n0 := by omega
      by_cases e4 : a = 104
      · subst e4; trivial
      · refine (h3 a ha2).kept (ho _ ?_) (hρ a ha2) (hσ a ha2)
        have := posq_lt ha2 e4
        rw [adr_lt (by omega)]; omega
/-- the number that is of no cell is passed over -/
theorem x_skip {S : WS} (kk : RunX l G M R pc L st (105, S.2.1, S.2.2) ca sl Q) (hS : S.1 = 104) : RunX l G M R pc L st S ca sl Q := by
  obtain ⟨n, ρ, σ⟩ := S
  have hS : n = 104 := hS
  subst hS
  intro p e s m args below meth c H locs Z ls hc hn hks hr hi hlo hl
  refine kk p e s m args below meth c H locs Z ls hc hn hks hr ⟨⟨hi.1.1, show 105 ≤ 175 by decide⟩, hi.2.1, fun k hk => ?_⟩ hlo hl
  by_cases e : k = 104
  · subst e; trivial
  · exact hi.2.2 k (show k < 104 by have hk : k < 105 := hk; omega)
theorem x_new {idx ci N : Nat} {C : String} {T : u_T} {ty : Nat → FieldType} (hd : dok M.2.1 (pc, .new idx, 3, nx, tg)) (hcl : clkq ci C T N ty) (hty : ∀ j, j < N → (fI ci j = true → ty j = .int) ∧ (fI ci j = false → (∃ n, ty j = .object n) ∨ ∃ t, ty j = .array t)) (hlk : Cond.classLink M.1.cls idx C ∈ tbG) (h2 : Cond.instantiable C N ∈ tbG) (h3 : Cond.initialized C ∈ tbG) (hs : shp n0 = (ci, N)) (h9 : n0 + 1 ≤ 175) (hca : ca + 1 ≤ R.cells ∧ sl + N ≤ R.slots) (hz : σ n0 = fun _ => 0) (hρ : ρ n0 = fun _ => none) (kk : RunX l G M R nx L (vr n0 :: st) (n0 + 1, ρ, σ) (ca + 1) (sl + N) Q) : RunX l G M R pc L st (n0, ρ, σ) ca sl Q := by
  intro p e s m args below meth c H locs Z ls hc hn hks hr hi hlo hl
  obtain ⟨hd1, hd2, hd3⟩ := hd
  dsimp only at hd1 hd2 hd3
  subst hd2
  obtain ⟨hcl, hin, hpt, hnm, hci⟩ := hcl
  have hKn := hks.1.1 ci _ hcl
  have hsz : H.size = adr G n0 := by rw [adr_lt (by omega)]; exact hi.1.1
  refine W.newcK hc.1 hc.2.1 hc.2.2.2.1 (hc.2.2.2.2 _ hlk) (hc.2.2.2.2 _ h2) (hc.2.2.2.2 _ h3) rfl hd1 hca.1 hca.2 hKn.2.1 hsz (fun H1 kC hkC e1 z1 o1 => ?_)
  have hI : Invq G (n0 + 1, ρ, σ) s H1 := by
    refine hi.push h9 (nho hs (by omega)) (by rw [z1, ← hsz]) (fun q hq => o1 q (by rw [← hsz]; exact hq)) (fun _ _ => rfl) (fun _ _ => rfl) ?_
    rw [cellq_obj hci hs]
    refine (u_born ty hc.2.2.2.2 hin hKn hkC e1 hpt).to (fun j hj => ?_)
    unfold fvl
    rw [hz, hρ]
    cases hf : fI ci j with
    | true => rw [(hty j hj).1 hf, if_pos rfl]; rfl
    | false =>
      rw [if_neg (by decide)]
      rcases (hty j hj).2 hf with ⟨n, h⟩ | ⟨n, h⟩ <;> rw [h] <;> rfl
  exact kk p e s m args below meth c H1 locs Z ls hc hn hks hr hI hlo hl
theorem o32_cl {z : Int} {N : Nat} (h : z = (N : Int)) (hN : N ≤ 256) : ¬ Int32.ofInt z < 0 ∧ (Int32.ofInt z).toNatClampNeg = N := by
  subst h
  rw [o32_0, o32_lt (by omega) (by decide), o32_ix (by omega) (by omega)]
  omega
theorem x_newa {at9 : ArrayType} {ty : FieldType} {kd N : Nat} {z : Int} (hd : dok M.2.1 (pc, .newarray at9, 2, nx, tg)) (ht : newarray.typeOf at9 = ty) (hkd : (kd = 12 ∧ ty = .int) ∨ (kd = 13 ∧ ty = .boolean) ∨ (kd = 14 ∧ ty = .long)) (hw : Cond.arrayClass ty ∈ tbG) (hzN : z = (N : Int)) (hN : N ≤ 256) (hs : shp n0 = (kd, N)) (h9 : n0 + 1 ≤ 175) (hca : ca + 1 ≤ R.cells ∧ sl + N ≤ R.slots) (hz : σ n0 = fun _ => 0) (kk : RunX l G M R nx L (vr n0 :: st) (n0 + 1, ρ, σ) (ca + 1) (sl + N) Q) : RunX l G M R pc L (vi z :: st) (n0, ρ, σ) ca sl Q := by
  intro p e s m args below meth c H locs Z ls hc hn hks hr hi hlo hl
  obtain ⟨hd1, hd2, hd3⟩ := hd
  dsimp only at hd1 hd2 hd3
  subst hd2
  subst ht
  have hsz : H.size = adr G n0 := by rw [adr_lt (by omega)]; exact hi.1.1
  obtain ⟨hz1, hz2⟩ := o32_cl hzN hN
  refine va_newaK hc.1 hc.2.1 (hc.2.2.2.2 _ hw) rfl hd1 (rest := st.map (cvl G)) rfl hz1 hz2 ?_ hca.1 hca.2 hsz (fun H1 cA e1 z1 o1 hAr hNm => ?_)
  · rcases hkd with ⟨-, h⟩ | ⟨-, h⟩ | ⟨-, h⟩ <;> rw [h] <;> simp [componentBytes] <;> omega
  have hI : Invq G (n0 + 1, ρ, σ) s H1 := by
    refine hi.push h9 (nho hs (by omega)) (by rw [z1, ← hsz]) (fun q hq => o1 q (by rw [← hsz]; exact hq)) (fun _ _ => rfl) (fun _ _ => rfl) ?_
    unfold cellq
    rw [hs]
    rcases hkd with ⟨rfl, h⟩ | ⟨rfl, h⟩ | ⟨rfl, h⟩
    · rw [h] at e1 hAr
      refine ⟨cA, ?_, hAr⟩
      rw [e1, hz]; rfl
    · rw [h] at e1 hAr
      refine ⟨cA, ?_, hAr⟩
      rw [e1, hz]; rfl
    · rw [h] at e1 hAr
      refine ⟨cA, ?_, hAr⟩
      rw [e1, hz]; rfl
  exact kk p e s m args below meth c H1 locs Z ls hc hn hks hr hI hlo hl
theorem vr_outer2 (c : ClassId) (N h0 : Nat) : ∀ i : Nat, Jvm.Free.Multi.outerC c N h0 i = arrV c N (fun j => va_rf (if j < i then some (h0 + 1 + j) else none))
  | 0 => by
    show ({ cls := c, slots := Array.replicate N .null, vm := .none } : Cell) = _
    rw [arrV_new]
    refine congrArg (arrV c N) (funext fun j => ?_)
    simp [va_rf]
  | i + 1 => by
    show (Jvm.Free.Multi.outerC c N h0 i).setSlot i (.ref (h0 + 1 + i)) = _
    rw [vr_outer2 c N h0 i, arrV_store]
    refine congrArg (arrV c N) (funext fun j => ?_)
    by_cases e : j = i
    · subst e
      simp [updV, va_rf]
    · by_cases h : j < i
      · simp [updV, e, h, Nat.lt_succ_of_lt h]
      · simp [updV, e, h, show ¬ j < i + 1 by omega]
/-- new int[8][K]: the outer array, then its rows -/
theorem x_mna {idx K : Nat} {z w : Int} (hd : dok M.2.1 (pc, .multianewarray idx 2, 4, nx, tg)) (hlk : Cond.classLink M.1.cls idx "[[I" ∈ tbG) (har : Cond.arrayClass .int ∈ tbG) (hz8 : z = 8) (hwK : w = (K : Int)) (hK : K ≤ 256) (hs : shp n0 = (15, 8)) (hsr : ∀ i, i < 8 → shp (n0 + 1 + i) = (12, K)) (h9 : n0 + 9 ≤ 104) (hca : ca + 9 ≤ R.cells ∧ sl + (8 + 8 * K) ≤ R.slots) (hz : ∀ i, i < 9 → σ (n0 + i) = fun _ => 0) {ρ' : Nat → Int → Option Nat} (hρ : ∀ a, a < n0 → ρ' a = ρ a) (hρn : ∀ j : Nat, j < 8 → ρ' n0 j = some (n0 + 1 + j)) (kk : RunX l G M R nx L (vr n0 :: st) (n0 + 9, ρ', σ) (ca + 9) (sl + (8 + 8 * K)) Q) : RunX l G M R pc L (vi w :: vi z :: st) (n0, ρ, σ) ca sl Q := by
  intro p e s m args below meth c H locs Z ls hc hn hks hr hi hlo hl
  obtain ⟨hd1, hd2, hd3⟩ := hd
  dsimp only at hd1 hd2 hd3
  subst hd2
  have ep : ∀ a, a ≤ 104 → posq a = a := fun a ha => if_pos ha
  have hsz : H.size = G.1 + n0 := by have := hi.1.1; rw [ep _ (show n0 ≤ 104 by omega)] at this; exact this
  obtain ⟨hz1, hz2⟩ := o32_cl (N := 8) (z := z) hz8 (by decide)
  obtain ⟨hw1, hw2⟩ := o32_cl hwK hK
  intro T hT Xs
  obtain ⟨vm₁, cA, comp, -, fA, fC, hO, hIn, X', step⟩ := Xs.multianewarray2F (ty := .int) hc.1 hc.2.2.2.1 (hc.2.2.2.2 _ hlk) hks.2.2.2.2.2.2.2.2.use (hc.2.2.2.2 _ har) (g := F0 m pc ls (List.map (cvl G) (vi w :: vi z :: st))) rfl (by rw [hc.2.1]; exact hd1) (rest := st.map (cvl G)) rfl hz1 hw1 (by rw [hz2]; decide) (by rw [hw2]; simp [componentBytes]; omega) (by rw [hw2]; omega) rfl rfl (by rw [hz2]; exact hca.1) (by rw [hz2, hw2]; exact hca.2)
  rw [hz2, hw2] at X' step
  generalize hF : Jvm.Free.Multi.fill (T.setVm vm₁) cA comp 8 K (defaultValue .int) 8 = F at X' step
  have hTh : (T.setVm vm₁).heap = H := hT
  obtain ⟨f1, f2, -, -⟩ := Jvm.Free.Multi.fill_facts (T.setVm vm₁) cA comp 8 K (defaultValue .int) 8
  rw [hF, hTh] at f1 f2
  have hold : ∀ x : Nat, x < H.size → F.heap[x]? = H[x]? := fun x hx => by
    have := Jvm.Free.Multi.fill_old (T.setVm vm₁) cA comp 8 K (defaultValue .int) (a := x) (by rw [hTh]; exact hx) 8
    rw [hF, hTh] at this
    exact this
  have hrow : ∀ j : Nat, j < 8 → F.heap[H.size + 1 + j]? = some (arrV comp K (fun _ => .int 0)) := fun j hj => by
    have := Jvm.Free.Multi.fill_inner (T.setVm vm₁) cA comp 8 K (defaultValue .int) 8 j hj
    rw [hF, hTh] at this
    rw [this]
    show some ({ cls := comp, slots := Array.replicate K _, vm := .none } : Cell) = _
    rw [arrV_new]; rfl
  rw [vr_outer2] at f2
  have hAr : ArrOfT s cA (.array .int) := fun N9 z9 => by
    obtain ⟨-, k9, hk9, cm9, hkk9⟩ := (hO 0 0 0).1
    exact ⟨(fun q hq => by cases hq), k9, hk9, cm9, hkk9⟩
  have hArI : ArrOfT s comp .int := fun N9 z9 => by
    obtain ⟨-, k9, hk9, cm9, hkk9⟩ := (hIn 0 .null).1
    exact ⟨(fun q hq => by cases hq), k9, hk9, cm9, hkk9⟩
  have hI : Invq G (n0 + 9, ρ', σ) s F.heap := by
    refine ⟨⟨by rw [f1, hsz]; show _ = G.1 + posq (n0 + 9); rw [ep _ h9]; omega, Nat.le_trans h9 (by decide)⟩, fun q hq => by rw [hold q (by omega)]; exact hi.2.1 q hq, fun a ha => ?_⟩
    have ha : a < n0 + 9 := ha
    by_cases e1 : a < n0
    · refine (hi.2.2 a e1).kept (hold _ ?_) (hρ a e1) rfl
      rw [adr_lt (by omega), ep _ (by omega)]; omega
    · by_cases e2 : a = n0
      · subst e2
        unfold cellq
        rw [hs]
        refine ⟨cA, ?_, hAr⟩
        rw [adr_lt (by omega), ep _ (by omega), ← hsz, f2]
        refine congrArg some ?_
        unfold arrV
        congr 1
        refine congrArg (Array.ofFn (n := 8)) (funext fun j => ?_)
        show va_rf _ = crf G (ρ' a _)
        rw [hρn j.val j.isLt, if_pos j.isLt]
        show Value.ref (H.size + 1 + j.val) = .ref (adr G (a + 1 + j.val))
        rw [adr_lt (by omega), ep _ (by have := j.isLt; omega), hsz]
        exact congrArg Value.ref (show (G.1 + a + 1 + j.val : Nat) = G.1 + (a + 1 + j.val) by omega)
      · obtain ⟨i, hi8, rfl⟩ : ∃ i, i < 8 ∧ a = n0 + 1 + i := ⟨a - n0 - 1, by omega, by omega⟩
        unfold cellq
        rw [hsr i hi8]
        refine ⟨comp, ?_, hArI⟩
        have hzi := hz (i + 1) (by omega)
        rw [show n0 + (i + 1) = n0 + 1 + i by omega] at hzi
        rw [adr_lt (by omega), ep _ (by omega), show G.1 + (n0 + 1 + i) = H.size + 1 + i by omega, hrow i hi8]
        show _ = some (arrV comp K fun j => Value.int (Int32.ofInt (σ (n0 + 1 + i) j)))
        rw [hzi]
        rfl
  rw [show sl + 8 + 8 * K = sl + (8 + 8 * K) by omega] at X'
  obtain ⟨t, a1, b1⟩ := kk p e s m args below meth c F.heap locs Z ls hc hn hks hr hI hlo hl F rfl X'
  refine ⟨t, step t ?_, b1⟩
  have e : T.heap.size = adr G n0 := by rw [hT, adr_lt (by omega), ep _ (by omega)]; exact hsz
  rw [e]
  exact a1
end XN
