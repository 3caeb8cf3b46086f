/-! fields, returns, calls, contracts -/
theorem cellq_obj {G : GC} {ρ : Nat → Int → Option Nat} {σ : Nat → Int → Int} {U : State} {H : Heap} {k ci N : Nat} (hci : ci < 12) (hs : shp k = (ci, N)) : cellq G ρ σ U H k = t_OB (adr G k) (G.2.2.1.1 ci) N (G.2.2.1.2 ci) H (fun j => fvl G ci ρ σ k j) := by
  unfold cellq
  rw [hs]
  split
  · rename_i h; cases h; omega
  · rename_i h; cases h; omega
  · rename_i h; cases h; omega
  · rename_i h; cases h; omega
  · rename_i h; cases h; omega
  · rename_i h; cases h; rfl
def clkq (ci : Nat) (C : String) (T : u_T) (N : Nat) (ty : Nat → FieldType) : Prop := vwCl[ci]? = some (C, T, N) ∧ (∀ w ∈ u_ws C T N, w ∈ tbG) ∧ (∀ k, k < N → parseFieldDescriptor (T k).2.2.1 = some (ty k)) ∧ (∀ a, a < N → ∀ b, b < N → a ≠ b → (T a).2.1 ≠ (T b).2.1) ∧ ci < 12
/-- field j of class ci, by entry idx of class own; z is j as an Int; int or not; final or not -/
def flq (own : String) (idx ci N j : Nat) (z : Int) (isI fin : Bool) : Prop := ∃ (C : String) (T : u_T) (ty : Nat → FieldType), clkq ci C T N ty ∧ j < N ∧ (j : Int) = z ∧ Cond.fieldLink own idx (T j).1 (T j).2.1 (T j).2.2.1 ∈ tbG ∧ fI ci j = isI ∧ (T j).2.2.2 = fin ∧ (T j).1 = C ∧ (if isI = true then ty j = .int else (∃ n, ty j = .object n) ∨ ∃ t, ty j = .array t)
section XF
variable {l : Launch} {G : GC} {M : MI} {R : Room} {pc nx tg : Nat} {L : List (Option AV)} {st : List AV} {S : WS} {ca sl : Nat} {Q : Option AV → WS → Prop}
variable {n0 k idx ci N j : Nat} {ρ : Nat → Int → Option Nat} {σ : Nat → Int → Int} {z : Int} {fin : Bool}
theorem x_getI (hd : dok M.2.1 (pc, .getfield idx, 3, nx, tg)) (hf : flq M.1.cls idx ci N j z true fin) (hs : shp k = (ci, N)) (hk : k < n0) (kk : RunX l G M R nx L (vi (σ k z) :: st) (n0, ρ, σ) ca sl Q) : RunX l G M R pc L (vr k :: st) (n0, ρ, σ) ca sl Q := by
  intro p e s m args below meth c H locs Z ls hc hn hks hr hi hlo hl
  obtain ⟨hd1, hd2, hd3⟩ := hd
  dsimp only at hd1 hd2 hd3
  subst hd2
  have k1 := kk p e s m args below meth c H locs Z ls hc hn hks hr hi hlo hl
  obtain ⟨C, T, ty, ⟨hcl, hin, hty, hnm, hci⟩, hj, hz, hlk, hI, -, -, -⟩ := hf
  subst hz
  have hce := hi.2.2 k hk
  rw [cellq_obj hci hs] at hce
  obtain ⟨cell, q1, q2, q3, q4⟩ := hce
  obtain ⟨hS, hfc, kC, hkC, hkind⟩ := hks.1.1 ci _ hcl
  obtain ⟨cf, kf, fi, f, hff, hsl⟩ := hS j hj
  refine W.getf hc.1 hc.2.1 hc.2.2.2.1 (hc.2.2.2.2 _ hlk) hff (u_facts hfc hkC (u_lays hc.2.2.2.2 hin hj) hff).1 q1 (by rw [q3]; exact fun h => by cases h) (v := .int (Int32.ofInt (σ k j))) ?_ rfl rfl hd1 k1
  rw [hsl, q4 j hj]
  show some (fvl G ci ρ σ k j) = _
  rw [fvl, if_pos hI]
theorem x_getR {r : Nat} (hd : dok M.2.1 (pc, .getfield idx, 3, nx, tg)) (hf : flq M.1.cls idx ci N j z false fin) (hs : shp k = (ci, N)) (hk : k < n0) (hρ : ρ k z = some r) (kk : RunX l G M R nx L (vr r :: st) (n0, ρ, σ) ca sl Q) : RunX l G M R pc L (vr k :: st) (n0, ρ, σ) ca sl Q := by
  intro p e s m args below meth c H locs Z ls hc hn hks hr hi hlo hl
  obtain ⟨hd1, hd2, hd3⟩ := hd
  dsimp only at hd1 hd2 hd3
  subst hd2
  have k1 := kk p e s m args below meth c H locs Z ls hc hn hks hr hi hlo hl
  obtain ⟨C, T, ty, ⟨hcl, hin, hty, hnm, hci⟩, hj, hz, hlk, hI, -, -, -⟩ := hf
  subst hz
  have hce := hi.2.2 k hk
  rw [cellq_obj hci hs] at hce
  obtain ⟨cell, q1, q2, q3, q4⟩ := hce
  obtain ⟨hS, hfc, kC, hkC, hkind⟩ := hks.1.1 ci _ hcl
  obtain ⟨cf, kf, fi, f, hff, hsl⟩ := hS j hj
  refine W.getf hc.1 hc.2.1 hc.2.2.2.1 (hc.2.2.2.2 _ hlk) hff (u_facts hfc hkC (u_lays hc.2.2.2.2 hin hj) hff).1 q1 (by rw [q3]; exact fun h => by cases h) (v := crf G (some r)) ?_ rfl rfl hd1 k1
  rw [hsl, q4 j hj]
  show some (fvl G ci ρ σ k j) = _
  rw [fvl, if_neg (by rw [hI]; decide), hρ]
theorem locs_add {locs : List Loc} {G : GC} {i : Nat} (hlo : ∀ q ∈ locs, G.1 ≤ q.base) (hk : k < 1000) : ∀ q ∈ locs ++ [⟨adr G k, i⟩], G.1 ≤ q.base := by
  intro q hq
  rcases List.mem_append.mp hq with q1 | q1
  · exact hlo q q1
  · rw [List.mem_singleton] at q1
    subst q1
    show G.1 ≤ adr G k
    rw [adr_lt hk]
    omega
theorem x_putI {v : Int} (hd : dok M.2.1 (pc, .putfield idx, 3, nx, tg)) (hf : flq M.1.cls idx ci N j z true false) (hs : shp k = (ci, N)) (hk : k < n0) (kk : RunX l G M R nx L st (n0, ρ, upq σ k z v) ca sl Q) : RunX l G M R pc L (vi v :: vr k :: st) (n0, ρ, σ) ca sl Q := by
  intro p e s m args below meth c H locs Z ls hc hn hks hr hi hlo hl
  obtain ⟨hd1, hd2, hd3⟩ := hd
  dsimp only at hd1 hd2 hd3
  subst hd2
  obtain ⟨C, T, ty, ⟨hcl, hin, hty, hnm, hci⟩, hj, hz, hlk, hI, hfin, -, ht⟩ := hf
  subst hz
  have ht : ty j = .int := ht
  have hap := va_apart (own := M.1.cls) hc.2.2.2.2 hin ty hty hnm hks.1 hcl
  have hce := hi.2.2 k hk
  rw [cellq_obj hci hs] at hce
  obtain ⟨cell, q1, q2, q3, q4⟩ := hce
  obtain ⟨hS, hfc, kC, hkC, hkind⟩ := hks.1.1 ci _ hcl
  obtain ⟨cf, kf, fi, f, hff, hsl⟩ := hS j hj
  have hlay := hc.2.2.2.2 _ (hin _ (u_in_lay hj))
  unfold u_lay at hlay
  rw [if_neg (by rw [hfin]; decide)] at hlay
  have hst := (u_facts hfc hkC (u_lays hc.2.2.2.2 hin hj) hff).1
  have h6 := u_store hfc hkC hkind hlay hff (hty j hj) (v := .int (Int32.ofInt v)) (by rw [ht]; rfl) (by rw [ht]; rfl)
  have hk9 : k < 1000 := Nat.lt_of_lt_of_le hk (Nat.le_trans hi.1.2 (by decide))
  refine W.putK hc.1 hc.2.1 (f := f) ⟨hc.2.2.2.1, hc.2.2.2.2 _ hlk, ⟨_, _, _, hff⟩, hst⟩ (by rw [q2]; exact h6) q1 q3 (by rw [hsl]; exact k2_hasslot (q4 j hj)) rfl rfl hd1 (fun H1 e1 e2 e3 => ?_)
  rw [hsl] at e1 ⊢
  have hI1 : Invq G (n0, ρ, upq σ k j v) s H1 := by
    refine hi.put hk (nho hs (by omega)) e2 e3 ?_ (fun _ _ => rfl) (fun a ha => upq_ne ha)
    rw [cellq_obj hci hs]
    refine t_OB.to (V := updV (fun j => fvl G ci ρ σ k j) j (.int (Int32.ofInt v))) ⟨_, e1, q2, q3, t_set q4 hap hj _⟩ (fun i _ => ?_)
    unfold fvl
    rw [upq_eq]
    by_cases q : i = j
    · subst q
      rw [if_pos hI, if_pos rfl]
      simp [updV]
    · rw [if_neg (show ¬ (i : Int) = (j : Int) by omega)]
      simp [updV, q]
  exact kk p e s m args below meth c H1 _ Z ls hc hn hks hr hI1 (locs_add hlo hk9) hl
theorem x_putR {r : Nat} (hd : dok M.2.1 (pc, .putfield idx, 3, nx, tg)) (hf : flq M.1.cls idx ci N j z false true) (hs : shp k = (ci, N)) (hk : k < n0) (hin2 : M.1.name = "<init>") (hown : vwCl[ci]?.map (·.1) = some M.1.cls) (kk : RunX l G M R nx L st (n0, upq ρ k z (some r), σ) ca sl Q) : RunX l G M R pc L (vr r :: vr k :: st) (n0, ρ, σ) ca sl Q := by
  intro p e s m args below meth c H locs Z ls hc hn hks hr hi hlo hl
  obtain ⟨hd1, hd2, hd3⟩ := hd
  dsimp only at hd1 hd2 hd3
  subst hd2
  obtain ⟨C, T, ty, ⟨hcl, hin, hty, hnm, hci⟩, hj, hz, hlk, hI, hfin, hTC, ht⟩ := hf
  subst hz
  rw [hcl] at hown
  have hown : C = M.1.cls := Option.some.inj hown
  have ht : (∃ n, ty j = .object n) ∨ ∃ t, ty j = .array t := ht
  have hap := va_apart (own := M.1.cls) hc.2.2.2.2 hin ty hty hnm hks.1 hcl
  have hce := hi.2.2 k hk
  rw [cellq_obj hci hs] at hce
  obtain ⟨cell, q1, q2, q3, q4⟩ := hce
  obtain ⟨hS, hfc, kC, hkC, hkind⟩ := hks.1.1 ci _ hcl
  obtain ⟨cf, kf, fi, f, hff, hsl⟩ := hS j hj
  have hlay := hc.2.2.2.2 _ (hin _ (u_in_lay hj))
  unfold u_lay at hlay
  rw [if_pos hfin] at hlay
  have hst := (u_facts hfc hkC (u_lays hc.2.2.2.2 hin hj) hff).1
  have hcf : m.cls = cf := by
    obtain ⟨_, _, c', _, _, _, -, -, hf', -, -, -, hown2, -⟩ := Cond.laysFinal_spec hlay
    have e1 : c' = cf := by have := hff.symm.trans hf'; simp at this; exact this.1.symm
    rw [hTC, hown] at hown2
    rw [← e1]; exact Option.some.inj (hc.2.2.2.1.symm.trans hown2)
  have h6 := u_fits hfc hkC hkind (Or.inr hlay) hff (hty j hj) (v := .ref (adr G r)) (by rcases ht with ⟨n, h⟩ | ⟨n, h⟩ <;> rw [h] <;> rfl) (by rcases ht with ⟨n, h⟩ | ⟨n, h⟩ <;> rw [h] <;> rfl)
  have hk9 : k < 1000 := Nat.lt_of_lt_of_le hk (Nat.le_trans hi.1.2 (by decide))
  refine W.putFinK hc.1 hc.2.1 hc.2.2.2.1 (hc.2.2.2.2 _ hlk) hff hst hcf (hn.trans hin2) (by rw [q2]; exact h6) q1 q3 (by rw [hsl]; exact k2_hasslot (q4 j hj)) rfl rfl hd1 (fun H1 e1 e2 e3 => ?_)
  rw [hsl] at e1 ⊢
  have hI1 : Invq G (n0, upq ρ k j (some r), σ) s H1 := by
    refine hi.put hk (nho hs (by omega)) e2 e3 ?_ (fun a ha => upq_ne ha) (fun _ _ => rfl)
    rw [cellq_obj hci hs]
    refine t_OB.to (V := updV (fun j => fvl G ci ρ σ k j) j (.ref (adr G r))) ⟨_, e1, q2, q3, t_set q4 hap hj _⟩ (fun i _ => ?_)
    unfold fvl
    rw [upq_eq]
    by_cases q : i = j
    · subst q
      rw [if_neg (by rw [hI]; decide), if_pos rfl]
      simp [updV, crf]
    · rw [if_neg (show ¬ (i : Int) = (j : Int) by omega)]
      simp [updV, q]
  exact kk p e s m args below meth c H1 _ Z ls hc hn hks hr hI1 (locs_add hlo hk9) hl
theorem x_ret {r : Option AV} (hd : dok M.2.1 (pc, rinq r, 1, nx, tg)) (hok : rokq M.2.2.2 r) (h1 : ca ≤ R.cells) (h2 : sl ≤ R.slots) (hq : Q r S) : RunX l G M R pc L r.toList S ca sl Q := by
  intro p e s m args below meth c H locs Z ls hc hn hks hr hi hlo hl
  exact hr r S pc ls H locs ca sl hq hok hd.1 hi hlo h1 h2
theorem x_iret {z : Int} (hd : dok M.2.1 (pc, .ireturn, 1, nx, tg)) (hok : rokq M.2.2.2 (some (vi z))) (hq : Q (some (vi z)) S) : RunX l G M R pc L [vi z] S 0 0 Q := x_ret (r := some (vi z)) hd hok (Nat.zero_le _) (Nat.zero_le _) hq
theorem x_aret {z : Nat} (hd : dok M.2.1 (pc, .areturn, 1, nx, tg)) (hok : rokq M.2.2.2 (some (vr z))) (hq : Q (some (vr z)) S) : RunX l G M R pc L [vr z] S 0 0 Q := x_ret (r := some (vr z)) hd hok (Nat.zero_le _) (Nat.zero_le _) hq
theorem x_vret (hd : dok M.2.1 (pc, .return_, 1, nx, tg)) (hok : rokq M.2.2.2 none) (h1 : ca ≤ R.cells) (h2 : sl ≤ R.slots) (hq : Q none S) : RunX l G M R pc L [] S ca sl Q := x_ret (r := none) hd hok h1 h2 hq
/-- what follows may be asked of less -/
theorem RunX.mono {Q' : Option AV → WS → Prop} (h : RunX l G M R pc L st S ca sl Q) (hQ : ∀ r S', Q r S' → Q' r S') : RunX l G M R pc L st S ca sl Q' := by
  intro p e s m args below meth c H locs Z ls hc hn hks hr hi hlo hl
  exact h p e s m args below meth c H locs Z ls hc hn hks (fun r S' pc' ls' H' locs' ca' sl' hq => hr r S' pc' ls' H' locs' ca' sl' (hQ r S' hq)) hi hlo hl
end XF
/-! contracts -/
def rmq (d mc ms : Nat) : Room := { frames := d, cells := mc, slots := ms, locals := 40 * d }
def Cwq (M : MI) : List Cond := Cond.code M.1 M.2.1 M.2.2.1 M.2.2.2 :: tbG
def Qcq (G : GC) (Q : Option AV → WS → Prop) : Array Value → State → Outcome → State → Prop := fun _ _ o t => ∃ (r : Option AV) (S' : WS), o = .returned (r.map (cvl G)) ∧ Q r S' ∧ Invq G S' t t.heap
def Ct (l : Launch) (G : GC) (M : MI) (d mc ms : Nat) (As : List AV) (S : WS) (Q : Option AV → WS → Prop) : Prop := Met l M.1 (Cwq M) (rmq d mc ms) (va_Pc (As.map (cvl G)) (fun U => Invq G S U U.heap ∧ Kst G U)) (Qcq G Q) mc ms (fun q => G.1 ≤ q)
def eLq : List AV → List (Option AV)
  | [] => []
  | .inr (.inl z) :: vs => some (vl z) :: none :: eLq vs
  | v :: vs => some v :: eLq vs
theorem eLq_pr {G : GC} : ∀ (vs : List AV) (n : Nat), prL G n (eLq vs) = lv_args n (vs.map (cvl G))
  | [], n => rfl
  | .inr (.inl z) :: vs, n => by
    show (n, cvl G (vl z)) :: prL G (n + 2) (eLq vs) = _
    rw [eLq_pr vs]; rfl
  | .inl z :: vs, n => by
    show (n, cvl G (vi z)) :: prL G (n + 1) (eLq vs) = _
    rw [eLq_pr vs]; rfl
  | .inr (.inr none) :: vs, n => by
    show (n, _) :: prL G (n + 1) (eLq vs) = _
    rw [eLq_pr vs]; rfl
  | .inr (.inr (some k)) :: vs, n => by
    show (n, _) :: prL G (n + 1) (eLq vs) = _
    rw [eLq_pr vs]; rfl
theorem eLq_len {G : GC} : ∀ (vs : List AV), (lg_sl (vs.map (cvl G))).length = (eLq vs).length
  | [] => rfl
  | .inr (.inl z) :: vs => by
    have := eLq_len (G := G) vs
    show (Slot.val _ :: Slot.second :: lg_sl (vs.map (cvl G))).length = _
    simp [eLq, this]
  | .inl z :: vs => by
    have := eLq_len (G := G) vs
    show (Slot.val _ :: lg_sl (vs.map (cvl G))).length = _
    simp [eLq, this]
  | .inr (.inr none) :: vs => by
    have := eLq_len (G := G) vs
    show (Slot.val _ :: lg_sl (vs.map (cvl G))).length = _
    simp [eLq, this]
  | .inr (.inr (some k)) :: vs => by
    have := eLq_len (G := G) vs
    show (Slot.val _ :: lg_sl (vs.map (cvl G))).length = _
    simp [eLq, this]
theorem Ct.of {l : Launch} {G : GC} {M : MI} {d mc ms : Nat} {As : List AV} {S : WS} {Q : Option AV → WS → Prop} (hy : plainName M.1.cls = true) (hlen : (eLq As).length ≤ M.2.2.1) (h : RunX l G M (rmq d mc ms) 0 (eLq As) [] S 0 0 Q) : Ct l G M d mc ms As S Q := by
  refine Met.ofW (cc := M.2.1) (maxL := M.2.2.1) (ret := M.2.2.2) hy rfl ?_
  intro p e s m args below meth c s₁ B hml hv
  obtain ⟨rfl, hI, hK⟩ := hv
  have hts := atoms_spec (ws := Cwq M) B.pre
  have hown : s.vm.findClass M.1.cls = some m.cls := findClass_of_methodNamed B.named
  have hlocks := B.notSynchronized
  have hin : meth.name = M.1.name := (name_of_methodNamed B.named B.method).1
  have hr := B.returns
  have hl0 := lv_entry (As.map (cvl G)) (n := M.2.2.1) (by rw [eLq_len]; exact hlen)
  rw [lg_entry_eq]
  generalize (lg_sl (As.map (cvl G)) ++ List.replicate (M.2.2.1 - (lg_sl (As.map (cvl G))).length) Slot.unset).toArray = ls at hl0 ⊢
  have hl : lh G ls M.2.2.1 (eLq As) := by
    unfold lh
    rw [eLq_pr]
    exact hl0
  refine h p e s m _ below meth c s.heap [] _ ls ⟨B.exec, B.bytes, hml, hown, fun w hw => hts w (List.mem_cons_of_mem _ hw)⟩ hin hK ?_ hI (fun q hq => by cases hq) hl
  intro r S' pc' ls' H' locs' ca' sl' hq hok hdec hI' hlo h1 h2
  have h1 : ca' ≤ mc := h1
  have h2 : sl' ≤ ms := h2
  refine W.widen h1 h2 ?_
  have hpost : ∀ t : State, t.heap = H' → s.WarmedH t.vm → Qcq G Q (As.map (cvl G)).toArray s (.returned (r.map (cvl G))) t := fun t ht hW => ⟨r, S', rfl, hq, by rw [ht]; exact hI'.moved hW.alike⟩
  match hM : M.2.2.2, r, hok, hdec, hpost with
  | none, none, _, hdec, hpost => exact W.vret B.exec B.bytes (hr.trans hM) hpost hlo hdec
  | some .int, some (.inl z), _, hdec, hpost => exact W.iret (v := Int32.ofInt z) B.exec B.bytes (hr.trans hM) hpost hlo hdec
  | some .boolean, some (.inl z), hok, hdec, hpost =>
    have hok : z = 0 ∨ z = 1 := hok
    exact W.zret (v := Int32.ofInt z) B.exec B.bytes (hr.trans hM) (by rcases hok with rfl | rfl <;> rfl) hpost hlo hdec
  | some .byte, some (.inl z), hok, hdec, hpost =>
    have hok : z = 0 := hok
    exact W.zret (v := Int32.ofInt z) B.exec B.bytes (hr.trans hM) (by rw [hok]; rfl) hpost hlo hdec
  | some .char, some (.inl z), hok, hdec, hpost =>
    have hok : 0 ≤ z ∧ z < 65536 := hok
    refine W.zret (v := Int32.ofInt z) B.exec B.bytes (hr.trans hM) ?_ hpost hlo hdec
    have := (pk_charN (q := z.toNat) (by omega)).1
    rw [show nI z.toNat = Int32.ofInt z by unfold nI; rw [← Int32.ofInt_eq_ofNat, Int.toNat_of_nonneg hok.1]] at this
    exact this
  | some .long, some (.inr (.inl z)), _, hdec, hpost => exact W.lret (v := Int64.ofInt z) B.exec B.bytes (hr.trans hM) hpost hlo hdec
  | some (.object n), some (.inr (.inr (some k))), _, hdec, hpost => exact W.aret (v := .ref (adr G k)) B.exec B.bytes (hr.trans hM) (Or.inl ⟨n, rfl⟩) (Or.inr ⟨_, rfl⟩) hpost hlo hdec
theorem tbl_good : tbG.all goodWord = true := List.all_eq_true.mpr fun w hw => (List.mem_filter.mp hw).2
theorem Cwq_good {M : MI} (h : Cond.code M.1 M.2.1 M.2.2.1 M.2.2.2 ∈ tbG) : GoodIn tbG (Cwq M) := by
  intro w hw
  have hm : w ∈ tbG := by
    rcases List.mem_cons.mp hw with rfl | h1
    · exact h
    · exact h1
  exact ⟨hm, good_of_word (List.all_eq_true.mp tbl_good w hm)⟩
theorem good_in {w : Cond} (h : w ∈ tbG) : w ∈ tbG ∧ ((w.onTables && w.keeps) = true ∨ ∃ ty, w = .arrayClass ty) := ⟨h, good_of_word (List.all_eq_true.mp tbl_good w h)⟩
/-- what a call needs of the one that is called -/
def mokq (M : MI) (n : Nat) : Prop := Cond.code M.1 M.2.1 M.2.2.1 M.2.2.2 ∈ tbG ∧ Cond.initialized M.1.cls ∈ tbG ∧ (M.1.cls ≠ "java/lang/invoke/MethodHandle" ∧ M.1.cls ≠ "java/lang/invoke/VarHandle" ∧ (parseMethodDescriptor M.1.desc).map (fun d => d.parameters.length) = some n)
def mvq (M : MI) (n : Nat) : Prop := mokq M n ∧ Cond.instanceMethod M.1 ∈ tbG ∧ Cond.selects M.1.cls M.1 M.1 ∈ tbG
def msq (M : MI) (n : Nat) : Prop := mokq M n ∧ Cond.static M.1 ∈ tbG
def miq (M : MI) (n : Nat) : Prop := mokq M n ∧ Cond.instanceMethod M.1 ∈ tbG ∧ M.1.name = "<init>" ∧ M.2.2.2 = none
theorem Invq.blind {G : GC} {S : WS} {av : List Value} : FrameBlind (va_Pc av (fun U => Invq G S U U.heap ∧ Kst G U)) := by
  intro a U g mk q
  obtain ⟨q0, q1, q2⟩ := q
  exact ⟨q0, Invq.moved (u := U) (U := U.calling g mk a) (Vm.Alike.refl U.vm) q1, Kst.same rfl q2⟩
section XC
variable {l : Launch} {G : GC} {M : MI} {R : Room} {pc nx tg : Nat} {L : List (Option AV)} {st rest : List AV} {S : WS} {ca sl : Nat} {Q : Option AV → WS → Prop}
variable {K : MI} {d mc ms n idx : Nat} {As : List AV} {Q1 : Option AV → WS → Prop}
def catq (st : List AV) : Nat := match st with
  | [] => 0
  | .inr (.inl _) :: r => 2 + catq r
  | _ :: r => 1 + catq r
theorem catq_sum {G : GC} : ∀ st : List AV, ((st.map (cvl G)).map fun v => v.category).sum = catq st
  | [] => rfl
  | .inr (.inl z) :: r => by
    rw [List.map_cons, List.map_cons, List.sum_cons, catq_sum r]; rfl
  | .inl z :: r => by
    rw [List.map_cons, List.map_cons, List.sum_cons, catq_sum r]; rfl
  | .inr (.inr none) :: r => by
    rw [List.map_cons, List.map_cons, List.sum_cons, catq_sum r]; rfl
  | .inr (.inr (some k)) :: r => by
    rw [List.map_cons, List.map_cons, List.sum_cons, catq_sum r]; rfl
/-- a call that has run: the caller goes on -/
theorem x_back {p : Program} {e : Env} {s : State} {m : MethodId} {args a : Array Value} {below : List Frame} {meth : Method} {c : Code} {H : Heap} {locs : List Loc} {Z : State → Prop} {ls : Array Slot} {st0 : List Value}
    (hrun : va_Run p l e R s m args below meth c H locs ca sl mc ms (F0 m pc ls st0) (rest.map (cvl G)) (Qcq G Q1 a) (fun q => G.1 ≤ q)) (hlo : ∀ q ∈ locs, G.1 ≤ q.base)
    (kk : ∀ (r : Option AV) (S' : WS) (H1 : Heap) (locs1 : List Loc), Q1 r S' → Invq G S' s H1 → (∀ q ∈ locs1, G.1 ≤ q.base) → W p l e R s m args below meth c H1 locs1 (ca + mc) (sl + ms) Z (F0 m (pc + 3) ls ((r.toList ++ rest).map (cvl G)))) : W p l e R s m args below meth c H locs ca sl Z (F0 m pc ls st0) := by
  intro T hT X
  obtain ⟨v, st₀, t, T', L, h0, X', hL, e1, e2, ⟨r, S', hv, hq, hI⟩, st⟩ := hrun T hT X
  cases hv
  have hI2 : Invq G S' s T'.heap := by
    rw [e1]
    exact hI.moved (by rw [← e2]; exact X'.warmed.alike.symm)
  obtain ⟨t2, a1, b1⟩ := kk r S' T'.heap (locs ++ L) hq hI2 (fun q hq => by
    rcases List.mem_append.mp hq with h | h
    · exact hlo q h
    · exact hL q h) T' rfl X'
  refine ⟨t2, st t2 ?_, b1⟩
  have hst : (r.map (cvl G)).toList ++ rest.map (cvl G) = (r.toList ++ rest).map (cvl G) := by cases r <;> simp
  show Steps p.tables e below (T'.setTop { (F0 m pc ls st0) with pc := pc + 3, stack := (r.map (cvl G)).toList ++ rest.map (cvl G) }) t2
  rw [hst]
  exact a1
theorem x_callV {k ci N : Nat} (hd : dok M.2.1 (pc, .invokevirtual idx, 3, nx, tg)) (hlk : Cond.methodLink M.1.cls idx K.1 ∈ tbG) (hm : mvq K n) (hs : shp k = (ci, N)) (hk : k < S.1) (hcc : ci < 12 ∧ vwCl[ci]?.map (·.1) = some K.1.cls) (hct : Ct l G K d mc ms (vr k :: As) S Q1) (hR : d + 1 ≤ R.frames ∧ 8 + (K.2.2.1 + 11) + 40 * d ≤ R.locals) (hca : ca + mc ≤ R.cells ∧ sl + ms ≤ R.slots) (hst : st = As.reverse ++ vr k :: rest) (hn : As.length = n) (hcat : catq rest ≤ 8)
    (kk : ∀ (r : Option AV) (S' : WS), Q1 r S' → RunX l G M R nx L (r.toList ++ rest) S' (ca + mc) (sl + ms) Q) : RunX l G M R pc L st S ca sl Q := by
  intro p e s m args below meth c H locs Z ls hc hnm hks hr hi hlo hl
  obtain ⟨hd1, hd2, hd3⟩ := hd
  dsimp only at hd1 hd2 hd3
  subst hd2
  subst hst
  obtain ⟨⟨m1, m2, m3⟩, m4, m5⟩ := hm
  obtain ⟨hci, hcls⟩ := hcc
  have hT : GoodIn tbG (wsV M.1.cls idx K.1.cls K.1 (Cwq K)) := by
    intro w hw
    rcases List.mem_append.mp hw with h | h
    · simp only [List.mem_cons, List.not_mem_nil, or_false] at h
      rcases h with rfl | rfl | rfl | rfl
      · exact good_in hlk
      · exact good_in m4
      · exact good_in m5
      · exact good_in m2
    · exact Cwq_good m1 w h
  have hce := hi.2.2 k hk
  rw [cellq_obj hci hs] at hce
  obtain ⟨cell, q1, q2, q3, q4⟩ := hce
  refine x_back (rest := rest) (hrun := va_runV (As := As.map (cvl G)) hc hct (cwV (bytes := K.2.1) (maxL := K.2.2.1) (ret := K.2.2.2) n hc.2.2.2.2 hT rfl rfl rfl ⟨rfl, m3⟩ hR) (b := adr G k) ⟨Invq.blind, ?_, fun U hU hW => ⟨rfl, by rw [hU]; exact hi.moved hW.alike, hks.warm hW⟩⟩ rfl (by rw [List.length_map]; exact hn) hl.1 (by show List.map (cvl G) (As.reverse ++ vr k :: rest) = _; rw [List.map_append, List.map_reverse]; rfl) (lv_room (by rw [catq_sum]; exact hcat)) hd1 hca) hlo ?_
  · cases hv : vwCl[ci]? with
    | none => rw [hv] at hcls; cases hcls
    | some q =>
      rw [hv] at hcls
      obtain ⟨-, hfc, -⟩ := hks.1.1 ci q hv
      refine ⟨cell, q1, by rw [q3]; rfl, ?_⟩
      rw [q2, ← hfc, show K.1.cls = q.1 from (Option.some.inj hcls).symm]
  · intro r S' H1 locs1 hq hI hlo1
    exact kk r S' hq p e s m args below meth c H1 locs1 Z ls hc hnm hks hr hI hlo1 hl
theorem x_callS (hd : dok M.2.1 (pc, .invokestatic idx, 3, nx, tg)) (hlk : Cond.methodLink M.1.cls idx K.1 ∈ tbG) (hm : msq K n) (hct : Ct l G K d mc ms As S Q1) (hR : d + 1 ≤ R.frames ∧ 8 + (K.2.2.1 + 11) + 40 * d ≤ R.locals) (hca : ca + mc ≤ R.cells ∧ sl + ms ≤ R.slots) (hst : st = As.reverse ++ rest) (hn : As.length = n) (hcat : catq rest ≤ 8)
    (kk : ∀ (r : Option AV) (S' : WS), Q1 r S' → RunX l G M R nx L (r.toList ++ rest) S' (ca + mc) (sl + ms) Q) : RunX l G M R pc L st S ca sl Q := by
  intro p e s m args below meth c H locs Z ls hc hnm hks hr hi hlo hl
  obtain ⟨hd1, hd2, hd3⟩ := hd
  dsimp only at hd1 hd2 hd3
  subst hd2
  subst hst
  obtain ⟨⟨m1, m2, m3⟩, m4⟩ := hm
  have hT : GoodIn tbG (va_wsS M.1.cls idx K.1 (Cwq K)) := by
    intro w hw
    rcases List.mem_append.mp hw with h | h
    · simp only [List.mem_cons, List.not_mem_nil, or_false] at h
      rcases h with rfl | rfl | rfl
      · exact good_in hlk
      · exact good_in m4
      · exact good_in m2
    · exact Cwq_good m1 w h
  refine x_back (rest := rest) (hrun := va_runS (As := As.map (cvl G)) hc hct (va_cwS (bytes := K.2.1) (maxL := K.2.2.1) (ret := K.2.2.2) n hc.2.2.2.2 hT rfl rfl rfl m3 hR) ⟨Invq.blind, fun U hU hW => ⟨rfl, by rw [hU]; exact hi.moved hW.alike, hks.warm hW⟩⟩ rfl (by rw [List.length_map]; exact hn) hl.1 (by show List.map (cvl G) (As.reverse ++ rest) = _; rw [List.map_append, List.map_reverse]) (lv_room (by rw [catq_sum]; exact hcat)) hd1 hca) hlo ?_
  intro r S' H1 locs1 hq hI hlo1
  exact kk r S' hq p e s m args below meth c H1 locs1 Z ls hc hnm hks hr hI hlo1 hl
theorem x_callSN {host : String} (hd : dok M.2.1 (pc, .invokestatic idx, 3, nx, tg)) (hlk : (M.1.cls, idx, K.1, host) ∈ nstq) (hm : msq K n) (hct : Ct l G K d mc ms As S Q1) (hR : d + 1 ≤ R.frames ∧ 8 + (K.2.2.1 + 11) + 40 * d ≤ R.locals) (hca : ca + mc ≤ R.cells ∧ sl + ms ≤ R.slots) (hst : st = As.reverse ++ rest) (hn : As.length = n) (hcat : catq rest ≤ 8)
    (kk : ∀ (r : Option AV) (S' : WS), Q1 r S' → RunX l G M R nx L (r.toList ++ rest) S' (ca + mc) (sl + ms) Q) : RunX l G M R pc L st S ca sl Q := by
  intro p e s m args below meth c H locs Z ls hc hnm hks hr hi hlo hl
  obtain ⟨hd1, hd2, hd3⟩ := hd
  dsimp only at hd1 hd2 hd3
  subst hd2
  subst hst
  obtain ⟨⟨m1, m2, m3⟩, m4⟩ := hm
  have hnw : va_Nw (.methodLinkNest M.1.cls idx K.1 host) s := hks.2.2.2.2.2.2.2.1 _ hlk
  refine x_back (rest := rest) (hrun := va_runSN (As := As.map (cvl G)) (host := host) hc hct ⟨va_cnB (bytes := K.2.1) (maxL := K.2.2.1) (ret := K.2.2.2) n hc.2.2.2.2 (Cwq_good m1) rfl rfl rfl hnw (hc.2.2.2.2 _ m2) m3 hR, hc.2.2.2.2 _ m4, trivial⟩ ⟨Invq.blind, fun U hU hW => ⟨rfl, by rw [hU]; exact hi.moved hW.alike, hks.warm hW⟩⟩ rfl (by rw [List.length_map]; exact hn) hl.1 (by show List.map (cvl G) (As.reverse ++ rest) = _; rw [List.map_append, List.map_reverse]) (lv_room (by rw [catq_sum]; exact hcat)) hd1 hca) hlo ?_
  intro r S' H1 locs1 hq hI hlo1
  exact kk r S' hq p e s m args below meth c H1 locs1 Z ls hc hnm hks hr hI hlo1 hl
theorem x_callI {k : Nat} (hd : dok M.2.1 (pc, .invokespecial idx, 3, nx, tg)) (hlk : Cond.methodLink M.1.cls idx K.1 ∈ tbG) (hm : miq K n) (hct : Ct l G K d mc ms (vr k :: As) S Q1) (hR : d + 1 ≤ R.frames ∧ 8 + (K.2.2.1 + 11) + 40 * d ≤ R.locals) (hca : ca + mc ≤ R.cells ∧ sl + ms ≤ R.slots) (hst : st = As.reverse ++ vr k :: rest) (hn : As.length = n) (hcat : catq rest ≤ 8)
    (kk : ∀ (r : Option AV) (S' : WS), Q1 r S' → RunX l G M R nx L (r.toList ++ rest) S' (ca + mc) (sl + ms) Q) : RunX l G M R pc L st S ca sl Q := by
  intro p e s m args below meth c H locs Z ls hc hnm hks hr hi hlo hl
  obtain ⟨hd1, hd2, hd3⟩ := hd
  dsimp only at hd1 hd2 hd3
  subst hd2
  subst hst
  obtain ⟨⟨m1, m2, m3⟩, m4, m5, m6⟩ := hm
  have m1' := m1
  rw [m6] at m1'
  refine x_back (rest := rest) (hrun := va_runI (As := As.map (cvl G)) (b := adr G k) hc hct (cwI (bytes := K.2.1) (maxL := K.2.2.1) n hc.2.2.2.2 (Cwq_good m1) (by unfold Cwq; rw [m6]) rfl rfl (hc.2.2.2.2 _ m2) (hc.2.2.2.2 _ hlk) (hc.2.2.2.2 _ m4) m5 m3 hR) ⟨Invq.blind, fun U hU hW => ⟨rfl, by rw [hU]; exact hi.moved hW.alike, hks.warm hW⟩⟩ rfl (by rw [List.length_map]; exact hn) hl.1 (by show List.map (cvl G) (As.reverse ++ vr k :: rest) = _; rw [List.map_append, List.map_reverse]; rfl) (lv_room (by rw [catq_sum]; exact hcat)) hd1 hca) hlo ?_
  intro r S' H1 locs1 hq hI hlo1
  exact kk r S' hq p e s m args below meth c H1 locs1 Z ls hc hnm hks hr hI hlo1 hl
theorem x_callIN {k : Nat} {host : String} (hd : dok M.2.1 (pc, .invokespecial idx, 3, nx, tg)) (hlk : (M.1.cls, idx, K.1, host) ∈ nstq) (hm : miq K n) (hct : Ct l G K d mc ms (vr k :: As) S Q1) (hR : d + 1 ≤ R.frames ∧ 8 + (K.2.2.1 + 11) + 40 * d ≤ R.locals) (hca : ca + mc ≤ R.cells ∧ sl + ms ≤ R.slots) (hst : st = As.reverse ++ vr k :: rest) (hn : As.length = n) (hcat : catq rest ≤ 8)
    (kk : ∀ (r : Option AV) (S' : WS), Q1 r S' → RunX l G M R nx L (r.toList ++ rest) S' (ca + mc) (sl + ms) Q) : RunX l G M R pc L st S ca sl Q := by
  intro p e s m args below meth c H locs Z ls hc hnm hks hr hi hlo hl
  obtain ⟨hd1, hd2, hd3⟩ := hd
  dsimp only at hd1 hd2 hd3
  subst hd2
  subst hst
  obtain ⟨⟨m1, m2, m3⟩, m4, m5, m6⟩ := hm
  have hnw : va_Nw (.methodLinkNest M.1.cls idx K.1 host) s := hks.2.2.2.2.2.2.2.1 _ hlk
  refine x_back (rest := rest) (hrun := va_runIN (As := As.map (cvl G)) (host := host) (b := adr G k) hc hct ⟨va_cnB (bytes := K.2.1) (maxL := K.2.2.1) n hc.2.2.2.2 (Cwq_good m1) (by unfold Cwq; rw [m6]) rfl rfl hnw (hc.2.2.2.2 _ m2) m3 hR, m5, hc.2.2.2.2 _ m4⟩ ⟨Invq.blind, fun U hU hW => ⟨rfl, by rw [hU]; exact hi.moved hW.alike, hks.warm hW⟩⟩ rfl (by rw [List.length_map]; exact hn) hl.1 (by show List.map (cvl G) (As.reverse ++ vr k :: rest) = _; rw [List.map_append, List.map_reverse]; rfl) (lv_room (by rw [catq_sum]; exact hcat)) hd1 hca) hlo ?_
  intro r S' H1 locs1 hq hI hlo1
  exact kk r S' hq p e s m args below meth c H1 locs1 Z ls hc hnm hks hr hI hlo1 hl
end XC
