/-! THE OWN MACHINE'S JUDGEMENT: from a frame at pc with locals L and stack st in the world S the method returns, and Q holds of answer and world. -/
abbrev En : Type := Nat × Instr × Nat × Nat × Nat
def jofq (i : Instr) : Option Int := match i with
  | .goto o => some o
  | .ifCond _ o => some o
  | .if_icmp _ o => some o
  | _ => none
/-- an entry of a code list: its place, instruction, length, the next place, the place that it jumps to -/
def dok (cc : ByteArray) (e : En) : Prop := decode cc e.1 = .ok (e.2.1, e.2.2.1) ∧ e.1 + e.2.2.1 = e.2.2.2.1 ∧ ∀ o, jofq e.2.1 = some o → (e.1 : Int) + o = (e.2.2.2.2 : Int)
def dokb (cc : ByteArray) (e : En) : Bool := decide (decode cc e.1 = .ok (e.2.1, e.2.2.1)) && (decide (e.1 + e.2.2.1 = e.2.2.2.1) && (match jofq e.2.1 with
  | some o => decide ((e.1 : Int) + o = (e.2.2.2.2 : Int))
  | none => true))
theorem dok_of {cc : ByteArray} {e : En} (h : dokb cc e = true) : dok cc e := by
  unfold dokb at h
  rw [Bool.and_eq_true, Bool.and_eq_true] at h
  refine ⟨of_decide_eq_true h.1, of_decide_eq_true h.2.1, fun o ho => ?_⟩
  have h3 := h.2.2
  rw [ho] at h3
  exact of_decide_eq_true h3
theorem dok_at {cc : ByteArray} {es : List En} (h : es.all (dokb cc) = true) : ∀ {e : En} (i : Nat), nthq es i = some e → dok cc e := by
  intro e i hi
  refine dok_of (List.all_eq_true.mp h e ?_)
  clear h
  induction es generalizing i with
  | nil => cases hi
  | cons a l ih =>
    cases i with
    | zero => cases hi; exact List.mem_cons_self
    | succ i => exact List.mem_cons_of_mem _ (ih i hi)
def rokq (ret : Option FieldType) (r : Option AV) : Prop := match ret, r with
  | none, none => True
  | some .int, some (.inl _) => True
  | some .boolean, some (.inl z) => z = 0 ∨ z = 1
  | some .byte, some (.inl z) => z = 0
  | some .char, some (.inl z) => 0 ≤ z ∧ z < 65536
  | some .long, some (.inr (.inl _)) => True
  | some (.object _), some (.inr (.inr (some _))) => True
  | _, _ => False
def rinq (r : Option AV) : Instr := match r with
  | none => .return_
  | some (.inl _) => .ireturn
  | some (.inr (.inl _)) => .lreturn
  | some (.inr (.inr _)) => .areturn
def RunX (l : Launch) (G : GC) (M : MI) (R : Room) (pc : Nat) (L : List (Option AV)) (st : List AV) (S : WS) (ca sl : Nat) (Q : Option AV → WS → Prop) : Prop :=
  ∀ (p : Program) (e : Env) (s : State) (m : MethodId) (args : Array Value) (below : List Frame) (meth : Method) (c : Code) (H : Heap) (locs : List Loc) (Z : State → Prop) (ls : Array Slot),
    CallFix p m c M.2.1 M.2.2.1 s args tbG M.1.cls → meth.name = M.1.name → Kst G s →
    (∀ (r : Option AV) (S' : WS) (pc' : Nat) (ls' : Array Slot) (H' : Heap) (locs' : List Loc) (ca' sl' : Nat), Q r S' → rokq M.2.2.2 r → decode M.2.1 pc' = .ok (rinq r, 1) → Invq G S' s H' → (∀ q ∈ locs', G.1 ≤ q.base) → ca' ≤ R.cells → sl' ≤ R.slots →
      W p l e R s m args below meth c H' locs' ca' sl' Z (F0 m pc' ls' (r.toList.map (cvl G)))) →
    Invq G S s H → (∀ q ∈ locs, G.1 ≤ q.base) → lh G ls M.2.2.1 L →
    W p l e R s m args below meth c H locs ca sl Z (F0 m pc ls (st.map (cvl G)))
/-! numbers -/
abbrev rgi (z : Int) : Prop := -2147483648 ≤ z ∧ z < 2147483648
abbrev rgl (z : Int) : Prop := -9223372036854775808 ≤ z ∧ z < 9223372036854775808
theorem o32 {z : Int} (h : rgi z) : (Int32.ofInt z).toInt = z := by
  have q : (Int32.size : Int) = 4294967296 := rfl
  rw [Int32.toInt_ofInt, Int.bmod_eq_of_le (by omega) (by omega)]
theorem o64 {z : Int} (h : rgl z) : (Int64.ofInt z).toInt = z := by
  have q : (Int64.size : Int) = 18446744073709551616 := rfl
  rw [Int64.toInt_ofInt, Int.bmod_eq_of_le (by omega) (by omega)]
theorem o32_lt {x y : Int} (hx : rgi x) (hy : rgi y) : Int32.ofInt x < Int32.ofInt y ↔ x < y := by rw [Int32.lt_iff_toInt_lt, o32 hx, o32 hy]
theorem o32_le {x y : Int} (hx : rgi x) (hy : rgi y) : Int32.ofInt x ≤ Int32.ofInt y ↔ x ≤ y := by rw [Int32.le_iff_toInt_le, o32 hx, o32 hy]
theorem o32_eq {x y : Int} (hx : rgi x) (hy : rgi y) : Int32.ofInt x = Int32.ofInt y ↔ x = y := by rw [← Int32.toInt_inj, o32 hx, o32 hy]
theorem o64_lt {x y : Int} (hx : rgl x) (hy : rgl y) : Int64.ofInt x < Int64.ofInt y ↔ x < y := by rw [Int64.lt_iff_toInt_lt, o64 hx, o64 hy]
theorem o64_eq {x y : Int} (hx : rgl x) (hy : rgl y) : Int64.ofInt x = Int64.ofInt y ↔ x = y := by rw [← Int64.toInt_inj, o64 hx, o64 hy]
theorem o32_0 : (0 : Int32) = Int32.ofInt 0 := rfl
theorem o32_ix {i : Int} (h0 : 0 ≤ i) (h1 : i < 2147483648) : (Int32.ofInt i).toNatClampNeg = i.toNat := by
  rw [Int32.toNatClampNeg, o32 ⟨by omega, h1⟩]
theorem o32_in {i : Int} {n : Nat} (h : 0 ≤ i ∧ i < n) (hn : n ≤ 100000) : ¬ (Int32.ofInt i < 0 ∨ n ≤ (Int32.ofInt i).toNatClampNeg) := by
  rw [o32_0, o32_lt (by omega) (by decide), o32_ix h.1 (by omega)]
  omega
theorem o32_div {x y : Int} (hx : 0 ≤ x ∧ x < 2147483648) (hy : 0 < y ∧ y < 2147483648) : Int32.ofInt x / Int32.ofInt y = Int32.ofInt (x / y) := by
  rw [← Int32.toInt_inj, Int32.toInt_div, o32 (by omega), o32 (by omega), Int.tdiv_eq_ediv_of_nonneg hx.1]
  have h1 : x / y ≤ x := Int.ediv_le_self _ hx.1
  have h2 : 0 ≤ x / y := Int.ediv_nonneg hx.1 (by omega)
  rw [o32 (by omega), Int.bmod_eq_of_le (by omega) (by omega)]
theorem o64_div {x y : Int} (hx : 0 ≤ x ∧ x < 9223372036854775808) (hy : 0 < y ∧ y < 9223372036854775808) : Int64.ofInt x / Int64.ofInt y = Int64.ofInt (x / y) := by
  rw [← Int64.toInt_inj, Int64.toInt_div, o64 (by omega), o64 (by omega), Int.tdiv_eq_ediv_of_nonneg hx.1]
  have h1 : x / y ≤ x := Int.ediv_le_self _ hx.1
  have h2 : 0 ≤ x / y := Int.ediv_nonneg hx.1 (by omega)
  rw [o64 (by omega), Int.bmod_eq_of_le (by omega) (by omega)]
/-- the bits' own words; lemmas on small numbers come later -/
def bAnd (x y : Int) : Int := (Int32.ofInt x &&& Int32.ofInt y).toInt
def bOr (x y : Int) : Int := (Int32.ofInt x ||| Int32.ofInt y).toInt
def bXor (x y : Int) : Int := (Int32.ofInt x ^^^ Int32.ofInt y).toInt
def bShl (x y : Int) : Int := (Int32.ofInt x <<< (Int32.ofInt y &&& 31)).toInt
def bShr (x y : Int) : Int := (Int32.ofInt x >>> (Int32.ofInt y &&& 31)).toInt
def bUsh (x y : Int) : Int := ((Int32.ofInt x).toUInt32 >>> ((Int32.ofInt y).toUInt32 &&& Int32.toUInt32 31)).toInt32.toInt
def lAnd (x y : Int) : Int := (Int64.ofInt x &&& Int64.ofInt y).toInt
def lOr (x y : Int) : Int := (Int64.ofInt x ||| Int64.ofInt y).toInt
def lShl (x y : Int) : Int := (Int64.ofInt x <<< ((Int32.ofInt y).toInt64 &&& 63)).toInt
def lShr (x y : Int) : Int := (Int64.ofInt x >>> ((Int32.ofInt y).toInt64 &&& 63)).toInt
def lUsh (x y : Int) : Int := ((Int64.ofInt x).toUInt64 >>> ((Int32.ofInt y).toInt64.toUInt64 &&& Int64.toUInt64 63)).toInt64.toInt
def lCmp (x y : Int) : Int := if y < x then 1 else if x = y then 0 else -1
def l2iq (x : Int) : Int := (Int64.ofInt x).toInt32.toInt
theorem shp_le : ∀ k, k < 175 → (shp k).2 ≤ 256 := by decide +kernel
section XR
variable {l : Launch} {G : GC} {M : MI} {R : Room} {pc nx tg : Nat} {L : List (Option AV)} {st : List AV} {S : WS} {ca sl : Nat} {Q : Option AV → WS → Prop}
theorem x_iconst {z : Int} (hd : dok M.2.1 (pc, .iconst z, 1, nx, tg)) (k : RunX l G M R nx L (vi z :: st) S ca sl Q) : RunX l G M R pc L (st) S ca sl Q := by
  intro p e s m args below meth c H locs Z ls hc hn hks hr hi hlo hl
  obtain ⟨hd1, hd2, hd3⟩ := hd
  dsimp only at hd1 hd2 hd3
  subst hd2
  have k1 := k p e s m args below meth c H locs Z ls hc hn hks hr hi hlo hl
  refine lv_iconst hc.1 hc.2.1 hd1 rfl ?_
  exact k1
theorem x_bipush {z w : Int} (hd : dok M.2.1 (pc, .bipush w, 2, nx, tg)) (hz : (Int8.ofInt w).toInt32 = Int32.ofInt z) (k : RunX l G M R nx L (vi z :: st) S ca sl Q) : RunX l G M R pc L (st) S ca sl Q := by
  intro p e s m args below meth c H locs Z ls hc hn hks hr hi hlo hl
  obtain ⟨hd1, hd2, hd3⟩ := hd
  dsimp only at hd1 hd2 hd3
  subst hd2
  have k1 := k p e s m args below meth c H locs Z ls hc hn hks hr hi hlo hl
  refine lv_bipush hc.1 hc.2.1 hd1 hz ?_
  exact k1
theorem x_sipush {z w : Int} (hd : dok M.2.1 (pc, .sipush w, 3, nx, tg)) (hz : (Int16.ofInt w).toInt32 = Int32.ofInt z) (k : RunX l G M R nx L (vi z :: st) S ca sl Q) : RunX l G M R pc L (st) S ca sl Q := by
  intro p e s m args below meth c H locs Z ls hc hn hks hr hi hlo hl
  obtain ⟨hd1, hd2, hd3⟩ := hd
  dsimp only at hd1 hd2 hd3
  subst hd2
  have k1 := k p e s m args below meth c H locs Z ls hc hn hks hr hi hlo hl
  refine lv_sipush hc.1 hc.2.1 hd1 hz ?_
  exact k1
theorem x_lconst {n : Fin 2} {z : Int} (hd : dok M.2.1 (pc, .lconst n, 1, nx, tg)) (hz : Int64.ofNat (n : Nat) = Int64.ofInt z) (k : RunX l G M R nx L (vl z :: st) S ca sl Q) : RunX l G M R pc L (st) S ca sl Q := by
  intro p e s m args below meth c H locs Z ls hc hn hks hr hi hlo hl
  obtain ⟨hd1, hd2, hd3⟩ := hd
  dsimp only at hd1 hd2 hd3
  subst hd2
  have k1 := k p e s m args below meth c H locs Z ls hc hn hks hr hi hlo hl
  refine lv_lconst hc.1 hc.2.1 hd1 hz ?_
  exact k1
theorem x_ldc {z : Int} {v : Int32} {idx : Nat} (hd : dok M.2.1 (pc, .ldc idx, 2, nx, tg)) (hw : Jvm.Cond.constant M.1.cls idx v ∈ tbG) (hz : v = Int32.ofInt z) (k : RunX l G M R nx L (vi z :: st) S ca sl Q) : RunX l G M R pc L (st) S ca sl Q := by
  intro p e s m args below meth c H locs Z ls hc hn hks hr hi hlo hl
  obtain ⟨hd1, hd2, hd3⟩ := hd
  dsimp only at hd1 hd2 hd3
  subst hd2
  have k1 := k p e s m args below meth c H locs Z ls hc hn hks hr hi hlo hl
  refine lv_ldc hc.1 hc.2.1 hc.2.2.2.1 (hc.2.2.2.2 _ hw) hd1 ?_
  rw [hz]
  exact k1
theorem x_ldc2 {z : Int} {v : Int64} {idx : Nat} (hd : dok M.2.1 (pc, .ldc2_w idx, 3, nx, tg)) (hw : Jvm.Cond.constantLong M.1.cls idx v ∈ tbG) (hz : v = Int64.ofInt z) (k : RunX l G M R nx L (vl z :: st) S ca sl Q) : RunX l G M R pc L (st) S ca sl Q := by
  intro p e s m args below meth c H locs Z ls hc hn hks hr hi hlo hl
  obtain ⟨hd1, hd2, hd3⟩ := hd
  dsimp only at hd1 hd2 hd3
  subst hd2
  have k1 := k p e s m args below meth c H locs Z ls hc hn hks hr hi hlo hl
  refine lv_ldc2 hc.1 hc.2.1 hc.2.2.2.1 (hc.2.2.2.2 _ hw) hd1 ?_
  rw [hz]
  exact k1
theorem x_iload_n {i : Fin 4} {z : Int} (hd : dok M.2.1 (pc, .iload_n i, 1, nx, tg)) (hv : nthq L (i : Nat) = some (some (vi z))) (k : RunX l G M R nx L (vi z :: st) S ca sl Q) : RunX l G M R pc L (st) S ca sl Q := by
  intro p e s m args below meth c H locs Z ls hc hn hks hr hi hlo hl
  obtain ⟨hd1, hd2, hd3⟩ := hd
  dsimp only at hd1 hd2 hd3
  subst hd2
  have k1 := k p e s m args below meth c H locs Z ls hc hn hks hr hi hlo hl
  refine lv_iload_n hc.1 hc.2.1 hd1 rfl (hl.at hv) ?_
  exact k1
theorem x_iload {i : Nat} {z : Int} (hd : dok M.2.1 (pc, .iload i, 2, nx, tg)) (hv : nthq L i = some (some (vi z))) (k : RunX l G M R nx L (vi z :: st) S ca sl Q) : RunX l G M R pc L (st) S ca sl Q := by
  intro p e s m args below meth c H locs Z ls hc hn hks hr hi hlo hl
  obtain ⟨hd1, hd2, hd3⟩ := hd
  dsimp only at hd1 hd2 hd3
  subst hd2
  have k1 := k p e s m args below meth c H locs Z ls hc hn hks hr hi hlo hl
  refine lv_iload hc.1 hc.2.1 hd1 (hl.at hv) ?_
  exact k1
theorem x_lload_n {i : Fin 4} {z : Int} (hd : dok M.2.1 (pc, .lload_n i, 1, nx, tg)) (hv : nthq L (i : Nat) = some (some (vl z))) (k : RunX l G M R nx L (vl z :: st) S ca sl Q) : RunX l G M R pc L (st) S ca sl Q := by
  intro p e s m args below meth c H locs Z ls hc hn hks hr hi hlo hl
  obtain ⟨hd1, hd2, hd3⟩ := hd
  dsimp only at hd1 hd2 hd3
  subst hd2
  have k1 := k p e s m args below meth c H locs Z ls hc hn hks hr hi hlo hl
  refine lv_lload_n hc.1 hc.2.1 hd1 rfl (hl.at hv) ?_
  exact k1
theorem x_lload {i : Nat} {z : Int} (hd : dok M.2.1 (pc, .lload i, 2, nx, tg)) (hv : nthq L i = some (some (vl z))) (k : RunX l G M R nx L (vl z :: st) S ca sl Q) : RunX l G M R pc L (st) S ca sl Q := by
  intro p e s m args below meth c H locs Z ls hc hn hks hr hi hlo hl
  obtain ⟨hd1, hd2, hd3⟩ := hd
  dsimp only at hd1 hd2 hd3
  subst hd2
  have k1 := k p e s m args below meth c H locs Z ls hc hn hks hr hi hlo hl
  refine lv_lload hc.1 hc.2.1 hd1 (hl.at hv) ?_
  exact k1
theorem x_aload_n {i : Fin 4} {z : Nat} (hd : dok M.2.1 (pc, .aload_n i, 1, nx, tg)) (hv : nthq L (i : Nat) = some (some (vr z))) (k : RunX l G M R nx L (vr z :: st) S ca sl Q) : RunX l G M R pc L (st) S ca sl Q := by
  intro p e s m args below meth c H locs Z ls hc hn hks hr hi hlo hl
  obtain ⟨hd1, hd2, hd3⟩ := hd
  dsimp only at hd1 hd2 hd3
  subst hd2
  have k1 := k p e s m args below meth c H locs Z ls hc hn hks hr hi hlo hl
  refine lv_aload_n hc.1 hc.2.1 hd1 rfl (hl.at hv) ?_
  exact k1
theorem x_aload {i : Nat} {z : Nat} (hd : dok M.2.1 (pc, .aload i, 2, nx, tg)) (hv : nthq L i = some (some (vr z))) (k : RunX l G M R nx L (vr z :: st) S ca sl Q) : RunX l G M R pc L (st) S ca sl Q := by
  intro p e s m args below meth c H locs Z ls hc hn hks hr hi hlo hl
  obtain ⟨hd1, hd2, hd3⟩ := hd
  dsimp only at hd1 hd2 hd3
  subst hd2
  have k1 := k p e s m args below meth c H locs Z ls hc hn hks hr hi hlo hl
  refine lv_aload hc.1 hc.2.1 hd1 (hl.at hv) ?_
  exact k1
theorem x_istore_n {i : Fin 4} {z : Int} (hd : dok M.2.1 (pc, .istore_n i, 1, nx, tg)) (hi9 : Nat.blt ((i : Nat)) M.2.2.1 = true) (k : RunX l G M R nx (sL (i : Nat) L (vi z)) st S ca sl Q) : RunX l G M R pc L (vi z :: st) S ca sl Q := by
  intro p e s m args below meth c H locs Z ls hc hn hks hr hi hlo hl
  obtain ⟨hd1, hd2, hd3⟩ := hd
  dsimp only at hd1 hd2 hd3
  subst hd2
  exact lv_istore_n hc.1 hc.2.1 hd1 rfl hl (by simpa using hi9) rfl (fun ls1 hl1 => k p e s m args below meth c H locs Z ls1 hc hn hks hr hi hlo (lh.set (v := vi z) rfl hl1))
theorem x_istore {i : Nat} {z : Int} (hd : dok M.2.1 (pc, .istore i, 2, nx, tg)) (hi9 : Nat.blt ((i : Nat)) M.2.2.1 = true) (k : RunX l G M R nx (sL (i : Nat) L (vi z)) st S ca sl Q) : RunX l G M R pc L (vi z :: st) S ca sl Q := by
  intro p e s m args below meth c H locs Z ls hc hn hks hr hi hlo hl
  obtain ⟨hd1, hd2, hd3⟩ := hd
  dsimp only at hd1 hd2 hd3
  subst hd2
  exact lv_istore hc.1 hc.2.1 hd1 hl (by simpa using hi9) rfl (fun ls1 hl1 => k p e s m args below meth c H locs Z ls1 hc hn hks hr hi hlo (lh.set (v := vi z) rfl hl1))
theorem x_lstore_n {i : Fin 4} {z : Int} (hd : dok M.2.1 (pc, .lstore_n i, 1, nx, tg)) (hi9 : Nat.blt ((i : Nat) + 1) M.2.2.1 = true) (k : RunX l G M R nx (sLL (i : Nat) L (vl z)) st S ca sl Q) : RunX l G M R pc L (vl z :: st) S ca sl Q := by
  intro p e s m args below meth c H locs Z ls hc hn hks hr hi hlo hl
  obtain ⟨hd1, hd2, hd3⟩ := hd
  dsimp only at hd1 hd2 hd3
  subst hd2
  exact lv_lstore_n hc.1 hc.2.1 hd1 rfl hl (by simpa using hi9) rfl (fun ls1 hl1 => k p e s m args below meth c H locs Z ls1 hc hn hks hr hi hlo (lh.setL (v := vl z) rfl hl1))
theorem x_lstore {i : Nat} {z : Int} (hd : dok M.2.1 (pc, .lstore i, 2, nx, tg)) (hi9 : Nat.blt ((i : Nat) + 1) M.2.2.1 = true) (k : RunX l G M R nx (sLL (i : Nat) L (vl z)) st S ca sl Q) : RunX l G M R pc L (vl z :: st) S ca sl Q := by
  intro p e s m args below meth c H locs Z ls hc hn hks hr hi hlo hl
  obtain ⟨hd1, hd2, hd3⟩ := hd
  dsimp only at hd1 hd2 hd3
  subst hd2
  exact lv_lstore hc.1 hc.2.1 hd1 hl (by simpa using hi9) rfl (fun ls1 hl1 => k p e s m args below meth c H locs Z ls1 hc hn hks hr hi hlo (lh.setL (v := vl z) rfl hl1))
theorem x_astore_n {i : Fin 4} {z : Nat} (hd : dok M.2.1 (pc, .astore_n i, 1, nx, tg)) (hi9 : Nat.blt ((i : Nat)) M.2.2.1 = true) (k : RunX l G M R nx (sL (i : Nat) L (vr z)) st S ca sl Q) : RunX l G M R pc L (vr z :: st) S ca sl Q := by
  intro p e s m args below meth c H locs Z ls hc hn hks hr hi hlo hl
  obtain ⟨hd1, hd2, hd3⟩ := hd
  dsimp only at hd1 hd2 hd3
  subst hd2
  exact lv_astore_n hc.1 hc.2.1 hd1 rfl hl (by simpa using hi9) rfl (fun ls1 hl1 => k p e s m args below meth c H locs Z ls1 hc hn hks hr hi hlo (lh.set (v := vr z) rfl hl1))
theorem x_astore {i : Nat} {z : Nat} (hd : dok M.2.1 (pc, .astore i, 2, nx, tg)) (hi9 : Nat.blt ((i : Nat)) M.2.2.1 = true) (k : RunX l G M R nx (sL (i : Nat) L (vr z)) st S ca sl Q) : RunX l G M R pc L (vr z :: st) S ca sl Q := by
  intro p e s m args below meth c H locs Z ls hc hn hks hr hi hlo hl
  obtain ⟨hd1, hd2, hd3⟩ := hd
  dsimp only at hd1 hd2 hd3
  subst hd2
  exact lv_astore hc.1 hc.2.1 hd1 hl (by simpa using hi9) rfl (fun ls1 hl1 => k p e s m args below meth c H locs Z ls1 hc hn hks hr hi hlo (lh.set (v := vr z) rfl hl1))
theorem x_iinc {i : Nat} {z w : Int} (hd : dok M.2.1 (pc, .iinc i w, 3, nx, tg)) (hv : nthq L i = some (some (vi z))) (hi9 : Nat.blt i M.2.2.1 = true) (k : RunX l G M R nx (sL i L (vi (z + w))) st S ca sl Q) : RunX l G M R pc L st S ca sl Q := by
  intro p e s m args below meth c H locs Z ls hc hn hks hr hi hlo hl
  obtain ⟨hd1, hd2, hd3⟩ := hd
  dsimp only at hd1 hd2 hd3
  subst hd2
  obtain ⟨q, hq⟩ := List.mem_iff_getElem?.mp (prL_in (G := G) (n := 0) hv)
  rw [Nat.zero_add] at hq
  exact lv_iinc hc.1 hc.2.1 hd1 hl hq (v := Int32.ofInt (z + w)) (by rw [Int32.ofInt_add]) (by simpa using hi9) rfl (fun ls1 hl1 => k p e s m args below meth c H locs Z ls1 hc hn hks hr hi hlo (lh.set (v := vi (z + w)) rfl hl1))
theorem x_iadd {x y : Int} (hd : dok M.2.1 (pc, .iadd, 1, nx, tg)) (k : RunX l G M R nx L (vi (x + y) :: st) S ca sl Q) : RunX l G M R pc L (vi y :: vi x :: st) S ca sl Q := by
  intro p e s m args below meth c H locs Z ls hc hn hks hr hi hlo hl
  obtain ⟨hd1, hd2, hd3⟩ := hd
  dsimp only at hd1 hd2 hd3
  subst hd2
  have k1 := k p e s m args below meth c H locs Z ls hc hn hks hr hi hlo hl
  refine lv_iadd hc.1 hc.2.1 hd1 ?_
  rw [← Int32.ofInt_add]
  exact k1
theorem x_isub {x y : Int} (hd : dok M.2.1 (pc, .isub, 1, nx, tg)) (k : RunX l G M R nx L (vi (x - y) :: st) S ca sl Q) : RunX l G M R pc L (vi y :: vi x :: st) S ca sl Q := by
  intro p e s m args below meth c H locs Z ls hc hn hks hr hi hlo hl
  obtain ⟨hd1, hd2, hd3⟩ := hd
  dsimp only at hd1 hd2 hd3
  subst hd2
  have k1 := k p e s m args below meth c H locs Z ls hc hn hks hr hi hlo hl
  refine lv_isub hc.1 hc.2.1 hd1 ?_
  rw [← Int32.ofInt_sub]
  exact k1
theorem x_imul {x y : Int} (hd : dok M.2.1 (pc, .imul, 1, nx, tg)) (k : RunX l G M R nx L (vi (x * y) :: st) S ca sl Q) : RunX l G M R pc L (vi y :: vi x :: st) S ca sl Q := by
  intro p e s m args below meth c H locs Z ls hc hn hks hr hi hlo hl
  obtain ⟨hd1, hd2, hd3⟩ := hd
  dsimp only at hd1 hd2 hd3
  subst hd2
  have k1 := k p e s m args below meth c H locs Z ls hc hn hks hr hi hlo hl
  refine lv_imul hc.1 hc.2.1 hd1 ?_
  rw [← Int32.ofInt_mul]
  exact k1
theorem x_ladd {x y : Int} (hd : dok M.2.1 (pc, .ladd, 1, nx, tg)) (k : RunX l G M R nx L (vl (x + y) :: st) S ca sl Q) : RunX l G M R pc L (vl y :: vl x :: st) S ca sl Q := by
  intro p e s m args below meth c H locs Z ls hc hn hks hr hi hlo hl
  obtain ⟨hd1, hd2, hd3⟩ := hd
  dsimp only at hd1 hd2 hd3
  subst hd2
  have k1 := k p e s m args below meth c H locs Z ls hc hn hks hr hi hlo hl
  refine lv_ladd hc.1 hc.2.1 hd1 ?_
  rw [← Int64.ofInt_add]
  exact k1
theorem x_lmul {x y : Int} (hd : dok M.2.1 (pc, .lmul, 1, nx, tg)) (k : RunX l G M R nx L (vl (x * y) :: st) S ca sl Q) : RunX l G M R pc L (vl y :: vl x :: st) S ca sl Q := by
  intro p e s m args below meth c H locs Z ls hc hn hks hr hi hlo hl
  obtain ⟨hd1, hd2, hd3⟩ := hd
  dsimp only at hd1 hd2 hd3
  subst hd2
  have k1 := k p e s m args below meth c H locs Z ls hc hn hks hr hi hlo hl
  refine lv_lmul hc.1 hc.2.1 hd1 ?_
  rw [← Int64.ofInt_mul]
  exact k1
theorem o32_ne0 {y : Int} (h : 0 < y ∧ y < 2147483648) : ¬ Int32.ofInt y = 0 := by
  rw [o32_0, o32_eq (by omega) (by decide)]
  omega
theorem o64_ne0 {y : Int} (h : 0 < y ∧ y < 9223372036854775808) : ¬ Int64.ofInt y = 0 := by
  rw [show (0 : Int64) = Int64.ofInt 0 from rfl, o64_eq (by omega) (by decide)]
  omega
theorem o32_rem {x y : Int} (hx : 0 ≤ x ∧ x < 2147483648) (hy : 0 < y ∧ y < 2147483648) : Int32.ofInt x - Int32.ofInt x / Int32.ofInt y * Int32.ofInt y = Int32.ofInt (x % y) := by
  rw [o32_div hx hy, ← Int32.ofInt_mul, ← Int32.ofInt_sub, Int.emod_def, Int.mul_comm]
theorem o64_rem {x y : Int} (hx : 0 ≤ x ∧ x < 9223372036854775808) (hy : 0 < y ∧ y < 9223372036854775808) : Int64.ofInt x - Int64.ofInt x / Int64.ofInt y * Int64.ofInt y = Int64.ofInt (x % y) := by
  rw [o64_div hx hy, ← Int64.ofInt_mul, ← Int64.ofInt_sub, Int.emod_def, Int.mul_comm]
theorem x_idiv {x y : Int} (hd : dok M.2.1 (pc, .idiv, 1, nx, tg)) (hx : 0 ≤ x ∧ x < 2147483648) (hy : 0 < y ∧ y < 2147483648) (k : RunX l G M R nx L (vi (x / y) :: st) S ca sl Q) : RunX l G M R pc L (vi y :: vi x :: st) S ca sl Q := by
  intro p e s m args below meth c H locs Z ls hc hn hks hr hi hlo hl
  obtain ⟨hd1, hd2, hd3⟩ := hd
  dsimp only at hd1 hd2 hd3
  subst hd2
  have k1 := k p e s m args below meth c H locs Z ls hc hn hks hr hi hlo hl
  refine lv_idiv hc.1 hc.2.1 hd1 (o32_ne0 hy) ?_
  rw [o32_div hx hy]
  exact k1
theorem x_irem {x y : Int} (hd : dok M.2.1 (pc, .irem, 1, nx, tg)) (hx : 0 ≤ x ∧ x < 2147483648) (hy : 0 < y ∧ y < 2147483648) (k : RunX l G M R nx L (vi (x % y) :: st) S ca sl Q) : RunX l G M R pc L (vi y :: vi x :: st) S ca sl Q := by
  intro p e s m args below meth c H locs Z ls hc hn hks hr hi hlo hl
  obtain ⟨hd1, hd2, hd3⟩ := hd
  dsimp only at hd1 hd2 hd3
  subst hd2
  have k1 := k p e s m args below meth c H locs Z ls hc hn hks hr hi hlo hl
  refine lv_irem hc.1 hc.2.1 hd1 (o32_ne0 hy) ?_
  rw [o32_rem hx hy]
  exact k1
theorem x_ldiv {x y : Int} (hd : dok M.2.1 (pc, .ldiv, 1, nx, tg)) (hx : 0 ≤ x ∧ x < 9223372036854775808) (hy : 0 < y ∧ y < 9223372036854775808) (k : RunX l G M R nx L (vl (x / y) :: st) S ca sl Q) : RunX l G M R pc L (vl y :: vl x :: st) S ca sl Q := by
  intro p e s m args below meth c H locs Z ls hc hn hks hr hi hlo hl
  obtain ⟨hd1, hd2, hd3⟩ := hd
  dsimp only at hd1 hd2 hd3
  subst hd2
  have k1 := k p e s m args below meth c H locs Z ls hc hn hks hr hi hlo hl
  refine lv_ldiv hc.1 hc.2.1 hd1 (o64_ne0 hy) ?_
  rw [o64_div hx hy]
  exact k1
theorem x_lrem {x y : Int} (hd : dok M.2.1 (pc, .lrem, 1, nx, tg)) (hx : 0 ≤ x ∧ x < 9223372036854775808) (hy : 0 < y ∧ y < 9223372036854775808) (k : RunX l G M R nx L (vl (x % y) :: st) S ca sl Q) : RunX l G M R pc L (vl y :: vl x :: st) S ca sl Q := by
  intro p e s m args below meth c H locs Z ls hc hn hks hr hi hlo hl
  obtain ⟨hd1, hd2, hd3⟩ := hd
  dsimp only at hd1 hd2 hd3
  subst hd2
  have k1 := k p e s m args below meth c H locs Z ls hc hn hks hr hi hlo hl
  refine lv_lrem hc.1 hc.2.1 hd1 (o64_ne0 hy) ?_
  rw [o64_rem hx hy]
  exact k1
theorem x_iand {x y : Int} (hd : dok M.2.1 (pc, .iand, 1, nx, tg)) (k : RunX l G M R nx L (vi (bAnd x y) :: st) S ca sl Q) : RunX l G M R pc L (vi y :: vi x :: st) S ca sl Q := by
  intro p e s m args below meth c H locs Z ls hc hn hks hr hi hlo hl
  obtain ⟨hd1, hd2, hd3⟩ := hd
  dsimp only at hd1 hd2 hd3
  subst hd2
  have k1 := k p e s m args below meth c H locs Z ls hc hn hks hr hi hlo hl
  refine lv_iand hc.1 hc.2.1 hd1 ?_
  change W _ _ _ _ _ _ _ _ _ _ _ _ _ _ _ (F0 _ _ _ (.int (Int32.ofInt (bAnd x y)) :: _)) at k1
  rw [bAnd, Int32.ofInt_toInt] at k1
  exact k1
theorem x_ior {x y : Int} (hd : dok M.2.1 (pc, .ior, 1, nx, tg)) (k : RunX l G M R nx L (vi (bOr x y) :: st) S ca sl Q) : RunX l G M R pc L (vi y :: vi x :: st) S ca sl Q := by
  intro p e s m args below meth c H locs Z ls hc hn hks hr hi hlo hl
  obtain ⟨hd1, hd2, hd3⟩ := hd
  dsimp only at hd1 hd2 hd3
  subst hd2
  have k1 := k p e s m args below meth c H locs Z ls hc hn hks hr hi hlo hl
  refine lv_ior hc.1 hc.2.1 hd1 ?_
  change W _ _ _ _ _ _ _ _ _ _ _ _ _ _ _ (F0 _ _ _ (.int (Int32.ofInt (bOr x y)) :: _)) at k1
  rw [bOr, Int32.ofInt_toInt] at k1
  exact k1
theorem x_ixor {x y : Int} (hd : dok M.2.1 (pc, .ixor, 1, nx, tg)) (k : RunX l G M R nx L (vi (bXor x y) :: st) S ca sl Q) : RunX l G M R pc L (vi y :: vi x :: st) S ca sl Q := by
  intro p e s m args below meth c H locs Z ls hc hn hks hr hi hlo hl
  obtain ⟨hd1, hd2, hd3⟩ := hd
  dsimp only at hd1 hd2 hd3
  subst hd2
  have k1 := k p e s m args below meth c H locs Z ls hc hn hks hr hi hlo hl
  refine lv_ixor hc.1 hc.2.1 hd1 ?_
  change W _ _ _ _ _ _ _ _ _ _ _ _ _ _ _ (F0 _ _ _ (.int (Int32.ofInt (bXor x y)) :: _)) at k1
  rw [bXor, Int32.ofInt_toInt] at k1
  exact k1
theorem x_ishl {x y : Int} (hd : dok M.2.1 (pc, .ishl, 1, nx, tg)) (k : RunX l G M R nx L (vi (bShl x y) :: st) S ca sl Q) : RunX l G M R pc L (vi y :: vi x :: st) S ca sl Q := by
  intro p e s m args below meth c H locs Z ls hc hn hks hr hi hlo hl
  obtain ⟨hd1, hd2, hd3⟩ := hd
  dsimp only at hd1 hd2 hd3
  subst hd2
  have k1 := k p e s m args below meth c H locs Z ls hc hn hks hr hi hlo hl
  refine lv_ishl hc.1 hc.2.1 hd1 ?_
  change W _ _ _ _ _ _ _ _ _ _ _ _ _ _ _ (F0 _ _ _ (.int (Int32.ofInt (bShl x y)) :: _)) at k1
  rw [bShl, Int32.ofInt_toInt] at k1
  exact k1
theorem x_ishr {x y : Int} (hd : dok M.2.1 (pc, .ishr, 1, nx, tg)) (k : RunX l G M R nx L (vi (bShr x y) :: st) S ca sl Q) : RunX l G M R pc L (vi y :: vi x :: st) S ca sl Q := by
  intro p e s m args below meth c H locs Z ls hc hn hks hr hi hlo hl
  obtain ⟨hd1, hd2, hd3⟩ := hd
  dsimp only at hd1 hd2 hd3
  subst hd2
  have k1 := k p e s m args below meth c H locs Z ls hc hn hks hr hi hlo hl
  refine lv_ishr hc.1 hc.2.1 hd1 ?_
  change W _ _ _ _ _ _ _ _ _ _ _ _ _ _ _ (F0 _ _ _ (.int (Int32.ofInt (bShr x y)) :: _)) at k1
  rw [bShr, Int32.ofInt_toInt] at k1
  exact k1
theorem x_land {x y : Int} (hd : dok M.2.1 (pc, .land, 1, nx, tg)) (k : RunX l G M R nx L (vl (lAnd x y) :: st) S ca sl Q) : RunX l G M R pc L (vl y :: vl x :: st) S ca sl Q := by
  intro p e s m args below meth c H locs Z ls hc hn hks hr hi hlo hl
  obtain ⟨hd1, hd2, hd3⟩ := hd
  dsimp only at hd1 hd2 hd3
  subst hd2
  have k1 := k p e s m args below meth c H locs Z ls hc hn hks hr hi hlo hl
  refine lv_land hc.1 hc.2.1 hd1 ?_
  change W _ _ _ _ _ _ _ _ _ _ _ _ _ _ _ (F0 _ _ _ (.long (Int64.ofInt (lAnd x y)) :: _)) at k1
  rw [lAnd, Int64.ofInt_toInt] at k1
  exact k1
theorem x_lor {x y : Int} (hd : dok M.2.1 (pc, .lor, 1, nx, tg)) (k : RunX l G M R nx L (vl (lOr x y) :: st) S ca sl Q) : RunX l G M R pc L (vl y :: vl x :: st) S ca sl Q := by
  intro p e s m args below meth c H locs Z ls hc hn hks hr hi hlo hl
  obtain ⟨hd1, hd2, hd3⟩ := hd
  dsimp only at hd1 hd2 hd3
  subst hd2
  have k1 := k p e s m args below meth c H locs Z ls hc hn hks hr hi hlo hl
  refine lv_lor hc.1 hc.2.1 hd1 ?_
  change W _ _ _ _ _ _ _ _ _ _ _ _ _ _ _ (F0 _ _ _ (.long (Int64.ofInt (lOr x y)) :: _)) at k1
  rw [lOr, Int64.ofInt_toInt] at k1
  exact k1
theorem x_iushr {x y : Int} (hd : dok M.2.1 (pc, .iushr, 1, nx, tg)) (k : RunX l G M R nx L (vi (bUsh x y) :: st) S ca sl Q) : RunX l G M R pc L (vi y :: vi x :: st) S ca sl Q := by
  intro p e s m args below meth c H locs Z ls hc hn hks hr hi hlo hl
  obtain ⟨hd1, hd2, hd3⟩ := hd
  dsimp only at hd1 hd2 hd3
  subst hd2
  have k1 := k p e s m args below meth c H locs Z ls hc hn hks hr hi hlo hl
  refine lv_iushr hc.1 hc.2.1 hd1 (v := Int32.ofInt (bUsh x y)) (by rw [bUsh, Int32.ofInt_toInt]) ?_
  exact k1
theorem x_lshl {x y : Int} (hd : dok M.2.1 (pc, .lshl, 1, nx, tg)) (k : RunX l G M R nx L (vl (lShl x y) :: st) S ca sl Q) : RunX l G M R pc L (vi y :: vl x :: st) S ca sl Q := by
  intro p e s m args below meth c H locs Z ls hc hn hks hr hi hlo hl
  obtain ⟨hd1, hd2, hd3⟩ := hd
  dsimp only at hd1 hd2 hd3
  subst hd2
  have k1 := k p e s m args below meth c H locs Z ls hc hn hks hr hi hlo hl
  refine lv_lshl hc.1 hc.2.1 hd1 (v := Int64.ofInt (lShl x y)) (by rw [lShl, Int64.ofInt_toInt]) ?_
  exact k1
theorem x_lshr {x y : Int} (hd : dok M.2.1 (pc, .lshr, 1, nx, tg)) (k : RunX l G M R nx L (vl (lShr x y) :: st) S ca sl Q) : RunX l G M R pc L (vi y :: vl x :: st) S ca sl Q := by
  intro p e s m args below meth c H locs Z ls hc hn hks hr hi hlo hl
  obtain ⟨hd1, hd2, hd3⟩ := hd
  dsimp only at hd1 hd2 hd3
  subst hd2
  have k1 := k p e s m args below meth c H locs Z ls hc hn hks hr hi hlo hl
  refine lv_lshr hc.1 hc.2.1 hd1 (v := Int64.ofInt (lShr x y)) (by rw [lShr, Int64.ofInt_toInt]) ?_
  exact k1
theorem x_lushr {x y : Int} (hd : dok M.2.1 (pc, .lushr, 1, nx, tg)) (k : RunX l G M R nx L (vl (lUsh x y) :: st) S ca sl Q) : RunX l G M R pc L (vi y :: vl x :: st) S ca sl Q := by
  intro p e s m args below meth c H locs Z ls hc hn hks hr hi hlo hl
  obtain ⟨hd1, hd2, hd3⟩ := hd
  dsimp only at hd1 hd2 hd3
  subst hd2
  have k1 := k p e s m args below meth c H locs Z ls hc hn hks hr hi hlo hl
  refine lv_lushr hc.1 hc.2.1 hd1 (v := Int64.ofInt (lUsh x y)) (by rw [lUsh, Int64.ofInt_toInt]) ?_
  exact k1
theorem o_i2l {x : Int} (hx : rgi x) : (Int32.ofInt x).toInt64 = Int64.ofInt x := by
  rw [← Int64.toInt_inj, Int32.toInt_toInt64, o32 hx, o64 (by omega)]
theorem o_l2i (x : Int) : (Int64.ofInt x).toInt32 = Int32.ofInt (l2iq x) := by rw [l2iq, Int32.ofInt_toInt]
theorem o_cmp {x y : Int} (hx : rgl x) (hy : rgl y) : lg_cmp (Int64.ofInt x) (Int64.ofInt y) = Int32.ofInt (lCmp x y) := by
  unfold lg_cmp lCmp
  have h1 : Int64.ofInt x > Int64.ofInt y ↔ y < x := o64_lt hy hx
  by_cases a : y < x
  · rw [if_pos a, if_pos (h1.mpr a)]; rfl
  · rw [if_neg a, if_neg (fun q => a (h1.mp q))]
    by_cases b : x = y
    · rw [if_pos b, if_pos (by rw [b])]; rfl
    · rw [if_neg b, if_neg (fun q => b ((o64_eq hx hy).mp q))]; rfl
theorem x_i2l {x : Int} (hd : dok M.2.1 (pc, .i2l, 1, nx, tg)) (hx : rgi x) (k : RunX l G M R nx L (vl x :: st) S ca sl Q) : RunX l G M R pc L (vi x :: st) S ca sl Q := by
  intro p e s m args below meth c H locs Z ls hc hn hks hr hi hlo hl
  obtain ⟨hd1, hd2, hd3⟩ := hd
  dsimp only at hd1 hd2 hd3
  subst hd2
  have k1 := k p e s m args below meth c H locs Z ls hc hn hks hr hi hlo hl
  refine lv_i2l hc.1 hc.2.1 hd1 (o_i2l hx) ?_
  exact k1
theorem x_l2i {x : Int} (hd : dok M.2.1 (pc, .l2i, 1, nx, tg)) (k : RunX l G M R nx L (vi (l2iq x) :: st) S ca sl Q) : RunX l G M R pc L (vl x :: st) S ca sl Q := by
  intro p e s m args below meth c H locs Z ls hc hn hks hr hi hlo hl
  obtain ⟨hd1, hd2, hd3⟩ := hd
  dsimp only at hd1 hd2 hd3
  subst hd2
  have k1 := k p e s m args below meth c H locs Z ls hc hn hks hr hi hlo hl
  refine lv_l2i hc.1 hc.2.1 hd1 (o_l2i x) ?_
  exact k1
theorem x_lcmp {x y : Int} (hd : dok M.2.1 (pc, .lcmp, 1, nx, tg)) (hx : rgl x) (hy : rgl y) (k : RunX l G M R nx L (vi (lCmp x y) :: st) S ca sl Q) : RunX l G M R pc L (vl y :: vl x :: st) S ca sl Q := by
  intro p e s m args below meth c H locs Z ls hc hn hks hr hi hlo hl
  obtain ⟨hd1, hd2, hd3⟩ := hd
  dsimp only at hd1 hd2 hd3
  subst hd2
  have k1 := k p e s m args below meth c H locs Z ls hc hn hks hr hi hlo hl
  refine W.lcmp hc.1 hc.2.1 hd1 ?_
  rw [o_cmp hx hy]
  exact k1
theorem cvl_i {G : GC} {z : Int} : (cvl G (vi z)).category = 1 := rfl
theorem cvl_r {G : GC} {k : Nat} : (cvl G (vr k)).category = 1 := rfl
theorem x_dupi {x : Int} (hd : dok M.2.1 (pc, .dup, 1, nx, tg)) (k : RunX l G M R nx L (vi x :: vi x :: st) S ca sl Q) : RunX l G M R pc L (vi x :: st) S ca sl Q := by
  intro p e s m args below meth c H locs Z ls hc hn hks hr hi hlo hl
  obtain ⟨hd1, hd2, hd3⟩ := hd
  dsimp only at hd1 hd2 hd3
  subst hd2
  have k1 := k p e s m args below meth c H locs Z ls hc hn hks hr hi hlo hl
  refine lv_dup hc.1 hc.2.1 hd1 cvl_i ?_
  exact k1
theorem x_dupr {x : Nat} (hd : dok M.2.1 (pc, .dup, 1, nx, tg)) (k : RunX l G M R nx L (vr x :: vr x :: st) S ca sl Q) : RunX l G M R pc L (vr x :: st) S ca sl Q := by
  intro p e s m args below meth c H locs Z ls hc hn hks hr hi hlo hl
  obtain ⟨hd1, hd2, hd3⟩ := hd
  dsimp only at hd1 hd2 hd3
  subst hd2
  have k1 := k p e s m args below meth c H locs Z ls hc hn hks hr hi hlo hl
  refine lv_dup hc.1 hc.2.1 hd1 cvl_r ?_
  exact k1
theorem x_dup2 {x : Int} {y : Nat} (hd : dok M.2.1 (pc, .dup2, 1, nx, tg)) (k : RunX l G M R nx L (vi x :: vr y :: vi x :: vr y :: st) S ca sl Q) : RunX l G M R pc L (vi x :: vr y :: st) S ca sl Q := by
  intro p e s m args below meth c H locs Z ls hc hn hks hr hi hlo hl
  obtain ⟨hd1, hd2, hd3⟩ := hd
  dsimp only at hd1 hd2 hd3
  subst hd2
  have k1 := k p e s m args below meth c H locs Z ls hc hn hks hr hi hlo hl
  refine lv_dup2_11 hc.1 hc.2.1 hd1 cvl_i cvl_r ?_
  exact k1
theorem x_pop {x : Int} (hd : dok M.2.1 (pc, .pop, 1, nx, tg)) (k : RunX l G M R nx L (st) S ca sl Q) : RunX l G M R pc L (vi x :: st) S ca sl Q := by
  intro p e s m args below meth c H locs Z ls hc hn hks hr hi hlo hl
  obtain ⟨hd1, hd2, hd3⟩ := hd
  dsimp only at hd1 hd2 hd3
  subst hd2
  have k1 := k p e s m args below meth c H locs Z ls hc hn hks hr hi hlo hl
  refine lv_pop hc.1 hc.2.1 hd1 cvl_i ?_
  exact k1
theorem x_goto {off : Int} (hd : dok M.2.1 (pc, .goto off, 3, nx, tg)) (k : RunX l G M R tg L st S ca sl Q) : RunX l G M R pc L st S ca sl Q := by
  intro p e s m args below meth c H locs Z ls hc hn hks hr hi hlo hl
  exact lv_goto hc.1 hc.2.1 hd.1 (hd.2.2 off rfl) (k p e s m args below meth c H locs Z ls hc hn hks hr hi hlo hl)
theorem x_icmp_eq {x y off : Int} (hd : dok M.2.1 (pc, .if_icmp .eq off, 3, nx, tg)) (hx : rgi x) (hy : rgi y) (kt : x = y → RunX l G M R tg L st S ca sl Q) (kf : ¬ (x = y) → RunX l G M R nx L st S ca sl Q) : RunX l G M R pc L (vi y :: vi x :: st) S ca sl Q := by
  intro p e s m args below meth c H locs Z ls hc hn hks hr hi hlo hl
  obtain ⟨hd1, hd2, hd3⟩ := hd
  dsimp only at hd1 hd2 hd3
  subst hd2
  have iff := o32_eq hx hy
  exact lv_icmp_eq hc.1 hc.2.1 hd1 (hd3 off rfl) (fun q => kt (iff.mp q) p e s m args below meth c H locs Z ls hc hn hks hr hi hlo hl) (fun q => kf (fun q2 => q (iff.mpr q2)) p e s m args below meth c H locs Z ls hc hn hks hr hi hlo hl)
theorem x_if_eq {x off : Int} (hd : dok M.2.1 (pc, .ifCond .eq off, 3, nx, tg)) (hx : rgi x) (kt : x = 0 → RunX l G M R tg L st S ca sl Q) (kf : ¬ (x = 0) → RunX l G M R nx L st S ca sl Q) : RunX l G M R pc L (vi x :: st) S ca sl Q := by
  intro p e s m args below meth c H locs Z ls hc hn hks hr hi hlo hl
  obtain ⟨hd1, hd2, hd3⟩ := hd
  dsimp only at hd1 hd2 hd3
  subst hd2
  have hy : rgi 0 := by decide
  have iff := o32_eq hx hy
  exact lv_if_eq hc.1 hc.2.1 hd1 (hd3 off rfl) (fun q => kt (iff.mp q) p e s m args below meth c H locs Z ls hc hn hks hr hi hlo hl) (fun q => kf (fun q2 => q (iff.mpr q2)) p e s m args below meth c H locs Z ls hc hn hks hr hi hlo hl)
theorem x_icmp_ne {x y off : Int} (hd : dok M.2.1 (pc, .if_icmp .ne off, 3, nx, tg)) (hx : rgi x) (hy : rgi y) (kt : x ≠ y → RunX l G M R tg L st S ca sl Q) (kf : x = y → RunX l G M R nx L st S ca sl Q) : RunX l G M R pc L (vi y :: vi x :: st) S ca sl Q := by
  intro p e s m args below meth c H locs Z ls hc hn hks hr hi hlo hl
  obtain ⟨hd1, hd2, hd3⟩ := hd
  dsimp only at hd1 hd2 hd3
  subst hd2
  have iff := not_congr (o32_eq hx hy)
  exact lv_icmp_ne hc.1 hc.2.1 hd1 (hd3 off rfl) (fun q => kt (iff.mp q) p e s m args below meth c H locs Z ls hc hn hks hr hi hlo hl) (fun q => kf ((o32_eq hx hy).mp q) p e s m args below meth c H locs Z ls hc hn hks hr hi hlo hl)
theorem x_if_ne {x off : Int} (hd : dok M.2.1 (pc, .ifCond .ne off, 3, nx, tg)) (hx : rgi x) (kt : x ≠ 0 → RunX l G M R tg L st S ca sl Q) (kf : x = 0 → RunX l G M R nx L st S ca sl Q) : RunX l G M R pc L (vi x :: st) S ca sl Q := by
  intro p e s m args below meth c H locs Z ls hc hn hks hr hi hlo hl
  obtain ⟨hd1, hd2, hd3⟩ := hd
  dsimp only at hd1 hd2 hd3
  subst hd2
  have hy : rgi 0 := by decide
  have iff := not_congr (o32_eq hx hy)
  exact lv_if_ne hc.1 hc.2.1 hd1 (hd3 off rfl) (fun q => kt (iff.mp q) p e s m args below meth c H locs Z ls hc hn hks hr hi hlo hl) (fun q => kf ((o32_eq hx hy).mp q) p e s m args below meth c H locs Z ls hc hn hks hr hi hlo hl)
theorem x_icmp_lt {x y off : Int} (hd : dok M.2.1 (pc, .if_icmp .lt off, 3, nx, tg)) (hx : rgi x) (hy : rgi y) (kt : x < y → RunX l G M R tg L st S ca sl Q) (kf : ¬ (x < y) → RunX l G M R nx L st S ca sl Q) : RunX l G M R pc L (vi y :: vi x :: st) S ca sl Q := by
  intro p e s m args below meth c H locs Z ls hc hn hks hr hi hlo hl
  obtain ⟨hd1, hd2, hd3⟩ := hd
  dsimp only at hd1 hd2 hd3
  subst hd2
  have iff := o32_lt hx hy
  exact lv_icmp_lt hc.1 hc.2.1 hd1 (hd3 off rfl) (fun q => kt (iff.mp q) p e s m args below meth c H locs Z ls hc hn hks hr hi hlo hl) (fun q => kf (fun q2 => q (iff.mpr q2)) p e s m args below meth c H locs Z ls hc hn hks hr hi hlo hl)
theorem x_if_lt {x off : Int} (hd : dok M.2.1 (pc, .ifCond .lt off, 3, nx, tg)) (hx : rgi x) (kt : x < 0 → RunX l G M R tg L st S ca sl Q) (kf : ¬ (x < 0) → RunX l G M R nx L st S ca sl Q) : RunX l G M R pc L (vi x :: st) S ca sl Q := by
  intro p e s m args below meth c H locs Z ls hc hn hks hr hi hlo hl
  obtain ⟨hd1, hd2, hd3⟩ := hd
  dsimp only at hd1 hd2 hd3
  subst hd2
  have hy : rgi 0 := by decide
  have iff := o32_lt hx hy
  exact lv_if_lt hc.1 hc.2.1 hd1 (hd3 off rfl) (fun q => kt (iff.mp q) p e s m args below meth c H locs Z ls hc hn hks hr hi hlo hl) (fun q => kf (fun q2 => q (iff.mpr q2)) p e s m args below meth c H locs Z ls hc hn hks hr hi hlo hl)
theorem x_icmp_ge {x y off : Int} (hd : dok M.2.1 (pc, .if_icmp .ge off, 3, nx, tg)) (hx : rgi x) (hy : rgi y) (kt : y ≤ x → RunX l G M R tg L st S ca sl Q) (kf : ¬ (y ≤ x) → RunX l G M R nx L st S ca sl Q) : RunX l G M R pc L (vi y :: vi x :: st) S ca sl Q := by
  intro p e s m args below meth c H locs Z ls hc hn hks hr hi hlo hl
  obtain ⟨hd1, hd2, hd3⟩ := hd
  dsimp only at hd1 hd2 hd3
  subst hd2
  have iff := o32_le hy hx
  exact lv_icmp_ge hc.1 hc.2.1 hd1 (hd3 off rfl) (fun q => kt (iff.mp q) p e s m args below meth c H locs Z ls hc hn hks hr hi hlo hl) (fun q => kf (fun q2 => q (iff.mpr q2)) p e s m args below meth c H locs Z ls hc hn hks hr hi hlo hl)
theorem x_if_ge {x off : Int} (hd : dok M.2.1 (pc, .ifCond .ge off, 3, nx, tg)) (hx : rgi x) (kt : 0 ≤ x → RunX l G M R tg L st S ca sl Q) (kf : ¬ (0 ≤ x) → RunX l G M R nx L st S ca sl Q) : RunX l G M R pc L (vi x :: st) S ca sl Q := by
  intro p e s m args below meth c H locs Z ls hc hn hks hr hi hlo hl
  obtain ⟨hd1, hd2, hd3⟩ := hd
  dsimp only at hd1 hd2 hd3
  subst hd2
  have hy : rgi 0 := by decide
  have iff := o32_le hy hx
  exact lv_if_ge hc.1 hc.2.1 hd1 (hd3 off rfl) (fun q => kt (iff.mp q) p e s m args below meth c H locs Z ls hc hn hks hr hi hlo hl) (fun q => kf (fun q2 => q (iff.mpr q2)) p e s m args below meth c H locs Z ls hc hn hks hr hi hlo hl)
theorem x_icmp_gt {x y off : Int} (hd : dok M.2.1 (pc, .if_icmp .gt off, 3, nx, tg)) (hx : rgi x) (hy : rgi y) (kt : y < x → RunX l G M R tg L st S ca sl Q) (kf : ¬ (y < x) → RunX l G M R nx L st S ca sl Q) : RunX l G M R pc L (vi y :: vi x :: st) S ca sl Q := by
  intro p e s m args below meth c H locs Z ls hc hn hks hr hi hlo hl
  obtain ⟨hd1, hd2, hd3⟩ := hd
  dsimp only at hd1 hd2 hd3
  subst hd2
  have iff := o32_lt hy hx
  exact lv_icmp_gt hc.1 hc.2.1 hd1 (hd3 off rfl) (fun q => kt (iff.mp q) p e s m args below meth c H locs Z ls hc hn hks hr hi hlo hl) (fun q => kf (fun q2 => q (iff.mpr q2)) p e s m args below meth c H locs Z ls hc hn hks hr hi hlo hl)
theorem x_if_gt {x off : Int} (hd : dok M.2.1 (pc, .ifCond .gt off, 3, nx, tg)) (hx : rgi x) (kt : 0 < x → RunX l G M R tg L st S ca sl Q) (kf : ¬ (0 < x) → RunX l G M R nx L st S ca sl Q) : RunX l G M R pc L (vi x :: st) S ca sl Q := by
  intro p e s m args below meth c H locs Z ls hc hn hks hr hi hlo hl
  obtain ⟨hd1, hd2, hd3⟩ := hd
  dsimp only at hd1 hd2 hd3
  subst hd2
  have hy : rgi 0 := by decide
  have iff := o32_lt hy hx
  exact lv_if_gt hc.1 hc.2.1 hd1 (hd3 off rfl) (fun q => kt (iff.mp q) p e s m args below meth c H locs Z ls hc hn hks hr hi hlo hl) (fun q => kf (fun q2 => q (iff.mpr q2)) p e s m args below meth c H locs Z ls hc hn hks hr hi hlo hl)
theorem x_icmp_le {x y off : Int} (hd : dok M.2.1 (pc, .if_icmp .le off, 3, nx, tg)) (hx : rgi x) (hy : rgi y) (kt : x ≤ y → RunX l G M R tg L st S ca sl Q) (kf : ¬ (x ≤ y) → RunX l G M R nx L st S ca sl Q) : RunX l G M R pc L (vi y :: vi x :: st) S ca sl Q := by
  intro p e s m args below meth c H locs Z ls hc hn hks hr hi hlo hl
  obtain ⟨hd1, hd2, hd3⟩ := hd
  dsimp only at hd1 hd2 hd3
  subst hd2
  have iff := o32_le hx hy
  exact lv_icmp_le hc.1 hc.2.1 hd1 (hd3 off rfl) (fun q => kt (iff.mp q) p e s m args below meth c H locs Z ls hc hn hks hr hi hlo hl) (fun q => kf (fun q2 => q (iff.mpr q2)) p e s m args below meth c H locs Z ls hc hn hks hr hi hlo hl)
theorem x_if_le {x off : Int} (hd : dok M.2.1 (pc, .ifCond .le off, 3, nx, tg)) (hx : rgi x) (kt : x ≤ 0 → RunX l G M R tg L st S ca sl Q) (kf : ¬ (x ≤ 0) → RunX l G M R nx L st S ca sl Q) : RunX l G M R pc L (vi x :: st) S ca sl Q := by
  intro p e s m args below meth c H locs Z ls hc hn hks hr hi hlo hl
  obtain ⟨hd1, hd2, hd3⟩ := hd
  dsimp only at hd1 hd2 hd3
  subst hd2
  have hy : rgi 0 := by decide
  have iff := o32_le hx hy
  exact lv_if_le hc.1 hc.2.1 hd1 (hd3 off rfl) (fun q => kt (iff.mp q) p e s m args below meth c H locs Z ls hc hn hks hr hi hlo hl) (fun q => kf (fun q2 => q (iff.mpr q2)) p e s m args below meth c H locs Z ls hc hn hks hr hi hlo hl)
/-- the table of a switch: the offset for x -/
def swq (dflt lo hi : Int) (offs : Array Int) (x : Int) : Int := if x < lo ∨ hi < x then dflt else (offs[(x - lo).toNat]?).getD dflt
theorem x_tsw {dflt lo hi x : Int} {offs : Array Int} {len : Nat} (hd : dok M.2.1 (pc, .tableswitch dflt lo hi offs, len, nx, tg)) (hx : rgi x) (hsz : hi - lo < offs.size) {t : Nat} (ht : (pc : Int) + swq dflt lo hi offs x = (t : Int)) (k : RunX l G M R t L st S ca sl Q) : RunX l G M R pc L (vi x :: st) S ca sl Q := by
  intro p e s m args below meth c H locs Z ls hc hn hks hr hi9 hlo hl
  have k1 := k p e s m args below meth c H locs Z ls hc hn hks hr hi9 hlo hl
  unfold swq at ht
  by_cases h : x < lo ∨ hi < x
  · rw [if_pos h] at ht
    exact lv_tableOut hc.1 hc.2.1 hd.1 (by rw [o32 hx]; exact h) ht k1
  · rw [if_neg h] at ht
    have hlt : (x - lo).toNat < offs.size := by omega
    have he : offs[(x - lo).toNat]? = some (offs[(x - lo).toNat]'hlt) := Array.getElem?_eq_getElem hlt
    rw [he] at ht
    exact lv_tableIn hc.1 hc.2.1 hd.1 (by rw [o32 hx]; omega) (by rw [o32 hx]; omega) (by rw [o32 hx]; exact he) ht k1
theorem x_iald {n0 n k : Nat} {ρ : Nat → Int → Option Nat} {σ : Nat → Int → Int} {i : Int} (hd : dok M.2.1 (pc, .iaload, 1, nx, tg)) (hs : shp k = (12, n)) (hk : k < n0) (hix : 0 ≤ i ∧ i < n) (kk : RunX l G M R nx L (vi (σ k i) :: st) (n0, ρ, σ) ca sl Q) : RunX l G M R pc L (vi i :: vr k :: st) (n0, ρ, σ) ca sl Q := by
  intro p e s m args below meth c H locs Z ls hc hn hks hr hi hlo hl
  obtain ⟨hd1, hd2, hd3⟩ := hd
  dsimp only at hd1 hd2 hd3
  subst hd2
  have k1 := kk p e s m args below meth c H locs Z ls hc hn hks hr hi hlo hl
  have hcl := hi.2.2 k hk
  have hle := shp_le k (Nat.lt_of_lt_of_le hk hi.1.2)
  unfold cellq at hcl
  rw [hs] at hcl hle
  obtain ⟨cA, h1, h2⟩ := hcl
  have hle : n ≤ 256 := hle
  have hnn := o32_in hix (by omega)
  have hcn := o32_ix (i := i) hix.1 (by omega)
  have hin : ((i.toNat : Nat) : Int) = i := Int.toNat_of_nonneg hix.1
  refine W.iald (v := Value.int (Int32.ofInt (σ k i))) hc.1 hc.2.1 h1 (h2 _ _) (fun q => by cases q) (by rw [arrV_size]; exact hnn) (by rw [hcn, arrV_read _ _ (by omega)]; show some _ = _; rw [hin]) rfl rfl hd1 k1
theorem x_zald {n0 n k : Nat} {ρ : Nat → Int → Option Nat} {σ : Nat → Int → Int} {i : Int} (hd : dok M.2.1 (pc, .baload, 1, nx, tg)) (hs : shp k = (13, n)) (hk : k < n0) (hix : 0 ≤ i ∧ i < n) (kk : RunX l G M R nx L (vi (σ k i) :: st) (n0, ρ, σ) ca sl Q) : RunX l G M R pc L (vi i :: vr k :: st) (n0, ρ, σ) ca sl Q := by
  intro p e s m args below meth c H locs Z ls hc hn hks hr hi hlo hl
  obtain ⟨hd1, hd2, hd3⟩ := hd
  dsimp only at hd1 hd2 hd3
  subst hd2
  have k1 := kk p e s m args below meth c H locs Z ls hc hn hks hr hi hlo hl
  have hcl := hi.2.2 k hk
  have hle := shp_le k (Nat.lt_of_lt_of_le hk hi.1.2)
  unfold cellq at hcl
  rw [hs] at hcl hle
  obtain ⟨cA, h1, h2⟩ := hcl
  have hle : n ≤ 256 := hle
  have hnn := o32_in hix (by omega)
  have hcn := o32_ix (i := i) hix.1 (by omega)
  have hin : ((i.toNat : Nat) : Int) = i := Int.toNat_of_nonneg hix.1
  refine W.zald (v := Value.int (Int32.ofInt (σ k i))) hc.1 hc.2.1 h1 (h2 _ _) (fun q => by cases q) (by rw [arrV_size]; exact hnn) (by rw [hcn, arrV_read _ _ (by omega)]; show some _ = _; rw [hin]) rfl rfl hd1 k1
theorem x_lald {n0 n k : Nat} {ρ : Nat → Int → Option Nat} {σ : Nat → Int → Int} {i : Int} (hd : dok M.2.1 (pc, .laload, 1, nx, tg)) (hs : shp k = (14, n)) (hk : k < n0) (hix : 0 ≤ i ∧ i < n) (kk : RunX l G M R nx L (vl (σ k i) :: st) (n0, ρ, σ) ca sl Q) : RunX l G M R pc L (vi i :: vr k :: st) (n0, ρ, σ) ca sl Q := by
  intro p e s m args below meth c H locs Z ls hc hn hks hr hi hlo hl
  obtain ⟨hd1, hd2, hd3⟩ := hd
  dsimp only at hd1 hd2 hd3
  subst hd2
  have k1 := kk p e s m args below meth c H locs Z ls hc hn hks hr hi hlo hl
  have hcl := hi.2.2 k hk
  have hle := shp_le k (Nat.lt_of_lt_of_le hk hi.1.2)
  unfold cellq at hcl
  rw [hs] at hcl hle
  obtain ⟨cA, h1, h2⟩ := hcl
  have hle : n ≤ 256 := hle
  have hnn := o32_in hix (by omega)
  have hcn := o32_ix (i := i) hix.1 (by omega)
  have hin : ((i.toNat : Nat) : Int) = i := Int.toNat_of_nonneg hix.1
  refine W.lald (v := Value.long (Int64.ofInt (σ k i))) hc.1 hc.2.1 h1 (h2 _ _) (fun q => by cases q) (by rw [arrV_size]; exact hnn) (by rw [hcn, arrV_read _ _ (by omega)]; show some _ = _; rw [hin]) rfl rfl hd1 k1
theorem x_aald {n0 n k r : Nat} {ρ : Nat → Int → Option Nat} {σ : Nat → Int → Int} {i : Int} (hd : dok M.2.1 (pc, .aaload, 1, nx, tg)) (hs : shp k = (15, n)) (hk : k < n0) (hix : 0 ≤ i ∧ i < n) (hρ : ρ k i = some r) (kk : RunX l G M R nx L (vr r :: st) (n0, ρ, σ) ca sl Q) : RunX l G M R pc L (vi i :: vr k :: st) (n0, ρ, σ) ca sl Q := by
  intro p e s m args below meth c H locs Z ls hc hn hks hr hi hlo hl
  obtain ⟨hd1, hd2, hd3⟩ := hd
  dsimp only at hd1 hd2 hd3
  subst hd2
  have k1 := kk p e s m args below meth c H locs Z ls hc hn hks hr hi hlo hl
  have hcl := hi.2.2 k hk
  have hle := shp_le k (Nat.lt_of_lt_of_le hk hi.1.2)
  unfold cellq at hcl
  rw [hs] at hcl hle
  obtain ⟨cA, h1, h2⟩ := hcl
  have hle : n ≤ 256 := hle
  have hnn := o32_in hix (by omega)
  have hcn := o32_ix (i := i) hix.1 (by omega)
  have hin : ((i.toNat : Nat) : Int) = i := Int.toNat_of_nonneg hix.1
  refine W.aald (v := crf G (some r)) hc.1 hc.2.1 h1 (h2 _ _) rfl (fun q => by cases q) (by rw [arrV_size]; exact hnn) (by rw [hcn, arrV_read _ _ (by omega)]; show some (crf G (ρ k _)) = _; rw [hin, hρ]) rfl rfl hd1 k1
theorem x_iast {n0 n k : Nat} {ρ : Nat → Int → Option Nat} {σ : Nat → Int → Int} {i v : Int} (hd : dok M.2.1 (pc, .iastore, 1, nx, tg)) (hs : shp k = (12, n)) (hk : k < n0) (hix : 0 ≤ i ∧ i < n) (kk : RunX l G M R nx L st (n0, ρ, upq σ k i v) ca sl Q) : RunX l G M R pc L (vi v :: vi i :: vr k :: st) (n0, ρ, σ) ca sl Q := by
  intro p e s m args below meth c H locs Z ls hc hn hks hr hi hlo hl
  obtain ⟨hd1, hd2, hd3⟩ := hd
  dsimp only at hd1 hd2 hd3
  subst hd2
  have hcl := hi.2.2 k hk
  have hle := shp_le k (Nat.lt_of_lt_of_le hk hi.1.2)
  unfold cellq at hcl
  rw [hs] at hcl hle
  obtain ⟨cA, h1, h2⟩ := hcl
  have hle : n ≤ 256 := hle
  have hnn := o32_in hix (by omega)
  have hcn := o32_ix (i := i) hix.1 (by omega)
  have hin : ((i.toNat : Nat) : Int) = i := Int.toNat_of_nonneg hix.1
  refine W.iast hc.1 hc.2.1 h1 (h2 _ _) (fun q => by cases q) (by rw [arrV_size]; exact hnn) rfl rfl hd1 (fun H1 e1 e2 e3 => ?_)
  have hI : Invq G (n0, ρ, upq σ k i v) s H1 := by
    refine hi.put hk (nho hs (by decide)) e2 e3 ?_ (fun _ _ => rfl) (fun a ha => upq_ne ha)
    unfold cellq
    rw [hs]
    refine ⟨cA, ?_, h2⟩
    rw [e1, hcn, arrV_store]
    refine congrArg some (congrArg (arrV cA n) (funext fun j => ?_))
    show updV _ _ _ j = Value.int (Int32.ofInt (upq σ k i v k j))
    rw [upq_eq]
    by_cases q : j = i.toNat
    · subst q
      rw [if_pos hin]
      simp [updV]
    · rw [if_neg (by omega)]
      simp [updV, q]
  refine kk p e s m args below meth c H1 _ Z ls hc hn hks hr hI (fun q hq => ?_) hl
  rcases List.mem_append.mp hq with q1 | q1
  · exact hlo q q1
  · rw [List.mem_singleton] at q1
    subst q1
    show G.1 ≤ adr G k
    rw [adr_lt (Nat.lt_of_lt_of_le hk (Nat.le_trans hi.1.2 (by decide)))]
    omega
theorem x_zast {n0 n k : Nat} {ρ : Nat → Int → Option Nat} {σ : Nat → Int → Int} {i v : Int} (hd : dok M.2.1 (pc, .bastore, 1, nx, tg)) (hs : shp k = (13, n)) (hk : k < n0) (hix : 0 ≤ i ∧ i < n) (hz : v = 0 ∨ v = 1) (kk : RunX l G M R nx L st (n0, ρ, upq σ k i v) ca sl Q) : RunX l G M R pc L (vi v :: vi i :: vr k :: st) (n0, ρ, σ) ca sl Q := by
  intro p e s m args below meth c H locs Z ls hc hn hks hr hi hlo hl
  obtain ⟨hd1, hd2, hd3⟩ := hd
  dsimp only at hd1 hd2 hd3
  subst hd2
  have hcl := hi.2.2 k hk
  have hle := shp_le k (Nat.lt_of_lt_of_le hk hi.1.2)
  unfold cellq at hcl
  rw [hs] at hcl hle
  obtain ⟨cA, h1, h2⟩ := hcl
  have hle : n ≤ 256 := hle
  have hnn := o32_in hix (by omega)
  have hcn := o32_ix (i := i) hix.1 (by omega)
  have hin : ((i.toNat : Nat) : Int) = i := Int.toNat_of_nonneg hix.1
  refine W.zast hc.1 hc.2.1 h1 (h2 _ _) (fun q => by cases q) (by rw [arrV_size]; exact hnn) rfl rfl hd1 (fun H1 e1 e2 e3 => ?_)
  have hI : Invq G (n0, ρ, upq σ k i v) s H1 := by
    refine hi.put hk (nho hs (by decide)) e2 e3 ?_ (fun _ _ => rfl) (fun a ha => upq_ne ha)
    unfold cellq
    rw [hs]
    refine ⟨cA, ?_, h2⟩
    rw [show narrow .boolean (.int (Int32.ofInt v)) = .int (Int32.ofInt v) by rcases hz with rfl | rfl <;> rfl] at e1
    rw [e1, hcn, arrV_store]
    refine congrArg some (congrArg (arrV cA n) (funext fun j => ?_))
    show updV _ _ _ j = Value.int (Int32.ofInt (upq σ k i v k j))
    rw [upq_eq]
    by_cases q : j = i.toNat
    · subst q
      rw [if_pos hin]
      simp [updV]
    · rw [if_neg (by omega)]
      simp [updV, q]
  refine kk p e s m args below meth c H1 _ Z ls hc hn hks hr hI (fun q hq => ?_) hl
  rcases List.mem_append.mp hq with q1 | q1
  · exact hlo q q1
  · rw [List.mem_singleton] at q1
    subst q1
    show G.1 ≤ adr G k
    rw [adr_lt (Nat.lt_of_lt_of_le hk (Nat.le_trans hi.1.2 (by decide)))]
    omega
theorem x_last {n0 n k : Nat} {ρ : Nat → Int → Option Nat} {σ : Nat → Int → Int} {i v : Int} (hd : dok M.2.1 (pc, .lastore, 1, nx, tg)) (hs : shp k = (14, n)) (hk : k < n0) (hix : 0 ≤ i ∧ i < n) (kk : RunX l G M R nx L st (n0, ρ, upq σ k i v) ca sl Q) : RunX l G M R pc L (vl v :: vi i :: vr k :: st) (n0, ρ, σ) ca sl Q := by
  intro p e s m args below meth c H locs Z ls hc hn hks hr hi hlo hl
  obtain ⟨hd1, hd2, hd3⟩ := hd
  dsimp only at hd1 hd2 hd3
  subst hd2
  have hcl := hi.2.2 k hk
  have hle := shp_le k (Nat.lt_of_lt_of_le hk hi.1.2)
  unfold cellq at hcl
  rw [hs] at hcl hle
  obtain ⟨cA, h1, h2⟩ := hcl
  have hle : n ≤ 256 := hle
  have hnn := o32_in hix (by omega)
  have hcn := o32_ix (i := i) hix.1 (by omega)
  have hin : ((i.toNat : Nat) : Int) = i := Int.toNat_of_nonneg hix.1
  refine W.last hc.1 hc.2.1 h1 (h2 _ _) (fun q => by cases q) (by rw [arrV_size]; exact hnn) rfl rfl hd1 (fun H1 e1 e2 e3 => ?_)
  have hI : Invq G (n0, ρ, upq σ k i v) s H1 := by
    refine hi.put hk (nho hs (by decide)) e2 e3 ?_ (fun _ _ => rfl) (fun a ha => upq_ne ha)
    unfold cellq
    rw [hs]
    refine ⟨cA, ?_, h2⟩
    rw [e1, hcn, arrV_store]
    refine congrArg some (congrArg (arrV cA n) (funext fun j => ?_))
    show updV _ _ _ j = Value.long (Int64.ofInt (upq σ k i v k j))
    rw [upq_eq]
    by_cases q : j = i.toNat
    · subst q
      rw [if_pos hin]
      simp [updV]
    · rw [if_neg (by omega)]
      simp [updV, q]
  refine kk p e s m args below meth c H1 _ Z ls hc hn hks hr hI (fun q hq => ?_) hl
  rcases List.mem_append.mp hq with q1 | q1
  · exact hlo q q1
  · rw [List.mem_singleton] at q1
    subst q1
    show G.1 ≤ adr G k
    rw [adr_lt (Nat.lt_of_lt_of_le hk (Nat.le_trans hi.1.2 (by decide)))]
    omega
end XR
