/-! OWN MACHINE. Numbers are Int, cells go by number (cell k lies at base + k; constants from 1000 on), their contents are functions. -/
abbrev AV : Type := Int ⊕ Int ⊕ Option Nat
abbrev vi (z : Int) : AV := Sum.inl z
abbrev vl (z : Int) : AV := Sum.inr (Sum.inl z)
abbrev vr (k : Nat) : AV := Sum.inr (Sum.inr (some k))
/-- base, the heap at the law's start, classes and slots, addresses of constants, the script's length and ints -/
abbrev GC : Type := Nat × Heap × va_G × (Nat → Nat) × Nat × (Nat → Int)
abbrev WS : Type := Nat × (Nat → Int → Option Nat) × (Nat → Int → Int)
abbrev MI : Type := MethodName × ByteArray × Nat × Option FieldType
/-- where cell k lies; number 104 is of no cell (its shape is of kind 99) -/
def posq (k : Nat) : Nat := if k ≤ 104 then k else k - 1
def adr (G : GC) (k : Nat) : Nat := if k < 1000 then G.1 + posq k else G.2.2.2.1 (k - 1000)
def crf (G : GC) (r : Option Nat) : Value := match r with
  | none => .null
  | some k => .ref (adr G k)
def cvl (G : GC) (v : AV) : Value := match v with
  | .inl z => .int (Int32.ofInt z)
  | .inr (.inl z) => .long (Int64.ofInt z)
  | .inr (.inr r) => crf G r
def fvl (G : GC) (ci : Nat) (ρ : Nat → Int → Option Nat) (σ : Nat → Int → Int) (k j : Nat) : Value := if fI ci j = true then .int (Int32.ofInt (σ k j)) else crf G (ρ k j)
def upq {α : Type} (σ : Nat → Int → α) (k : Nat) (i : Int) (v : α) : Nat → Int → α := fun a => if a = k then (fun b => if b = i then v else σ k b) else σ a
theorem upq_ne {α : Type} {σ : Nat → Int → α} {k a : Nat} {i : Int} {v : α} (h : a ≠ k) : upq σ k i v a = σ a := if_neg h
theorem upq_eq {α : Type} {σ : Nat → Int → α} {k : Nat} {i b : Int} {v : α} : upq σ k i v k b = if b = i then v else σ k b := by unfold upq; rw [if_pos rfl]
def arrq (U : State) (H : Heap) (a : Nat) (ty : FieldType) (n : Nat) (f : Nat → Value) : Prop := ∃ cA : ClassId, H[a]? = some (arrV cA n f) ∧ ArrOfT U cA ty
/-- cell k holds what ρ and σ say -/
def cellq (G : GC) (ρ : Nat → Int → Option Nat) (σ : Nat → Int → Int) (U : State) (H : Heap) (k : Nat) : Prop := match shp k with
  | (12, n) => arrq U H (adr G k) .int n (fun j => .int (Int32.ofInt (σ k j)))
  | (13, n) => arrq U H (adr G k) .boolean n (fun j => .int (Int32.ofInt (σ k j)))
  | (14, n) => arrq U H (adr G k) .long n (fun j => .long (Int64.ofInt (σ k j)))
  | (15, n) => arrq U H (adr G k) (.array .int) n (fun j => crf G (ρ k j))
  | (99, _) => True
  | (ci, N) => t_OB (adr G k) (G.2.2.1.1 ci) N (G.2.2.1.2 ci) H (fun j => fvl G ci ρ σ k j)
def Invq (G : GC) (S : WS) (U : State) (H : Heap) : Prop := (H.size = G.1 + posq S.1 ∧ S.1 ≤ 175) ∧ (∀ q : Nat, q < G.1 → H[q]? = G.2.1[q]?) ∧ ∀ k : Nat, k < S.1 → cellq G S.2.1 S.2.2 U H k
/-- the words that hold on the way -/
def tbG : List Cond := lw_tbl.filter goodWord
/-- static arrays: class, name, length, contents (cells 1000, 1001 ..) -/
abbrev stq : List (String × String × List Int) := [("WharfPapers", "HAS_P", [1, 1, 0, 1, 0, 1, 0, 0, 0, 1, 0]), ("WharfPapers", "LEAST_N", [1, 0, 1, 1, -1, -1, -1, 1, 1, -1, -1]), ("WharfPapers", "MOST_N", [200, 1, 200, 9999, -1, -1, -1, 200, 200, -1, -1]), ("WharfPapers$Reader", "MOST_OF_NAME", [99, 1, 1, 999, 1]), ("WharfPapers$Terms", "AT_FIRST", [2, 1, 0, 10, 0, 0, 0, 0, 0, 2257]), ("WharfPapers$Plan", "OF_A_FLOOR", [279936, 46656, 7776, 1296, 216, 36, 6, 1])]
/-- texts: entry in the Reader's table, text (cells 1010 ..; their bytes 1030 ..) -/
abbrev txq : List (Nat × String × List Int32) := [(98, "rent", [114, 101, 110, 116]), (100, "title", [116, 105, 116, 108, 101]), (102, "stop", [115, 116, 111, 112]), (104, "bear", [98, 101, 97, 114]), (106, "beyond", [98, 101, 121, 111, 110, 100]), (108, "bank", [98, 97, 110, 107]), (110, "seller", [115, 101, 108, 108, 101, 114]), (112, "owner", [111, 119, 110, 101, 114]), (114, "let", [108, 101, 116]), (116, "dry", [100, 114, 121]), (118, "rank", [114, 97, 110, 107]), (120, "strike", [115, 116, 114, 105, 107, 101]), (122, "by", [98, 121])]
def lenq : List Nat := txq.map (fun q => q.2.2.length)
def bytq : List (List Int32) := txq.map (fun q => q.2.2)
abbrev sfmt : String := "Ljava/util/function/BiFunction;"
/-- links of nest mates -/
abbrev nstq : List (String × Nat × MethodName × String) := [("WharfPapers", 15, ⟨"WharfPapers$Lots", "<init>", "()V"⟩, "WharfPapers"), ("WharfPapers", 22, ⟨"WharfPapers$Lines", "<init>", "()V"⟩, "WharfPapers"), ("WharfPapers", 29, ⟨"WharfPapers$Terms", "<init>", "()V"⟩, "WharfPapers"), ("WharfPapers", 36, ⟨"WharfPapers$Reader", "<init>", "()V"⟩, "WharfPapers"), ("WharfPapers", 55, ⟨"WharfPapers$Doubt", "<init>", "()V"⟩, "WharfPapers"), ("WharfPapers", 62, ⟨"WharfPapers$Weighings", "<init>", "()V"⟩, "WharfPapers"), ("WharfPapers", 74, ⟨"WharfPapers$Sales", "<init>", "()V"⟩, "WharfPapers"), ("WharfPapers", 81, ⟨"WharfPapers$Dues", "<init>", "()V"⟩, "WharfPapers"), ("WharfPapers", 95, ⟨"WharfPapers$Plan", "<init>", "()V"⟩, "WharfPapers"), ("WharfPapers$Doubt", 45, ⟨"WharfPapers", "within", "(III)Z"⟩, "WharfPapers")]
def AOA (U : State) : Prop := (Cond.arrayOver (.array .int)).before #[] U = true
theorem AOA.moved {u U : State} (hvm : u.vm.Alike U.vm) (h : AOA u) : AOA U := Jvm.Stand.arrayOver_alikeB hvm h
theorem AOA.use {A : Array Value} {U : State} (h : AOA U) : (Cond.arrayOver (.array .int)).before A U = true := h
/-- what the tables give of any state on the way: classes, static arrays, texts, the script -/
def Kst (G : GC) (U : State) : Prop := va_K G.2.2.1 vwCl [] U ∧
  (∀ (i : Nat) (q : String × String × List Int), stq[i]? = some q → va_Z q.1 q.2.1 "[I" (.ref (adr G (1000 + i))) (fun a => G.1 ≤ a) U G.2.1 ∧ va_T .int (adr G (1000 + i)) q.2.2.length (fun j => .int (Int32.ofInt (q.2.2.getD j 0))) (fun a => G.1 ≤ a) U G.2.1) ∧
  (∀ (i : Nat) (q : Nat × String × List Int32), txq[i]? = some q → vk_R "WharfPapers$Reader" q.1 q.2.1 (adr G (1010 + i)) U) ∧
  vk_S 13 lenq bytq (fun i => adr G (1010 + i)) (fun i => adr G (1030 + i)) (fun a => G.1 ≤ a) U G.2.1 ∧
  va_Z "java/lang/String" "COMPACT_STRINGS" "Z" (.int 1) (fun a => G.1 ≤ a) U G.2.1 ∧
  (∃ r : Option Nat, va_Z "jdk/internal/util/Preconditions" "SIOOBE_FORMATTER" sfmt (crf G r) (fun a => G.1 ≤ a) U G.2.1) ∧
  va_T .int (adr G 1060) G.2.2.2.2.1 (fun j => .int (Int32.ofInt (G.2.2.2.2.2 j))) (fun a => G.1 ≤ a) U G.2.1 ∧
  (∀ q ∈ nstq, va_Nw (.methodLinkNest q.1 q.2.1 q.2.2.1 q.2.2.2) U) ∧ AOA U
theorem Kst.warm {G : GC} {u U : State} (hW : u.WarmedH U.vm) (h : Kst G u) : Kst G U := by
  obtain ⟨h1, h2, h3, h4, h5, ⟨r, h6⟩, h7, h8, h9⟩ := h
  exact ⟨va_K.moved hW.alike h1, fun i q hq => ⟨(h2 i q hq).1.moved hW.alike, (h2 i q hq).2.moved hW.alike⟩, fun i q hq => (h3 i q hq).warm hW, h4.moved hW.alike, h5.moved hW.alike, ⟨r, h6.moved hW.alike⟩, h7.moved hW.alike, fun q hq => va_Nw.warmM hW (h8 q hq), h9.moved hW.alike⟩
theorem Kst.same {G : GC} {u U : State} (hv : U.vm = u.vm) (h : Kst G u) : Kst G U := by
  have ha : u.vm.Alike U.vm := by rw [hv]; exact Vm.Alike.refl _
  obtain ⟨h1, h2, h3, h4, h5, ⟨r, h6⟩, h7, h8, h9⟩ := h
  exact ⟨va_K.moved ha h1, fun i q hq => ⟨(h2 i q hq).1.moved ha, (h2 i q hq).2.moved ha⟩, fun i q hq => (h3 i q hq).same hv, h4.moved ha, h5.moved ha, ⟨r, h6.moved ha⟩, h7.moved ha, fun q hq => (h8 q hq).same rfl hv.symm, h9.moved ha⟩
theorem arrq.moved {u U : State} {H : Heap} {a : Nat} {ty : FieldType} {n : Nat} {f : Nat → Value} (hvm : u.vm.Alike U.vm) (h : arrq u H a ty n f) : arrq U H a ty n f := by
  obtain ⟨cA, h1, h2⟩ := h
  exact ⟨cA, h1, arrOfT_moved hvm h2⟩
theorem cellq.moved {G : GC} {ρ : Nat → Int → Option Nat} {σ : Nat → Int → Int} {u U : State} {H : Heap} {k : Nat} (hvm : u.vm.Alike U.vm) (h : cellq G ρ σ u H k) : cellq G ρ σ U H k := by
  unfold cellq at h ⊢
  split at h
  · exact arrq.moved hvm h
  · exact arrq.moved hvm h
  · exact arrq.moved hvm h
  · exact arrq.moved hvm h
  · exact h
  · exact h
theorem Invq.moved {G : GC} {S : WS} {u U : State} {H : Heap} (hvm : u.vm.Alike U.vm) (h : Invq G S u H) : Invq G S U H := ⟨h.1, h.2.1, fun k hk => (h.2.2 k hk).moved hvm⟩
theorem adr_lt {G : GC} {k : Nat} (h : k < 1000) : adr G k = G.1 + posq k := if_pos h
theorem posq_ne {a b : Nat} (h : a ≠ b) (ha : a ≠ 104) (hb : b ≠ 104) : posq a ≠ posq b := by unfold posq; split <;> split <;> omega
theorem posq_lt {a b : Nat} (h : a < b) (ha : a ≠ 104) : posq a < posq b := by unfold posq; split <;> split <;> omega
theorem nho {k kd n : Nat} (hs : shp k = (kd, n)) (h : kd < 99) : k ≠ 104 := by
  intro e
  subst e
  have h1 : (shp 104).1 = kd := congrArg Prod.fst hs
  rw [show (shp 104).1 = 99 from rfl] at h1
  omega
/-- a cell reads alike where heap, refs and numbers are alike there -/
theorem cellq.kept {G : GC} {ρ ρ' : Nat → Int → Option Nat} {σ σ' : Nat → Int → Int} {U : State} {H H' : Heap} {k : Nat} (h : cellq G ρ σ U H k) (hH : H'[adr G k]? = H[adr G k]?) (hρ : ρ' k = ρ k) (hσ : σ' k = σ k) : cellq G ρ' σ' U H' k := by
  unfold cellq at h ⊢
  split at h
  · obtain ⟨cA, h1, h2⟩ := h; exact ⟨cA, by rw [hH, h1, hσ], h2⟩
  · obtain ⟨cA, h1, h2⟩ := h; exact ⟨cA, by rw [hH, h1, hσ], h2⟩
  · obtain ⟨cA, h1, h2⟩ := h; exact ⟨cA, by rw [hH, h1, hσ], h2⟩
  · obtain ⟨cA, h1, h2⟩ := h; exact ⟨cA, by rw [hH, h1, hρ], h2⟩
  · trivial
  · refine t_OB.to (t_OB.kept h hH) (fun j _ => ?_)
    unfold fvl
    rw [hσ, hρ]
/-- one cell is written: the world behind it -/
theorem Invq.put {G : GC} {n : Nat} {ρ ρ' : Nat → Int → Option Nat} {σ σ' : Nat → Int → Int} {U : State} {H H' : Heap} {k : Nat} (h : Invq G (n, ρ, σ) U H) (hk : k < n) (h4 : k ≠ 104) (hs : H'.size = H.size) (ho : ∀ q : Nat, q ≠ adr G k → H'[q]? = H[q]?) (hc : cellq G ρ' σ' U H' k) (hρ : ∀ a, a ≠ k → ρ' a = ρ a) (hσ : ∀ a, a ≠ k → σ' a = σ a) : Invq G (n, ρ', σ') U H' := by
  obtain ⟨⟨h1, h0⟩, h2, h3⟩ := h
  have hk9 : k < 1000 := Nat.lt_of_lt_of_le hk (Nat.le_trans h0 (by decide))
  refine ⟨⟨by rw [hs, h1], h0⟩, fun q hq => ?_, fun a ha => ?_⟩
  · rw [ho q (by rw [adr_lt hk9]; omega)]
    exact h2 q hq
  · by_cases e : a = k
    · subst e; exact hc
    · by_cases e4 : a = 104
      · subst e4; trivial
      · refine (h3 a ha).kept (ho _ ?_) (hρ a e) (hσ a e)
        have ha9 : a < 1000 := Nat.lt_of_lt_of_le ha (Nat.le_trans h0 (by decide))
        rw [adr_lt hk9, adr_lt ha9]
        have := posq_ne e e4 h4
        omega
/-! locals -/
def hdL (l : List (Option AV)) : Option AV := match l with
  | [] => none
  | a :: _ => a
def noL (a : Option AV) : Option AV := match a with
  | some (.inr (.inl _)) => none
  | b => b
def sL : Nat → List (Option AV) → AV → List (Option AV)
  | 0, l, v => some v :: l.tail
  | 1, l, v => noL (hdL l) :: some v :: l.tail.tail
  | i + 2, l, v => hdL l :: sL (i + 1) l.tail v
/-- a long: the place behind it is gone too -/
def sLL : Nat → List (Option AV) → AV → List (Option AV)
  | 0, l, v => some v :: none :: l.tail.tail
  | 1, l, v => noL (hdL l) :: some v :: none :: l.tail.tail.tail
  | i + 2, l, v => hdL l :: sLL (i + 1) l.tail v
def prL (G : GC) : Nat → List (Option AV) → List (Nat × Value)
  | _, [] => []
  | n, none :: l => prL G (n + 1) l
  | n, some v :: l => (n, cvl G v) :: prL G (n + 1) l
def nthq {α : Type} : List α → Nat → Option α
  | [], _ => none
  | a :: _, 0 => some a
  | _ :: l, n + 1 => nthq l n
theorem prL_in {G : GC} : ∀ {L : List (Option AV)} {n i : Nat} {v : AV}, nthq L i = some (some v) → (n + i, cvl G v) ∈ prL G n L
  | [], n, i, v, h => by cases h
  | none :: l, n, 0, v, h => by cases h
  | none :: l, n, i + 1, v, h => by
    have := prL_in (G := G) (L := l) (n := n + 1) (i := i) (v := v) h
    show _ ∈ prL G (n + 1) l
    rw [show n + (i + 1) = n + 1 + i by omega]
    exact this
  | some w :: l, n, 0, v, h => by
    cases h
    exact List.mem_cons_self
  | some w :: l, n, i + 1, v, h => by
    have := prL_in (G := G) (L := l) (n := n + 1) (i := i) (v := v) h
    show _ ∈ _ :: prL G (n + 1) l
    rw [show n + (i + 1) = n + 1 + i by omega]
    exact List.mem_cons_of_mem _ this
theorem prL_of {G : GC} : ∀ {L : List (Option AV)} {n : Nat} {q : Nat × Value}, q ∈ prL G n L → ∃ (i : Nat) (v : AV), nthq L i = some (some v) ∧ q = (n + i, cvl G v)
  | [], n, q, h => by cases h
  | none :: l, n, q, h => by
    obtain ⟨i, v, h1, h2⟩ := prL_of (G := G) (L := l) (n := n + 1) h
    exact ⟨i + 1, v, h1, by rw [h2]; congr 1; omega⟩
  | some w :: l, n, q, h => by
    rcases List.mem_cons.mp h with h | h
    · exact ⟨0, w, rfl, h⟩
    · obtain ⟨i, v, h1, h2⟩ := prL_of (G := G) (L := l) (n := n + 1) h
      exact ⟨i + 1, v, h1, by rw [h2]; congr 1; omega⟩
def lh (G : GC) (ls : Array Slot) (nL : Nat) (L : List (Option AV)) : Prop := lv_has ls nL (prL G 0 L)
theorem lh.at {G : GC} {ls : Array Slot} {nL : Nat} {L : List (Option AV)} (h : lh G ls nL L) {i : Nat} {v : AV} (hi : nthq L i = some (some v)) : ls[i]? = some (.val (cvl G v)) := by
  have := h.2.2 _ (prL_in (G := G) (n := 0) hi)
  simpa using this
theorem nthq_hd {L : List (Option AV)} {v : AV} (h : hdL L = some v) : nthq L 0 = some (some v) := by
  cases L with
  | nil => cases h
  | cons a l => exact congrArg some h
theorem nthq_tl {α : Type} {L : List α} {i : Nat} {v : α} (h : nthq L.tail i = some v) : nthq L (i + 1) = some v := by
  cases L with
  | nil => cases h
  | cons a l => exact h
theorem noL_some {a : Option AV} {v : AV} (h : noL a = some v) : a = some v ∧ ∀ z, v ≠ vl z := by
  unfold noL at h
  split at h
  · cases h
  · rename_i hn
    refine ⟨h, fun z hz => ?_⟩
    subst hz
    exact hn z h
theorem sL_at : ∀ {i : Nat} {L : List (Option AV)} {v w : AV} {j : Nat}, nthq (sL i L v) j = some (some w) → (j = i ∧ w = v) ∨ (j ≠ i ∧ nthq L j = some (some w) ∧ (j + 1 = i → ∀ z, w ≠ vl z))
  | 0, L, v, w, 0, h => Or.inl ⟨rfl, by cases h; rfl⟩
  | 0, L, v, w, j + 1, h => Or.inr ⟨by omega, nthq_tl h, by omega⟩
  | 1, L, v, w, 0, h => by
    have h1 : noL (hdL L) = some w := Option.some.inj h
    obtain ⟨h2, h3⟩ := noL_some h1
    exact Or.inr ⟨by omega, nthq_hd h2, fun _ => h3⟩
  | 1, L, v, w, 1, h => Or.inl ⟨rfl, by cases h; rfl⟩
  | 1, L, v, w, j + 2, h => Or.inr ⟨by omega, nthq_tl (nthq_tl h), by omega⟩
  | i + 2, L, v, w, 0, h => Or.inr ⟨by omega, nthq_hd (Option.some.inj h), by omega⟩
  | i + 2, L, v, w, j + 1, h => by
    rcases sL_at (i := i + 1) (L := L.tail) (v := v) (w := w) (j := j) h with ⟨h1, h2⟩ | ⟨h1, h2, h3⟩
    · exact Or.inl ⟨by omega, h2⟩
    · exact Or.inr ⟨by omega, nthq_tl h2, fun e => h3 (by omega)⟩
theorem sLL_at : ∀ {i : Nat} {L : List (Option AV)} {v w : AV} {j : Nat}, nthq (sLL i L v) j = some (some w) → (j = i ∧ w = v) ∨ (j ≠ i ∧ j ≠ i + 1 ∧ nthq L j = some (some w) ∧ (j + 1 = i → ∀ z, w ≠ vl z))
  | 0, L, v, w, 0, h => Or.inl ⟨rfl, by cases h; rfl⟩
  | 0, L, v, w, 1, h => by cases h
  | 0, L, v, w, j + 2, h => Or.inr ⟨by omega, by omega, nthq_tl (nthq_tl h), by omega⟩
  | 1, L, v, w, 0, h => by
    have h1 : noL (hdL L) = some w := Option.some.inj h
    obtain ⟨h2, h3⟩ := noL_some h1
    exact Or.inr ⟨by omega, by omega, nthq_hd h2, fun _ => h3⟩
  | 1, L, v, w, 1, h => Or.inl ⟨rfl, by cases h; rfl⟩
  | 1, L, v, w, 2, h => by cases h
  | 1, L, v, w, j + 3, h => Or.inr ⟨by omega, by omega, nthq_tl (nthq_tl (nthq_tl h)), by omega⟩
  | i + 2, L, v, w, 0, h => Or.inr ⟨by omega, by omega, nthq_hd (Option.some.inj h), by omega⟩
  | i + 2, L, v, w, j + 1, h => by
    rcases sLL_at (i := i + 1) (L := L.tail) (v := v) (w := w) (j := j) h with ⟨h1, h2⟩ | ⟨h1, h0, h2, h3⟩
    · exact Or.inl ⟨by omega, h2⟩
    · exact Or.inr ⟨by omega, by omega, nthq_tl h2, fun e => h3 (by omega)⟩
theorem cvl_cat {G : GC} {w : AV} (h : (cvl G w).category = 2) : ∃ z, w = vl z := by
  match w with
  | .inl z => cases h
  | .inr (.inl z) => exact ⟨z, rfl⟩
  | .inr (.inr none) => cases h
  | .inr (.inr (some k)) => cases h
theorem lh.set {G : GC} {ls : Array Slot} {nL i : Nat} {L : List (Option AV)} {v : AV} {lv' : List (Nat × Value)} (hl : (i, cvl G v) :: (prL G 0 L).filter (fun q => !(q.1 == i) && !(q.1 + 1 == i && q.2.category == 2)) = lv') (h : lv_has ls nL lv') : lh G ls nL (sL i L v) := by
  refine ⟨h.1, h.2.1, fun q hq => h.2.2 q ?_⟩
  obtain ⟨j, w, h1, rfl⟩ := prL_of hq
  rw [← hl, Nat.zero_add]
  rcases sL_at h1 with ⟨rfl, rfl⟩ | ⟨h2, h3, h4⟩
  · exact List.mem_cons_self
  · refine List.mem_cons_of_mem _ (List.mem_filter.mpr ⟨by simpa using prL_in (G := G) (n := 0) h3, ?_⟩)
    have h5 : (j + 1 == i && (cvl G w).category == 2) = false := by
      by_cases e : j + 1 = i
      · have : ¬ (cvl G w).category = 2 := fun q => by
          obtain ⟨z, hz⟩ := cvl_cat q
          exact h4 e z hz
        simp [this]
      · simp [e]
    simp [h2, h5]
theorem lh.setL {G : GC} {ls : Array Slot} {nL i : Nat} {L : List (Option AV)} {v : AV} {lv' : List (Nat × Value)} (hl : (i, cvl G v) :: (prL G 0 L).filter (fun q => !(q.1 == i) && (!(q.1 == i + 1) && !(q.1 + 1 == i && q.2.category == 2))) = lv') (h : lv_has ls nL lv') : lh G ls nL (sLL i L v) := by
  refine ⟨h.1, h.2.1, fun q hq => h.2.2 q ?_⟩
  obtain ⟨j, w, h1, rfl⟩ := prL_of hq
  rw [← hl, Nat.zero_add]
  rcases sLL_at h1 with ⟨rfl, rfl⟩ | ⟨h2, h6, h3, h4⟩
  · exact List.mem_cons_self
  · refine List.mem_cons_of_mem _ (List.mem_filter.mpr ⟨by simpa using prL_in (G := G) (n := 0) h3, ?_⟩)
    have h5 : (j + 1 == i && (cvl G w).category == 2) = false := by
      by_cases e : j + 1 = i
      · have : ¬ (cvl G w).category = 2 := fun q => by
          obtain ⟨z, hz⟩ := cvl_cat q
          exact h4 e z hz
        simp [this]
      · simp [e]
    simp [h2, h5, h6]
