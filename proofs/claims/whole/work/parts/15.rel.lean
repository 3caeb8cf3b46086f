/-! lists of numbers in the order of a key, as insertion makes them -/
def insL (key : Int → Int) (x : Int) : List Int → List Int
  | [] => [x]
  | y :: l => if key y ≤ key x then y :: insL key x l else x :: y :: l
def srtL (key : Int → Int) (p : Int → Bool) : Nat → List Int
  | 0 => []
  | n + 1 => if p n = true then insL key n (srtL key p n) else srtL key p n
/-- the array f begins with the list -/
def RepL (f : Int → Int) (l : List Int) : Prop := ∀ (k : Nat) (x : Int), l[k]? = some x → f k = x
theorem insL_mem {key : Int → Int} {x z : Int} : ∀ {l : List Int}, z ∈ insL key x l ↔ z = x ∨ z ∈ l
  | [] => by simp [insL]
  | y :: l => by
    unfold insL
    split
    · rw [List.mem_cons, insL_mem, List.mem_cons]
      constructor
      · rintro (h | h | h)
        · exact Or.inr (Or.inl h)
        · exact Or.inl h
        · exact Or.inr (Or.inr h)
      · rintro (h | h | h)
        · exact Or.inr (Or.inl h)
        · exact Or.inl h
        · exact Or.inr (Or.inr h)
    · rw [List.mem_cons]
theorem insL_len {key : Int → Int} {x : Int} : ∀ {l : List Int}, (insL key x l).length = l.length + 1
  | [] => rfl
  | y :: l => by
    unfold insL
    split
    · rw [List.length_cons, insL_len, List.length_cons]
    · rfl
theorem srtL_mem {key : Int → Int} {p : Int → Bool} {z : Int} : ∀ {n : Nat}, z ∈ srtL key p n ↔ 0 ≤ z ∧ z < n ∧ p z = true
  | 0 => by
    simp only [srtL, List.not_mem_nil, false_iff]
    omega
  | n + 1 => by
    unfold srtL
    split
    · rename_i h
      rw [insL_mem, srtL_mem]
      constructor
      · rintro (rfl | ⟨h1, h2, h3⟩)
        · exact ⟨by omega, by omega, h⟩
        · exact ⟨h1, by omega, h3⟩
      · rintro ⟨h1, h2, h3⟩
        by_cases e : z = n
        · exact Or.inl e
        · exact Or.inr ⟨h1, by omega, h3⟩
    · rename_i h
      rw [srtL_mem]
      constructor
      · rintro ⟨h1, h2, h3⟩
        exact ⟨h1, by omega, h3⟩
      · rintro ⟨h1, h2, h3⟩
        refine ⟨h1, ?_, h3⟩
        by_cases e : z = n
        · subst e; exact absurd h3 h
        · omega
theorem srtL_len {key : Int → Int} : ∀ {n : Nat}, (srtL key (fun _ => true) n).length = n
  | 0 => rfl
  | n + 1 => by
    show (if true = true then insL key n (srtL key (fun _ => true) n) else _).length = _
    rw [if_pos rfl, insL_len, srtL_len]
theorem srtL_len_le {key : Int → Int} {p : Int → Bool} : ∀ {n : Nat}, (srtL key p n).length ≤ n
  | 0 => Nat.le_refl _
  | n + 1 => by
    unfold srtL
    have := srtL_len_le (key := key) (p := p) (n := n)
    split
    · rw [insL_len]; omega
    · omega
theorem insL_sorted {key : Int → Int} {x : Int} : ∀ {l : List Int}, l.Pairwise (fun a b => key a ≤ key b) → (insL key x l).Pairwise (fun a b => key a ≤ key b)
  | [], _ => by simp [insL]
  | y :: l, h => by
    rw [List.pairwise_cons] at h
    unfold insL
    split
    · rename_i h1
      rw [List.pairwise_cons]
      refine ⟨fun a ha => ?_, insL_sorted h.2⟩
      rcases insL_mem.mp ha with rfl | ha
      · exact h1
      · exact h.1 a ha
    · rename_i h1
      rw [List.pairwise_cons, List.pairwise_cons]
      refine ⟨fun a ha => ?_, h⟩
      rcases List.mem_cons.mp ha with rfl | ha
      · omega
      · have := h.1 a ha; omega
theorem srtL_sorted {key : Int → Int} {p : Int → Bool} : ∀ {n : Nat}, (srtL key p n).Pairwise (fun a b => key a ≤ key b)
  | 0 => List.Pairwise.nil
  | n + 1 => by
    unfold srtL
    split
    · exact insL_sorted srtL_sorted
    · exact srtL_sorted
theorem insL_nodup {key : Int → Int} {x : Int} : ∀ {l : List Int}, l.Nodup → x ∉ l → (insL key x l).Nodup
  | [], _, _ => by simp [insL]
  | y :: l, h, hx => by
    rw [List.nodup_cons] at h
    unfold insL
    split
    · rw [List.nodup_cons]
      refine ⟨fun q => ?_, insL_nodup h.2 (fun q => hx (List.mem_cons_of_mem _ q))⟩
      rcases insL_mem.mp q with rfl | q
      · exact hx List.mem_cons_self
      · exact h.1 q
    · rw [List.nodup_cons, List.nodup_cons]
      exact ⟨hx, h⟩
theorem srtL_nodup {key : Int → Int} {p : Int → Bool} : ∀ {n : Nat}, (srtL key p n).Nodup
  | 0 => List.nodup_nil
  | n + 1 => by
    unfold srtL
    split
    · exact insL_nodup srtL_nodup (fun q => by have := srtL_mem.mp q; omega)
    · exact srtL_nodup
/-- where it goes in -/
theorem insL_split {key : Int → Int} {x : Int} : ∀ {l1 l2 : List Int}, (∀ y ∈ l1, key y ≤ key x) → (∀ y ∈ l2, key x < key y) → insL key x (l1 ++ l2) = l1 ++ x :: l2
  | [], [], _, _ => rfl
  | [], y :: l2, _, h2 => by
    show (if key y ≤ key x then _ else _) = _
    rw [if_neg (by have := h2 y List.mem_cons_self; omega)]
    rfl
  | y :: l1, l2, h1, h2 => by
    show (if key y ≤ key x then y :: insL key x (l1 ++ l2) else _) = _
    rw [if_pos (h1 y List.mem_cons_self), insL_split (fun z hz => h1 z (List.mem_cons_of_mem _ hz)) h2]
    rfl
theorem insL_filter {key : Int → Int} {x : Int} {q : Int → Bool} : ∀ {l : List Int}, l.Pairwise (fun a b => key a ≤ key b) → (insL key x l).filter q = if q x = true then insL key x (l.filter q) else l.filter q
  | [], _ => by
    show List.filter q [x] = _
    by_cases h : q x = true
    · rw [if_pos h]; simp [insL, h]
    · rw [if_neg h]; simp [h]
  | y :: l, h => by
    have h0 := h
    rw [List.pairwise_cons] at h
    by_cases h1 : key y ≤ key x
    · rw [show insL key x (y :: l) = (if key y ≤ key x then y :: insL key x l else x :: y :: l) from rfl, if_pos h1]
      rw [List.filter_cons, insL_filter h.2, List.filter_cons]
      by_cases hy : q y = true
      · rw [if_pos hy, if_pos hy]
        by_cases hx : q x = true
        · rw [if_pos hx, if_pos hx]
          show _ = if key y ≤ key x then _ else _
          rw [if_pos h1]
        · rw [if_neg hx, if_neg hx]
      · rw [if_neg hy, if_neg hy]
    · rw [show insL key x (y :: l) = (if key y ≤ key x then y :: insL key x l else x :: y :: l) from rfl, if_neg h1]
      rw [List.filter_cons]
      by_cases hx : q x = true
      · rw [if_pos hx, if_pos hx]
        have : insL key x ([] ++ List.filter q (y :: l)) = [] ++ x :: List.filter q (y :: l) := insL_split (fun z hz => by cases hz) (fun z hz => by
          have hz2 := (List.mem_filter.mp hz).1
          rcases List.mem_cons.mp hz2 with rfl | hz3
          · omega
          · have := h.1 z hz3; omega)
        exact this.symm
      · rw [if_neg hx, if_neg hx]
theorem srtL_filter {key : Int → Int} {p q : Int → Bool} : ∀ {n : Nat}, (srtL key p n).filter q = srtL key (fun i => p i && q i) n
  | 0 => rfl
  | n + 1 => by
    unfold srtL
    by_cases hp : p n = true
    · rw [if_pos hp, insL_filter srtL_sorted, srtL_filter]
      by_cases hq : q n = true
      · rw [if_pos hq, if_pos (by simp [hp, hq])]
      · rw [if_neg hq, if_neg (by simp [hq])]
    · rw [if_neg hp, srtL_filter, if_neg (by simp [hp])]
theorem insL_cong {key key' : Int → Int} {x : Int} : ∀ {l : List Int}, key x = key' x → (∀ y ∈ l, key y = key' y) → insL key x l = insL key' x l
  | [], _, _ => rfl
  | y :: l, h1, h2 => by
    unfold insL
    rw [h1, h2 y List.mem_cons_self, insL_cong h1 (fun z hz => h2 z (List.mem_cons_of_mem _ hz))]
theorem srtL_cong {key key' : Int → Int} {p p' : Int → Bool} : ∀ {n : Nat}, (∀ i : Int, 0 ≤ i → i < n → key i = key' i ∧ p i = p' i) → srtL key p n = srtL key' p' n
  | 0, _ => rfl
  | n + 1, h => by
    unfold srtL
    have h1 := h n (by omega) (by omega)
    have h2 := srtL_cong (key := key) (key' := key') (p := p) (p' := p') (n := n) (fun i a b => h i a (by omega))
    rw [h1.2, h2, insL_cong h1.1 (fun y hy => (h y (srtL_mem.mp hy).1 (by have := srtL_mem.mp hy; omega)).1)]
/-! THE SPECIFICATION'S WORDS, AND THE RELATION BETWEEN CLASS AND MODEL -/
def updI (f : Int → Int) (k v : Int) : Int → Int := fun j => if j = k then v else f j
/-- NET of house h in sort so, of the first n sales -/
def netS (sl by9 so9 ck : Int → Int) (h so : Int) : Nat → Int
  | 0 => 0
  | n + 1 => netS sl by9 so9 ck h so n + (if so9 n = so then (if by9 n = h then ck n else 0) - (if sl n = h then ck n else 0) else 0)
/-- strikes of term t's first c clauses -/
def markS (cd vl : Int → Int → Int) (t : Int) (s : Int → Bool) : Nat → (Int → Bool)
  | 0 => s
  | c + 1 => if cd t c = 10 then (fun x => if x = vl t c then true else markS cd vl t s c x) else markS cd vl t s c
/-- what is struck on day d by the j last terms -/
def strS (dy cl : Int → Int) (cd vl : Int → Int → Int) (d : Int) (nt : Nat) : Nat → (Int → Bool)
  | 0 => fun _ => false
  | j + 1 => if dy ((nt : Int) - 1 - j) ≤ d ∧ strS dy cl cd vl d nt j ((nt : Int) - 1 - j) = false then markS cd vl ((nt : Int) - 1 - j) (strS dy cl cd vl d nt j) (cl ((nt : Int) - 1 - j)).toNat else strS dy cl cd vl d nt j
def cntS (dy cl : Int → Int) (cd vl : Int → Int → Int) (d : Int) (nt : Nat) (t : Int) : Bool := decide (dy t ≤ d) && !(strS dy cl cd vl d nt nt t)
/-- what the first c clauses of term t make of h -/
def ruleS (cd vl : Int → Int → Int) (t : Int) (h : Int → Int) : Nat → (Int → Int)
  | 0 => h
  | c + 1 => if cd t c ≠ 10 then updI (ruleS cd vl t h c) (cd t c) (vl t c) else ruleS cd vl t h c
def held0 (k : Int) : Int := [2, 1, 0, 10, 0, 0, 0, 0, 0, 2257].getD k.toNat 0
def foldS (cl : Int → Int) (cd vl : Int → Int → Int) (l : List Int) (h : Int → Int) : Int → Int := l.foldl (fun h t => ruleS cd vl t h (cl t).toNat) h
/-- what holds on day d: names 0..4, dry 5..8, rank 9 -/
def heldS (dy cl : Int → Int) (cd vl : Int → Int → Int) (nt : Nat) (d : Int) : Int → Int := foldS cl cd vl ((srtL dy (fun _ => true) nt).filter (cntS dy cl cd vl d nt)) held0
def hasPq (k : Int) : Prop := k = 0 ∨ k = 1 ∨ k = 3 ∨ k = 5 ∨ k = 9
def RNow (a b : Int) : Prop := b = a ∧ 0 ≤ a ∧ a ≤ 2000
def LotOk (now : Int) (c2 c3 c4 c5 c6 : Int → Int) (i : Int) : Prop := (0 ≤ c2 i ∧ c2 i ≤ 3) ∧ (1 ≤ c3 i ∧ c3 i ≤ 200) ∧ (1 ≤ c4 i ∧ c4 i ≤ 999) ∧ (0 ≤ c5 i ∧ c5 i ≤ 5) ∧ (0 ≤ c6 i ∧ c6 i ≤ now)
def RLots (now nl ml : Int) (c2 c3 c4 c5 c6 m2 m3 m4 m5 m6 : Int → Int) : Prop := ml = nl ∧ (0 ≤ nl ∧ nl ≤ 12) ∧ (m2 = c2 ∧ m3 = c3 ∧ m4 = c4 ∧ m5 = c5 ∧ m6 = c6) ∧ ∀ i, 0 ≤ i → i < nl → LotOk now c2 c3 c4 c5 c6 i
def RRoom (c m : Int → Int) : Prop := m = c ∧ ∀ f, 0 ≤ f → f < 6 → 0 ≤ c f ∧ c f ≤ 999
def LineOk (now nl : Int) (kd dy td tg pp qq nn : Int → Int) (i : Int) : Prop :=
  (0 ≤ kd i ∧ kd i ≤ 10) ∧ (0 ≤ dy i ∧ dy i ≤ td i ∧ td i ≤ now) ∧
  (kd i = 0 ∨ kd i = 8 → 0 ≤ tg i ∧ tg i < nl) ∧ (kd i = 10 → 0 ≤ tg i ∧ tg i < i) ∧ (¬ (kd i = 0 ∨ kd i = 8 ∨ kd i = 10) → 0 ≤ tg i ∧ tg i < i ∧ (kd (tg i) = 0 ∨ kd (tg i) = 2)) ∧
  (hasPq (kd i) → 0 ≤ pp i ∧ pp i ≤ 7) ∧ (¬ hasPq (kd i) → pp i = -1) ∧ (kd i = 1 → 0 ≤ qq i ∧ qq i ≤ 7) ∧ (kd i ≠ 1 → qq i = -1) ∧
  (kd i = 0 ∨ kd i = 2 ∨ kd i = 7 ∨ kd i = 8 → 1 ≤ nn i ∧ nn i ≤ 200) ∧ (kd i = 1 → 0 ≤ nn i ∧ nn i ≤ 1) ∧ (kd i = 3 → 1 ≤ nn i ∧ nn i ≤ 9999) ∧ (kd i = 4 ∨ kd i = 5 ∨ kd i = 6 ∨ kd i = 9 ∨ kd i = 10 → nn i = -1)
def RLines (now nl n mn : Int) (kd dy td tg pp qq nn mkd mdy mtd mtg mpp mqq mnn ord : Int → Int) : Prop := mn = n ∧ (0 ≤ n ∧ n ≤ 120) ∧ (mkd = kd ∧ mdy = dy ∧ mtd = td ∧ mtg = tg ∧ mpp = pp ∧ mqq = qq ∧ mnn = nn) ∧
  (∀ i, 0 ≤ i → i < n → LineOk now nl kd dy td tg pp qq nn i) ∧ (∀ i j, 0 ≤ i → i ≤ j → j < n → td i ≤ td j) ∧ RepL ord (srtL dy (fun _ => true) n.toNat)
def mostQ (f : Int) : Int := [99, 1, 1, 999, 1].getD f.toNat 0
/-- a clause in both tellings: the class's code and value, the model's kind, first, second -/
def ClRel (t cd vl ck f s : Int) : Prop :=
  (ck = 0 ∧ 0 ≤ f ∧ f ≤ 4 ∧ cd = f ∧ vl = s ∧ 0 ≤ s ∧ s ≤ mostQ f) ∨
  (ck = 1 ∧ 0 ≤ f ∧ f ≤ 3 ∧ cd = 5 + f ∧ vl = s ∧ 0 ≤ s ∧ s ≤ 999) ∨
  (ck = 2 ∧ cd = 9 ∧ 1 ≤ s ∧ s ≤ 4 ∧ 0 ≤ vl ∧ vl < 4096 ∧ 0 ≤ f ∧ f < 256 ∧ (∀ k : Nat, k < 4 → ((k : Int) < s → vl / 8 ^ k % 8 = f / 4 ^ k % 4 + 1) ∧ (s ≤ k → vl / 8 ^ k % 8 = 0)) ∧ ∀ a b : Nat, a < b → (b : Int) < s → f / 4 ^ a % 4 ≠ f / 4 ^ b % 4) ∨
  (ck = 3 ∧ cd = 10 ∧ vl = f ∧ 0 ≤ f ∧ f < t)
def RTerms (nt mnt : Int) (dy cl mdy mcl : Int → Int) (cd vl : Int → Int → Int) (mck mf ms ord : Int → Int) : Prop := mnt = nt ∧ (0 ≤ nt ∧ nt ≤ 8) ∧ (mdy = dy ∧ mcl = cl) ∧ (∀ t, 0 ≤ t → t < nt → (0 ≤ dy t ∧ dy t ≤ 2000) ∧ (0 ≤ cl t ∧ cl t ≤ 10) ∧ ∀ c, 0 ≤ c → c < cl t → ClRel t (cd t c) (vl t c) (mck (10 * t + c)) (mf (10 * t + c)) (ms (10 * t + c))) ∧ RepL ord (srtL dy (fun _ => true) nt.toNat)
def RText (len mlen : Int) (tx mtx : Int → Int) (fa mfa : Int) : Prop := mlen = len ∧ (0 ≤ len ∧ len ≤ 160) ∧ mtx = tx ∧ (∀ i, 0 ≤ i → i < 160 → 0 ≤ tx i ∧ tx i ≤ 255) ∧ mfa = fa ∧ -1 ≤ fa ∧ fa ≤ 160
def RWeigh (nl nw mw : Int) (a b c d ma mb mc md : Int → Int) : Prop := mw = nw ∧ (0 ≤ nw ∧ nw ≤ 40) ∧ (ma = a ∧ mb = b ∧ mc = c ∧ md = d) ∧ ∀ i, 0 ≤ i → i < nw → (0 ≤ a i ∧ a i < nl) ∧ (1 ≤ b i ∧ b i ≤ 200) ∧ (0 ≤ c i ∧ c i ≤ 199999) ∧ (0 ≤ d i ∧ d i ≤ 2000)
def RUnpaid (u : Int → Int → Int) (m : Int → Int) : Prop := ∀ h i, 0 ≤ h → h < 8 → 0 ≤ i → i < 12 → m (8 * i + h) = u h i ∧ 0 ≤ u h i ∧ u h i ≤ 9999
def RSales (ns ms : Int) (sl by9 so9 ck m : Int → Int) : Prop := ms = ns ∧ (0 ≤ ns ∧ ns ≤ 24) ∧ (∀ i, 0 ≤ i → i < ns → (0 ≤ sl i ∧ sl i ≤ 7) ∧ (0 ≤ by9 i ∧ by9 i ≤ 7) ∧ (0 ≤ so9 i ∧ so9 i ≤ 3) ∧ (1 ≤ ck i ∧ ck i ≤ 99)) ∧ ∀ h so, 0 ≤ h → h < 8 → 0 ≤ so → so < 4 → m (8 * so + h) = netS sl by9 so9 ck h so ns.toNat
def RDues (nd md : Int) (a b v ma mb mv coin mcoin : Int → Int) : Prop := md = nd ∧ (0 ≤ nd ∧ nd ≤ 24) ∧ (ma = a ∧ mb = b ∧ mv = v ∧ mcoin = coin) ∧ (∀ i, 0 ≤ i → i < nd → (0 ≤ a i ∧ a i ≤ 7) ∧ (0 ≤ b i ∧ b i ≤ 7) ∧ (1 ≤ v i ∧ v i ≤ 9999)) ∧ ∀ h, 0 ≤ h → h < 8 → 0 ≤ coin h ∧ coin h ≤ 9999
def RPart (pf m : Int → Int) : Prop := (∀ s, 0 ≤ s → s < 4 → (0 ≤ pf s ∧ pf s < 16) ∧ ∀ t : Nat, t < 4 → (m (4 * s + t) = 0 ∨ m (4 * s + t) = 1) ∧ pf s / 2 ^ t % 2 = m (4 * s + t) ∧ m (4 * (t : Int) + s) = m (4 * s + t)) ∧ ∀ s, 0 ≤ s → s < 4 → m (5 * s) = 0
/-- the numbers that terms keep of the day asked last -/
def RCache (on nt : Int) (dy cl : Int → Int) (cd vl : Int → Int → Int) (held : Int → Int) : Prop := on = -1 ∨ ((0 ≤ on ∧ on ≤ 2000) ∧ ∀ k, 0 ≤ k → k < 10 → held k = heldS dy cl cd vl nt.toNat on k)
/-- eight rows by number -/
def sel8 (a0 a1 a2 a3 a4 a5 a6 a7 : Int → Int) (t : Int) : Int → Int := if t = 0 then a0 else if t = 1 then a1 else if t = 2 then a2 else if t = 3 then a3 else if t = 4 then a4 else if t = 5 then a5 else if t = 6 then a6 else a7
abbrev cdq (σ : Nat → Int → Int) : Int → Int → Int := sel8 (σ 21) (σ 22) (σ 23) (σ 24) (σ 25) (σ 26) (σ 27) (σ 28)
abbrev vlq (σ : Nat → Int → Int) : Int → Int → Int := sel8 (σ 30) (σ 31) (σ 32) (σ 33) (σ 34) (σ 35) (σ 36) (σ 37)
abbrev upaq (σ : Nat → Int → Int) : Int → Int → Int := sel8 (σ 80) (σ 81) (σ 82) (σ 83) (σ 84) (σ 85) (σ 86) (σ 87)
theorem eight {t : Int} (h : 0 ≤ t ∧ t < 8) : t = 0 ∨ t = 1 ∨ t = 2 ∨ t = 3 ∨ t = 4 ∨ t = 5 ∨ t = 6 ∨ t = 7 := by omega
theorem cdq_at {σ : Nat → Int → Int} {t : Int} (h : 0 ≤ t ∧ t < 8) : σ (21 + t.toNat) = cdq σ t := by
  rcases eight h with rfl | rfl | rfl | rfl | rfl | rfl | rfl | rfl <;> rfl
theorem vlq_at {σ : Nat → Int → Int} {t : Int} (h : 0 ≤ t ∧ t < 8) : σ (30 + t.toNat) = vlq σ t := by
  rcases eight h with rfl | rfl | rfl | rfl | rfl | rfl | rfl | rfl <;> rfl
theorem upaq_at {σ : Nat → Int → Int} {t : Int} (h : 0 ≤ t ∧ t < 8) : σ (80 + t.toNat) = upaq σ t := by
  rcases eight h with rfl | rfl | rfl | rfl | rfl | rfl | rfl | rfl <;> rfl
def RR (σ : Nat → Int → Int) : Prop :=
  RNow (σ 0 0) (σ 114 0) ∧
  RLots (σ 0 0) (σ 1 5) (σ 114 1) (σ 2) (σ 3) (σ 4) (σ 5) (σ 6) (σ 115) (σ 116) (σ 117) (σ 119) (σ 120) ∧
  RRoom (σ 105) (σ 121) ∧
  RLines (σ 0 0) (σ 1 5) (σ 7 9) (σ 114 9) (σ 8) (σ 9) (σ 10) (σ 11) (σ 12) (σ 13) (σ 14) (σ 122) (σ 123) (σ 124) (σ 125) (σ 126) (σ 127) (σ 128) (σ 15) ∧
  RTerms (σ 17 8) (σ 114 22) (σ 18) (σ 19) (σ 133) (σ 134) (cdq σ) (vlq σ) (σ 135) (σ 136) (σ 137) (σ 38) ∧
  RText (σ 41 1) (σ 114 29) (σ 42) (σ 138) (σ 41 6) (σ 114 32) ∧
  RWeigh (σ 1 5) (σ 74 4) (σ 114 54) (σ 75) (σ 76) (σ 77) (σ 78) (σ 155) (σ 156) (σ 157) (σ 158) ∧
  RUnpaid (upaq σ) (σ 159) ∧
  RSales (σ 88 7) (σ 114 60) (σ 89) (σ 90) (σ 91) (σ 92) (σ 160) ∧
  RDues (σ 96 4) (σ 114 63) (σ 97) (σ 98) (σ 99) (σ 162) (σ 163) (σ 164) (σ 101) (σ 167) ∧
  RPart (σ 106) (σ 168) ∧
  RCache (σ 17 7) (σ 17 8) (σ 18) (σ 19) (cdq σ) (vlq σ) (σ 40)
/-- a call on both: the same answer, and the relation holds behind it -/
def Pair (l : Launch) (G : GC) (K1 : MI) (d1 : Nat) (K2 : MI) (d2 : Nat) (As : List AV) (σ : Nat → Int → Int) : Prop :=
  ∃ P : Int → (Nat → Int → Int) → Prop, CI l G K1 d1 (vr 0 :: As) σ P ∧ ∀ z τ, P z τ → rgi z ∧ CI l G K2 d2 (vr 114 :: As) τ (fun z' τ' => z' = z ∧ RR τ')
