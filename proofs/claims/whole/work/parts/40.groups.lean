/-! groups that are 0 together -/
def bst (f : List Int → Int) : List Int → List Int → Int
  | _, [] => 0
  | pre, x :: r => max (f (pre ++ r)) (bst f (pre ++ [x]) r)
/-- the most groups of a list of n that are 0 together -/
def gF : Nat → List Int → Int
  | 0, _ => 0
  | n + 1, L => bst (gF n) [] L + (if L.sum = 0 then 1 else 0)
theorem bst_0 {f : List Int → Int} : ∀ {r pre : List Int}, 0 ≤ bst f pre r
  | [], _ => Int.le_refl _
  | x :: r, pre => by
    have := bst_0 (f := f) (r := r) (pre := pre ++ [x])
    show 0 ≤ max _ _
    omega
theorem bst_le {f : List Int → Int} {B : Int} (hB : 0 ≤ B) (hf : ∀ L, f L ≤ B) : ∀ {r pre : List Int}, bst f pre r ≤ B
  | [], _ => hB
  | x :: r, pre => by
    have := bst_le hB hf (r := r) (pre := pre ++ [x])
    have := hf (pre ++ r)
    show max _ _ ≤ B
    omega
theorem gF_rg : ∀ {n : Nat} {L : List Int}, 0 ≤ gF n L ∧ gF n L ≤ n
  | 0, _ => ⟨Int.le_refl _, Int.le_refl _⟩
  | n + 1, L => by
    have a := bst_0 (f := gF n) (r := L) (pre := [])
    have b := bst_le (f := gF n) (B := n) (by omega) (fun L => gF_rg.2) (r := L) (pre := [])
    show 0 ≤ bst (gF n) [] L + (if L.sum = 0 then 1 else 0) ∧ bst (gF n) [] L + (if L.sum = 0 then 1 else 0) ≤ ((n + 1 : Nat) : Int)
    split <;> omega
/-- the values at the bits h .. h + n - 1 of s -/
def vF (x : Int → Int) (s : Nat) : Nat → Nat → List Int
  | 0, _ => []
  | n + 1, h => if s.testBit h = true then x h :: vF x s n (h + 1) else vF x s n (h + 1)
theorem vF_app {x : Int → Int} {s : Nat} : ∀ {a b h : Nat}, vF x s (a + b) h = vF x s a h ++ vF x s b (h + a)
  | 0, b, h => by rw [Nat.zero_add]; rfl
  | a + 1, b, h => by
    rw [show a + 1 + b = (a + b) + 1 by omega]
    show (if s.testBit h = true then x h :: vF x s (a + b) (h + 1) else vF x s (a + b) (h + 1)) = (if s.testBit h = true then x h :: vF x s a (h + 1) else vF x s a (h + 1)) ++ _
    rw [vF_app (a := a) (b := b) (h := h + 1), show h + 1 + a = h + (a + 1) by omega]
    split <;> rfl
theorem vF_cong {x y : Int → Int} {s s' : Nat} : ∀ {n h : Nat}, (∀ j, h ≤ j → j < h + n → s.testBit j = s'.testBit j ∧ (s.testBit j = true → x j = y j)) → vF x s n h = vF y s' n h
  | 0, _, _ => rfl
  | n + 1, h, q => by
    show (if s.testBit h = true then x h :: vF x s n (h + 1) else vF x s n (h + 1)) = (if s'.testBit h = true then y h :: vF y s' n (h + 1) else vF y s' n (h + 1))
    rw [vF_cong (n := n) (h := h + 1) (fun j a b => q j (by omega) (by omega)), ← (q h (by omega) (by omega)).1]
    by_cases e : s.testBit h = true
    · rw [if_pos e, if_pos e, (q h (by omega) (by omega)).2 e]
    · rw [if_neg e, if_neg e]
theorem vF_len {x : Int → Int} {s : Nat} : ∀ {n h : Nat}, (vF x s n h).length ≤ n
  | 0, _ => Nat.le_refl _
  | n + 1, h => by
    have := vF_len (x := x) (s := s) (n := n) (h := h + 1)
    show (if s.testBit h = true then x h :: vF x s n (h + 1) else vF x s n (h + 1)).length ≤ n + 1
    split
    · rw [List.length_cons]; omega
    · omega
theorem vF_on {x : Int → Int} {s h : Nat} (hb : s.testBit h = true) : vF x s (h + 1) 0 = vF x s h 0 ++ [x h] := by
  rw [vF_app, Nat.zero_add]
  show _ ++ (if s.testBit h = true then [x h] else []) = _
  rw [if_pos hb]
theorem vF_off {x : Int → Int} {s h : Nat} (hb : s.testBit h = false) : vF x s (h + 1) 0 = vF x s h 0 := by
  rw [vF_app, Nat.zero_add]
  show _ ++ (if s.testBit h = true then [x h] else []) = _
  rw [if_neg (by rw [hb]; decide), List.append_nil]
theorem vF_hd {x : Int → Int} {s h m : Nat} (hm : h < m) (hb : s.testBit h = true) : vF x s (m - h) h = x h :: vF x s (m - h - 1) (h + 1) := by
  obtain ⟨q, hq⟩ : ∃ q, m - h = q + 1 := ⟨m - h - 1, by omega⟩
  rw [hq, Nat.add_sub_cancel]
  exact if_pos hb
theorem vF_tl {x : Int → Int} {s h m : Nat} (hm : h < m) (hb : s.testBit h = false) : vF x s (m - h) h = vF x s (m - h - 1) (h + 1) := by
  obtain ⟨q, hq⟩ : ∃ q, m - h = q + 1 := ⟨m - h - 1, by omega⟩
  rw [hq, Nat.add_sub_cancel]
  exact if_neg (by rw [hb]; decide)
theorem tb_x {s h j : Nat} : (s ^^^ 2 ^ h).testBit j = (s.testBit j ^^ decide (h = j)) := by
  rw [Nat.testBit_xor, Nat.testBit_two_pow]
/-- one less: the others stay -/
theorem vF_drop {x : Int → Int} {s h m : Nat} (hm : h < m) (hb : s.testBit h = true) : vF x (s ^^^ 2 ^ h) m 0 = vF x s h 0 ++ vF x s (m - h - 1) (h + 1) := by
  have e : vF x (s ^^^ 2 ^ h) m 0 = vF x (s ^^^ 2 ^ h) h 0 ++ vF x (s ^^^ 2 ^ h) (m - h) h := by
    rw [show m = h + (m - h) by omega, vF_app, Nat.zero_add, show h + (m - h) - h = m - h by omega]
  rw [e, vF_tl hm (by rw [tb_x, hb]; simp)]
  congr 1
  · refine vF_cong (fun j a b => ?_)
    rw [tb_x]
    simp [show ¬ h = j by omega]
  · refine vF_cong (fun j a b => ?_)
    rw [tb_x]
    simp [show ¬ h = j by omega]
theorem vF_all {x : Int → Int} {s h m : Nat} (hm : h < m) (hb : s.testBit h = true) : vF x s m 0 = vF x s h 0 ++ x h :: vF x s (m - h - 1) (h + 1) := by
  rw [← vF_hd hm hb]
  conv => lhs; rw [show m = h + (m - h) by omega]
  rw [vF_app, Nat.zero_add]
theorem vF_split {x : Int → Int} {s h m : Nat} (hm : h ≤ m) : vF x s m 0 = vF x s h 0 ++ vF x s (m - h) h := by
  conv => lhs; rw [show m = h + (m - h) by omega]
  rw [vF_app, Nat.zero_add]
/-- the most groups of the values at the bits of s -/
def gV (x : Int → Int) (m s : Nat) : Int := gF (vF x s m 0).length (vF x s m 0)
theorem gV_rg {x : Int → Int} {m s : Nat} : 0 ≤ gV x m s ∧ gV x m s ≤ m := by
  have := gF_rg (n := (vF x s m 0).length) (L := vF x s m 0)
  have := vF_len (x := x) (s := s) (n := m) (h := 0)
  unfold gV
  omega
/-- what is still to come of the best -/
def bsR (x : Int → Int) (m s h : Nat) : Int := bst (gF ((vF x s m 0).length - 1)) (vF x s h 0) (vF x s (m - h) h)
theorem bsR_on {x : Int → Int} {m s h : Nat} (hm : h < m) (hb : s.testBit h = true) : bsR x m s h = max (gV x m (s ^^^ 2 ^ h)) (bsR x m s (h + 1)) := by
  unfold bsR
  rw [vF_hd hm hb, vF_on hb, show m - (h + 1) = m - h - 1 by omega]
  show max _ _ = _
  congr 1
  unfold gV
  rw [vF_drop hm hb]
  congr 1
  rw [vF_all hm hb, List.length_append, List.length_append, List.length_cons]
  omega
theorem bsR_off {x : Int → Int} {m s h : Nat} (hm : h < m) (hb : s.testBit h = false) : bsR x m s h = bsR x m s (h + 1) := by
  unfold bsR
  rw [vF_tl hm hb, vF_off hb, show m - (h + 1) = m - h - 1 by omega]
theorem bsR_end {x : Int → Int} {m s : Nat} : bsR x m s m = 0 := by
  unfold bsR
  rw [Nat.sub_self]
  rfl
theorem bsR_0 {x : Int → Int} {m s h : Nat} : 0 ≤ bsR x m s h := bst_0
theorem gV_bs {x : Int → Int} {m s : Nat} (hs : vF x s m 0 ≠ []) : gV x m s = bsR x m s 0 + (if (vF x s m 0).sum = 0 then 1 else 0) := by
  unfold gV bsR
  rw [Nat.sub_zero]
  obtain ⟨n, hn⟩ : ∃ n, (vF x s m 0).length = n + 1 := ⟨(vF x s m 0).length - 1, by
    have : (vF x s m 0).length ≠ 0 := fun h => hs (List.length_eq_zero_iff.mp h)
    omega⟩
  rw [hn, Nat.add_sub_cancel]
  rfl
theorem gV_0 {x : Int → Int} {m s : Nat} (hs : vF x s m 0 = []) : gV x m s = 0 := by
  unfold gV
  rw [hs]
  rfl
theorem vF_nil {x : Int → Int} {s : Nat} : ∀ {n h : Nat}, (∀ j, h ≤ j → j < h + n → s.testBit j = false) → vF x s n h = []
  | 0, _, _ => rfl
  | n + 1, h, q => by
    show (if s.testBit h = true then _ else vF x s n (h + 1)) = []
    rw [if_neg (by rw [q h (by omega) (by omega)]; decide)]
    exact vF_nil (fun j a b => q j (by omega) (by omega))
theorem vF_some {x : Int → Int} {s m h : Nat} (hm : h < m) (hb : s.testBit h = true) : vF x s m 0 ≠ [] := by
  rw [vF_all hm hb]
  simp
/-- a set below 2 ^ m that is not empty has a bit below m -/
theorem tb_ex {s m : Nat} (h0 : s ≠ 0) (hs : s < 2 ^ m) : ∃ h, h < m ∧ s.testBit h = true := by
  obtain ⟨i, hi⟩ := Nat.exists_testBit_of_ne_zero h0
  refine ⟨i, ?_, hi⟩
  refine Classical.byContradiction (fun h => ?_)
  rw [Nat.testBit_lt_two_pow (Nat.lt_of_lt_of_le hs (Nat.pow_le_pow_right (by decide) (by omega)))] at hi
  cases hi
theorem bt_all : ∀ s, s < 256 → ∀ h, h < 8 → ((s.testBit h = true ∧ bAnd (bShr (s : Nat) (h : Nat)) 1 = 1 ∧ s ^^^ 2 ^ h < s ∧ bXor s (bShl 1 h) = ((s ^^^ 2 ^ h : Nat) : Int) ∧ bAnd s (bXor (bShl 1 h) (-1)) = ((s ^^^ 2 ^ h : Nat) : Int)) ∨ (s.testBit h = false ∧ bAnd (bShr (s : Nat) (h : Nat)) 1 = 0)) := by decide +kernel
/-- is every bit of a one of u? -/
def sbS (a u : Nat) : Prop := ∀ j, a.testBit j = true → u.testBit j = true
theorem sb_c : ∀ u, u < 256 → (Int32.ofInt 255 &&& (Int32.ofInt (u : Nat) ^^^ Int32.ofInt (-1))) = Int32.ofInt ((255 - u : Nat) : Int) := by decide +kernel
theorem sb_d : ∀ a, a < 256 → Int32.ofInt (a : Nat) = Int32.ofInt (a : Nat) &&& Int32.ofInt 255 := by decide +kernel
theorem sb_n {a u : Nat} (ha : a < 256) (hu : u < 256) : bAnd (a : Nat) (bXor (u : Nat) (-1)) = ((a &&& (255 - u) : Nat) : Int) := by
  have le : a &&& (255 - u) ≤ a := Nat.and_le_left
  rw [← bAnd_n (a := a) (b := 255 - u) (by omega)]
  show (Int32.ofInt _ &&& Int32.ofInt ((Int32.ofInt _ ^^^ Int32.ofInt (-1)).toInt)).toInt = (Int32.ofInt _ &&& Int32.ofInt _).toInt
  rw [Int32.ofInt_toInt, ← sb_c u hu, ← Int32.and_assoc, ← sb_d a ha]
theorem sbS_and {a u : Nat} : a &&& u = a ↔ sbS a u := by
  constructor
  · intro h j hj
    rw [← h, Nat.testBit_and, Bool.and_eq_true] at hj
    exact hj.2
  · intro h
    refine Nat.eq_of_testBit_eq (fun j => ?_)
    rw [Nat.testBit_and]
    cases e : a.testBit j with
    | false => rfl
    | true => rw [h j e]; rfl
theorem sb_all : ∀ a, a < 256 → ∀ u, u < 256 → ((bAnd (a : Nat) (bXor (u : Nat) (-1)) = 0 ∧ a &&& u = a) ∨ (1 ≤ bAnd (a : Nat) (bXor (u : Nat) (-1)) ∧ bAnd (a : Nat) (bXor (u : Nat) (-1)) ≤ 255 ∧ a &&& u ≠ a)) := by
  intro a ha u hu
  rw [sb_n ha hu, sbS_and]
  have le : a &&& (255 - u) ≤ a := Nat.and_le_left
  have tb : ∀ j, (255 - u).testBit j = (decide (j < 8) && !u.testBit j) := fun j => by
    have := Nat.testBit_two_pow_sub_succ (n := 8) (x := u) (by omega) j
    rw [← this, show 2 ^ 8 - (u + 1) = 255 - u by omega]
  have a8 : ∀ j, a.testBit j = true → j < 8 := fun j hj => Classical.byContradiction (fun h => by
    rw [Nat.testBit_lt_two_pow (Nat.lt_of_lt_of_le (show a < 2 ^ 8 by omega) (Nat.pow_le_pow_right (by decide) (by omega)))] at hj
    cases hj)
  by_cases e : a &&& (255 - u) = 0
  · refine Or.inl ⟨by rw [e]; rfl, fun j hj => ?_⟩
    have z : (a &&& (255 - u)).testBit j = false := by rw [e]; exact Nat.zero_testBit j
    rw [Nat.testBit_and, hj, tb, decide_eq_true (a8 j hj)] at z
    simpa using z
  · refine Or.inr ⟨by omega, by omega, fun h => e ?_⟩
    refine Nat.eq_of_testBit_eq (fun j => ?_)
    rw [Nat.testBit_and, tb, Nat.zero_testBit]
    cases q : a.testBit j with
    | false => rfl
    | true => rw [sbS_and.mp h j q]; simp
theorem sbS_x {a u h : Nat} (hs : sbS a u) (hb : a.testBit h = true) : sbS (a ^^^ 2 ^ h) u := by
  intro j hj
  rw [tb_x] at hj
  by_cases e : h = j
  · subst e; rw [hb] at hj; simp at hj
  · simp [e] at hj; exact hs j hj

