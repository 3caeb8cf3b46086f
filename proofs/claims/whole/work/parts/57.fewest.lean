/-! the fewest that reach v: largest first -/
def fwO : List Int → Int → Option Nat
  | [], v => if v ≤ 0 then some 0 else none
  | x :: r, v => if v ≤ 0 then some 0 else (fwO r (v - x)).map (· + 1)
theorem fwO_0 {D : List Int} {v : Int} (h : v ≤ 0) : fwO D v = some 0 := by
  cases D with
  | nil => exact if_pos h
  | cons x r => exact if_pos h
theorem fwO_cons {x v : Int} {r : List Int} (h : ¬ v ≤ 0) : fwO (x :: r) v = (fwO r (v - x)).map (· + 1) := if_neg h
/-- sums of the first k -/
def tkS (D : List Int) (k : Nat) : Int := (D.take k).sum
theorem tkS_cons {x : Int} {r : List Int} {k : Nat} : tkS (x :: r) (k + 1) = x + tkS r k := by
  unfold tkS
  rw [List.take_succ_cons, List.sum_cons]
theorem tkS_0 {D : List Int} : tkS D 0 = 0 := rfl
theorem fwO_iff : ∀ {D : List Int} {v : Int} {k : Nat}, (∀ x ∈ D, 1 ≤ x) → (fwO D v = some k ↔ k ≤ D.length ∧ v ≤ tkS D k ∧ ∀ j, j < k → tkS D j < v)
  | [], v, k, _ => by
    show (if v ≤ 0 then some 0 else none) = some k ↔ _
    have z : ∀ j, tkS [] j = 0 := fun j => by unfold tkS; simp
    by_cases h : v ≤ 0
    · rw [if_pos h]
      constructor
      · intro e
        have e : 0 = k := Option.some.inj e
        subst e
        exact ⟨Nat.le_refl _, by rw [z]; exact h, fun j hj => absurd hj (by omega)⟩
      · rintro ⟨a, -, -⟩
        have a : k ≤ 0 := a
        rw [show k = 0 by omega]
    · rw [if_neg h]
      constructor
      · intro e; cases e
      · rintro ⟨-, b, -⟩; rw [z] at b; exact absurd b h
  | x :: r, v, k, hp => by
    by_cases h : v ≤ 0
    · rw [fwO_0 h]
      constructor
      · intro e
        have e : 0 = k := Option.some.inj e
        subst e
        exact ⟨Nat.zero_le _, h, fun j hj => absurd hj (by omega)⟩
      · rintro ⟨-, -, c⟩
        refine Classical.byContradiction (fun q => ?_)
        have : 0 < k := Nat.pos_of_ne_zero (fun e => q (by rw [e]))
        have := c 0 this
        rw [tkS_0] at this
        omega
    · rw [fwO_cons h, Option.map_eq_some_iff]
      have ih := fun k => fwO_iff (D := r) (v := v - x) (k := k) (fun y hy => hp y (List.mem_cons_of_mem _ hy))
      constructor
      · rintro ⟨k', e, rfl⟩
        obtain ⟨a, b, c⟩ := (ih k').mp e
        refine ⟨by rw [List.length_cons]; omega, by rw [tkS_cons]; omega, fun j hj => ?_⟩
        match j with
        | 0 => rw [tkS_0]; omega
        | j + 1 => rw [tkS_cons]; have := c j (by omega); omega
      · rintro ⟨a, b, c⟩
        match k with
        | 0 => rw [tkS_0] at b; exact absurd b h
        | k + 1 =>
          refine ⟨k, (ih k).mpr ⟨?_, ?_, fun j hj => ?_⟩, rfl⟩
          · rw [List.length_cons] at a; omega
          · rw [tkS_cons] at b; omega
          · have := c (j + 1) (by omega); rw [tkS_cons] at this; omega
/-- into a list that falls -/
def inD (c : Int) : List Int → List Int
  | [] => [c]
  | y :: r => if c ≤ y then y :: inD c r else c :: y :: r
theorem inD_len {c : Int} : ∀ {r : List Int}, (inD c r).length = r.length + 1
  | [] => rfl
  | y :: r => by
    unfold inD
    split
    · rw [List.length_cons, inD_len, List.length_cons]
    · rfl
theorem inD_mem {c z : Int} : ∀ {r : List Int}, z ∈ inD c r → z = c ∨ z ∈ r
  | [], h => Or.inl (List.mem_singleton.mp h)
  | y :: r, h => by
    unfold inD at h
    split at h
    · rcases List.mem_cons.mp h with h | h
      · exact Or.inr (by rw [h]; exact List.mem_cons_self)
      · rcases inD_mem h with h | h
        · exact Or.inl h
        · exact Or.inr (List.mem_cons_of_mem _ h)
    · rcases List.mem_cons.mp h with h | h
      · exact Or.inl h
      · exact Or.inr h
/-- the next of a list that falls is no more than its first -/
theorem tk_step {y : Int} : ∀ {r : List Int} {k : Nat}, (y :: r).Pairwise (fun a b => b ≤ a) → 0 ≤ y → tkS (y :: r) (k + 1) ≤ tkS (y :: r) k + y
  | r, 0, _, _ => by rw [tkS_cons, tkS_0, tkS_0]; omega
  | [], k + 1, _, hy => by
    have z : ∀ j, tkS [] j = 0 := fun j => by unfold tkS; simp
    rw [tkS_cons, tkS_cons, z, z]; omega
  | z :: r, k + 1, h, hy => by
    rw [tkS_cons (x := y), tkS_cons (x := y)]
    rw [List.pairwise_cons] at h
    by_cases hz : 0 ≤ z
    · have := tk_step (y := z) (r := r) (k := k) h.2 hz
      have := h.1 z List.mem_cons_self
      omega
    · -- all behind are below 0
      have neg : ∀ (s : List Int) (k : Nat), (∀ x ∈ s, x ≤ 0) → tkS s (k + 1) ≤ tkS s k := by
        intro s
        induction s with
        | nil => intro k _; unfold tkS; simp
        | cons x s ih =>
          intro k hs
          have hx := hs x List.mem_cons_self
          match k with
          | 0 => rw [tkS_cons, tkS_0, tkS_0]; omega
          | k + 1 =>
            have := ih k (fun q hq => hs q (List.mem_cons_of_mem _ hq))
            rw [tkS_cons (x := x) (k := k + 1), tkS_cons (x := x) (k := k)]
            omega
      have := neg (z :: r) k (fun x hx => by
        rw [List.pairwise_cons] at h
        rcases List.mem_cons.mp hx with e | e
        · omega
        · have := h.2.1 x e; omega)
      omega
theorem inD_tk {c : Int} (hc : 1 ≤ c) : ∀ {r : List Int} {k : Nat}, r.Pairwise (fun a b => b ≤ a) → (∀ x ∈ r, 1 ≤ x) → tkS (inD c r) (k + 1) = max (c + tkS r k) (tkS r (k + 1))
  | [], k, _, _ => by
    have z : ∀ j, tkS [] j = 0 := fun j => by unfold tkS; simp
    show tkS [c] (k + 1) = _
    rw [tkS_cons, z, z]
    omega
  | y :: r, k, h, hp => by
    have h0 := h
    rw [List.pairwise_cons] at h
    unfold inD
    by_cases e : c ≤ y
    · rw [if_pos e]
      match k with
      | 0 => rw [tkS_cons, tkS_0, tkS_0, tkS_cons, tkS_0]; omega
      | k + 1 =>
        rw [tkS_cons, inD_tk hc h.2 (fun x hx => hp x (List.mem_cons_of_mem _ hx)), tkS_cons, tkS_cons]
        omega
    · rw [if_neg e, tkS_cons]
      have := tk_step (k := k) h0 (by have := hp y List.mem_cons_self; omega)
      omega
/-- with one more: it is taken, or the others do -/
theorem fw_min {c v : Int} {r : List Int} {k : Nat} (hc : 1 ≤ c) (hs : r.Pairwise (fun a b => b ≤ a)) (hp : ∀ x ∈ r, 1 ≤ x) (hk : fwO (inD c r) v = some (k + 1)) : (∀ j, fwO r (v - c) = some j → k ≤ j) ∧ (fwO r (v - c) = some k ∨ fwO r v = some (k + 1)) := by
  have hp2 : ∀ x ∈ inD c r, 1 ≤ x := fun x hx => by
    rcases inD_mem hx with e | e
    · omega
    · exact hp x e
  obtain ⟨a, b, d⟩ := (fwO_iff hp2).mp hk
  rw [inD_len] at a
  rw [inD_tk hc hs hp] at b
  have d0 := d 0 (by omega)
  rw [tkS_0] at d0
  have dd : ∀ j, j < k → max (c + tkS r j) (tkS r (j + 1)) < v := fun j hj => by
    have := d (j + 1) (by omega)
    rw [inD_tk hc hs hp] at this
    exact this
  constructor
  · intro j hj
    obtain ⟨-, q, -⟩ := (fwO_iff hp).mp hj
    refine Classical.byContradiction (fun n => ?_)
    have := dd j (by omega)
    omega
  · by_cases e : v - c ≤ tkS r k
    · refine Or.inl ((fwO_iff hp).mpr ⟨by omega, e, fun j hj => ?_⟩)
      have := dd j hj
      omega
    · refine Or.inr ((fwO_iff hp).mpr ⟨?_, by omega, fun j hj => ?_⟩)
      · refine Classical.byContradiction (fun n => ?_)
        have l1 : tkS r k = r.sum := by unfold tkS; rw [List.take_of_length_le (by omega)]
        have l2 : tkS r (k + 1) = r.sum := by unfold tkS; rw [List.take_of_length_le (by omega)]
        omega
      · match j with
        | 0 => rw [tkS_0]; exact d0
        | j + 1 => have := dd j (by omega); omega
/-- the list that falls, by how many have so many -/
def cnL (f : Int → Int) : Nat → List Int
  | 0 => []
  | n + 1 => List.replicate (f ((n + 1 : Nat) : Int)).toNat ((n + 1 : Nat) : Int) ++ cnL f n
theorem cnL_mem {f : Int → Int} {x : Int} : ∀ {n : Nat}, x ∈ cnL f n → 1 ≤ x ∧ x ≤ (n : Int)
  | 0, h => by cases h
  | n + 1, h => by
    rcases List.mem_append.mp h with h | h
    · have := List.eq_of_mem_replicate h; omega
    · have := cnL_mem (n := n) h; omega
theorem cnL_srt {f : Int → Int} : ∀ {n : Nat}, (cnL f n).Pairwise (fun a b => b ≤ a)
  | 0 => List.Pairwise.nil
  | n + 1 => by
    refine List.pairwise_append.mpr ⟨?_, cnL_srt, fun a ha b hb => ?_⟩
    · exact List.pairwise_replicate.mpr (Or.inr (Int.le_refl _))
    · have := List.eq_of_mem_replicate ha
      have := cnL_mem hb
      omega
theorem cnL_cong {f g : Int → Int} : ∀ {n : Nat}, (∀ x, 1 ≤ x → x ≤ (n : Int) → f x = g x) → cnL f n = cnL g n
  | 0, _ => rfl
  | n + 1, h => by
    show List.replicate _ _ ++ cnL f n = List.replicate _ _ ++ cnL g n
    rw [cnL_cong (n := n) (fun x a b => h x a (by omega)), h ((n + 1 : Nat) : Int) (by omega) (by omega)]
theorem inD_app {c : Int} : ∀ {p r : List Int}, (∀ x ∈ p, c ≤ x) → inD c (p ++ r) = p ++ inD c r
  | [], _, _ => rfl
  | x :: p, r, h => by
    show (if c ≤ x then x :: inD c (p ++ r) else _) = _
    rw [if_pos (h x List.mem_cons_self), inD_app (fun y hy => h y (List.mem_cons_of_mem _ hy))]
    rfl
theorem inD_top {c : Int} : ∀ {r : List Int}, (∀ x ∈ r, x < c) → inD c r = c :: r
  | [], _ => rfl
  | y :: r, h => by
    show (if c ≤ y then _ else c :: y :: r) = _
    rw [if_neg (by have := h y List.mem_cons_self; omega)]
theorem cnL_in {f : Int → Int} {c : Int} (h0 : ∀ x, 0 ≤ f x) : ∀ {n : Nat}, 1 ≤ c → c ≤ (n : Int) → cnL (updI f c (f c + 1)) n = inD c (cnL f n)
  | 0, a, b => absurd b (by omega)
  | n + 1, a, b => by
    by_cases e : c = ((n + 1 : Nat) : Int)
    · show List.replicate (updI f c (f c + 1) ((n + 1 : Nat) : Int)).toNat _ ++ cnL (updI f c (f c + 1)) n = inD c (List.replicate (f ((n + 1 : Nat) : Int)).toNat _ ++ cnL f n)
      rw [cnL_cong (f := updI f c (f c + 1)) (g := f) (n := n) (fun x x1 x2 => if_neg (by omega)), inD_app (fun x hx => by have := List.eq_of_mem_replicate hx; omega), inD_top (fun x hx => by have := cnL_mem hx; omega)]
      rw [show updI f c (f c + 1) ((n + 1 : Nat) : Int) = f c + 1 from if_pos e.symm, ← e, show (f c + 1).toNat = (f c).toNat + 1 by have := h0 c; omega, List.replicate_succ', List.append_assoc]
      rfl
    · show List.replicate (updI f c (f c + 1) ((n + 1 : Nat) : Int)).toNat _ ++ cnL (updI f c (f c + 1)) n = inD c (List.replicate (f ((n + 1 : Nat) : Int)).toNat _ ++ cnL f n)
      rw [show updI f c (f c + 1) ((n + 1 : Nat) : Int) = f ((n + 1 : Nat) : Int) from if_neg (fun h => e h.symm), cnL_in h0 a (by omega), inD_app (fun x hx => by have := List.eq_of_mem_replicate hx; omega)]
/-- as many of x as are wanted, then the rest -/
theorem fw_rep {x : Int} (hx : 1 ≤ x) {r : List Int} : ∀ {a : Nat} {v : Int}, 0 < v → fwO (List.replicate a x ++ r) v = (fwO r (v - min (a : Int) ((v + x - 1) / x) * x)).map (· + (min (a : Int) ((v + x - 1) / x)).toNat)
  | 0, v, hv => by
    have q : 0 ≤ (v + x - 1) / x := Int.ediv_nonneg (by omega) (by omega)
    rw [show min ((0 : Nat) : Int) ((v + x - 1) / x) = 0 by omega, Int.zero_mul, Int.sub_zero]
    show fwO r v = (fwO r v).map (· + 0)
    cases fwO r v <;> rfl
  | a + 1, v, hv => by
    rw [List.replicate_succ, List.cons_append, fwO_cons (by omega)]
    have q1 : (v + x - 1) / x = (v - 1) / x + 1 := by
      rw [show v + x - 1 = (v - 1) + 1 * x by omega, Int.add_mul_ediv_right _ _ (by omega)]
    have q0 : 0 ≤ (v - 1) / x := Int.ediv_nonneg (by omega) (by omega)
    by_cases e : v - x ≤ 0
    · rw [fwO_0 e]
      have q2 : (v - 1) / x = 0 := Int.ediv_eq_zero_of_lt (by omega) (by omega)
      rw [q1, q2, show min ((a + 1 : Nat) : Int) (0 + 1) = 1 by omega, Int.one_mul, fwO_0 e]
      rfl
    · rw [fw_rep hx (a := a) (by omega)]
      have q3 : (v - x + x - 1) / x = (v - 1) / x := by rw [show v - x + x - 1 = v - 1 by omega]
      rw [q3, q1]
      have q4 : min ((a + 1 : Nat) : Int) ((v - 1) / x + 1) = min (a : Int) ((v - 1) / x) + 1 := by omega
      rw [q4, Int.add_mul, Int.one_mul]
      rw [show v - x - min (a : Int) ((v - 1) / x) * x = v - (min (a : Int) ((v - 1) / x) * x + x) by omega]
      cases fwO r (v - (min (a : Int) ((v - 1) / x) * x + x)) with
      | none => rfl
      | some j =>
        show some (j + _ + 1) = some (j + _)
        congr 1
        omega
theorem fw_all {D : List Int} (hp : ∀ x ∈ D, 1 ≤ x) : ∀ {v : Int}, v ≤ D.sum → ∃ k, fwO D v = some k ∧ k ≤ D.length := by
  induction D with
  | nil => intro v h; exact ⟨0, if_pos h, Nat.le_refl _⟩
  | cons x r ih =>
    intro v h
    by_cases e : v ≤ 0
    · exact ⟨0, fwO_0 e, Nat.zero_le _⟩
    · rw [List.sum_cons] at h
      obtain ⟨k, h1, h2⟩ := ih (fun y hy => hp y (List.mem_cons_of_mem _ hy)) (v := v - x) (by omega)
      exact ⟨k + 1, by rw [fwO_cons e, h1]; rfl, by rw [List.length_cons]; omega⟩
/-- how many of the list have so many -/
def ctL (c : Int → Int) (S : List Int) (n : Int) : Int := ((S.filter (fun w => decide (c w = n))).length : Nat)
theorem ctL_cons {c : Int → Int} {w : Int} {S : List Int} : ctL c (w :: S) = updI (ctL c S) (c w) (ctL c S (c w) + 1) := by
  funext n
  unfold ctL updI
  rw [List.filter_cons]
  by_cases e : n = c w
  · rw [if_pos e, if_pos (decide_eq_true e.symm), List.length_cons, e]
    omega
  · rw [if_neg e, if_neg (by simp; exact fun h => e h.symm)]
theorem ctL_0 {c : Int → Int} {S : List Int} (x : Int) : 0 ≤ ctL c S x := by unfold ctL; omega
/-- the casks of the list, falling -/
def dsL (c : Int → Int) (S : List Int) : List Int := cnL (ctL c S) 200
theorem dsL_cons {c : Int → Int} {w : Int} {S : List Int} (h : 1 ≤ c w ∧ c w ≤ 200) : dsL c (w :: S) = inD (c w) (dsL c S) := by
  unfold dsL
  rw [ctL_cons]
  exact cnL_in ctL_0 h.1 h.2
theorem dsL_nil {c : Int → Int} : dsL c [] = [] := by
  have : ∀ n, cnL (ctL c []) n = [] := by
    intro n
    induction n with
    | zero => rfl
    | succ n ih => show List.replicate (ctL c [] _).toNat _ ++ cnL (ctL c []) n = []; rw [ih]; rfl
  exact this 200
theorem inD_sum {c : Int} : ∀ {r : List Int}, (inD c r).sum = c + r.sum
  | [] => by simp [inD]
  | y :: r => by
    unfold inD
    split
    · rw [List.sum_cons, inD_sum, List.sum_cons]; omega
    · rw [List.sum_cons]
theorem dsL_sum {c : Int → Int} : ∀ {S : List Int}, (∀ w ∈ S, 1 ≤ c w ∧ c w ≤ 200) → (dsL c S).sum = (S.map c).sum ∧ (dsL c S).length = S.length
  | [], _ => by rw [dsL_nil]; exact ⟨rfl, rfl⟩
  | w :: S, h => by
    have := dsL_sum (S := S) (fun x hx => h x (List.mem_cons_of_mem _ hx))
    rw [dsL_cons (h w List.mem_cons_self), inD_sum, inD_len, this.1, this.2, List.map_cons, List.sum_cons, List.length_cons]
    exact ⟨rfl, rfl⟩
/-- which are picked -/
def dbS (c : Int → Int) : List Int → Int → Nat → List Int
  | [], _, _ => []
  | w :: S, v, k => if k = 0 then [] else if fwO (dsL c S) (v - c w) = some (k - 1) then w :: dbS c S (v - c w) (k - 1) else dbS c S v k
/-- one step of the picking -/
theorem db_step {c : Int → Int} {w v : Int} {S : List Int} {k : Nat} (hw : 1 ≤ c w ∧ c w ≤ 200) (hk : fwO (dsL c (w :: S)) v = some (k + 1)) : (∀ j, fwO (dsL c S) (v - c w) = some j → k ≤ j) ∧ (fwO (dsL c S) (v - c w) = some k ∨ fwO (dsL c S) v = some (k + 1)) := by
  rw [dsL_cons hw] at hk
  exact fw_min hw.1 cnL_srt (fun x hx => (cnL_mem hx).1) hk
theorem dbS_len {c : Int → Int} {S : List Int} : ∀ {v : Int} {k : Nat}, (∀ w ∈ S, 1 ≤ c w ∧ c w ≤ 200) → fwO (dsL c S) v = some k → (dbS c S v k).length = k := by
  induction S with
  | nil =>
    intro v k _ h
    rw [dsL_nil] at h
    have h : (if v ≤ 0 then some 0 else none) = some k := h
    split at h
    · have : 0 = k := Option.some.inj h
      rw [← this]; rfl
    · cases h
  | cons w S ih =>
    intro v k hc h
    by_cases k0 : k = 0
    · subst k0
      show (if 0 = 0 then [] else _ : List Int).length = 0
      rw [if_pos rfl]; rfl
    obtain ⟨k, rfl⟩ : ∃ k', k = k' + 1 := ⟨k - 1, by omega⟩
    have st := db_step (hc w List.mem_cons_self) h
    have hc' : ∀ x ∈ S, 1 ≤ c x ∧ c x ≤ 200 := fun x hx => hc x (List.mem_cons_of_mem _ hx)
    show (if k + 1 = 0 then [] else if fwO (dsL c S) (v - c w) = some (k + 1 - 1) then w :: dbS c S (v - c w) (k + 1 - 1) else dbS c S v (k + 1)).length = _
    rw [if_neg (by omega), Nat.add_sub_cancel]
    by_cases e : fwO (dsL c S) (v - c w) = some k
    · rw [if_pos e, List.length_cons, ih hc' e]
    · rw [if_neg e]
      exact ih hc' (st.2.resolve_left e)

