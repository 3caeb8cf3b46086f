/-! plan: what the class lays is the least -/

theorem tbq {s k : Nat} : ((s : Nat) : Int) / 2 ^ k % 2 = 1 ↔ s.testBit k = true := by
  rw [Nat.testBit_eq_decide_div_mod_eq, decide_eq_true_iff]
  constructor <;> intro h <;> exact_mod_cast h
theorem csF_n {g : Nat → Int} {s k : Nat} : csF g (k + 1) (s : Nat) = csF g k (s : Nat) + if s.testBit k = true then g k else 0 := by
  show csF g k (s : Nat) + (if ((s : Nat) : Int) / 2 ^ k % 2 = 1 then g k else 0) = _
  by_cases b : s.testBit k = true
  · rw [if_pos b, if_pos (tbq.mpr b)]
  · rw [if_neg b, if_neg (fun q => b (tbq.mp q))]
theorem csF_on {g g' : Nat → Int} {s : Nat} : ∀ {k : Nat}, (∀ i, i < k → s.testBit i = true → g i = g' i) → csF g k (s : Nat) = csF g' k (s : Nat)
  | 0, _ => rfl
  | k + 1, h => by
    rw [csF_n, csF_n, csF_on (k := k) (fun i hi => h i (by omega))]
    by_cases b : s.testBit k = true
    · rw [if_pos b, if_pos b, h k (by omega) b]
    · rw [if_neg b, if_neg b]
theorem csF_split {g : Nat → Int} {s p : Nat} (hp : ∀ i, p.testBit i = true → s.testBit i = true) : ∀ {k : Nat}, csF g k (s : Nat) = csF g k ((s ^^^ p : Nat) : Int) + csF g k (p : Nat)
  | 0 => rfl
  | k + 1 => by
    rw [csF_n, csF_n, csF_n, csF_split hp (k := k), Nat.testBit_xor]
    have h := hp k
    cases e1 : p.testBit k <;> cases e2 : s.testBit k <;> rw [e1, e2] at h <;> simp at h ⊢ <;> omega
/-- the part of s that a lays on the floor f -/
def ptN (a : Nat → Nat) (f s : Nat) : Nat → Nat
  | 0 => 0
  | k + 1 => ptN a f s k ||| (if s.testBit k = true ∧ a k = f then 2 ^ k else 0)
theorem ptN_bit {a : Nat → Nat} {f s i : Nat} : ∀ {k : Nat}, (ptN a f s k).testBit i = true ↔ (i < k ∧ s.testBit i = true ∧ a i = f)
  | 0 => by unfold ptN; simp
  | k + 1 => by
    have ih := ptN_bit (a := a) (f := f) (s := s) (i := i) (k := k)
    unfold ptN
    rw [Nat.testBit_or, Bool.or_eq_true, ih]
    by_cases b : s.testBit k = true ∧ a k = f
    · rw [if_pos b, Nat.testBit_two_pow, decide_eq_true_iff]
      constructor
      · rintro (h | h)
        · exact ⟨by omega, h.2⟩
        · subst h; exact ⟨by omega, b⟩
      · rintro ⟨h1, h2⟩
        by_cases e : k = i
        · exact Or.inr e
        · exact Or.inl ⟨by omega, h2⟩
    · rw [if_neg b, Nat.zero_testBit]
      constructor
      · rintro (h | h)
        · exact ⟨by omega, h.2⟩
        · cases h
      · rintro ⟨h1, h2⟩
        by_cases e : i = k
        · subst e; exact absurd h2 b
        · exact Or.inl ⟨by omega, h2⟩
theorem bit_ext {x y : Nat} (h : ∀ i, x.testBit i = true ↔ y.testBit i = true) : x = y := Nat.eq_of_testBit_eq (fun i => Bool.eq_iff_iff.mpr (h i))
theorem bit_lt {x k i : Nat} (hx : x < 2 ^ k) (h : x.testBit i = true) : i < k := by
  by_cases c : i < k
  · exact c
  · have := Nat.testBit_lt_two_pow (Nat.lt_of_lt_of_le hx (Nat.pow_le_pow_right (by decide) (Nat.le_of_not_lt c)))
    rw [this] at h; cases h
theorem bit_sub {x y : Nat} (h : ∀ i, x.testBit i = true → y.testBit i = true) : x &&& y = x := bit_ext (fun i => by
  rw [Nat.testBit_and, Bool.and_eq_true]
  exact ⟨fun q => q.1, fun q => ⟨q, h i q⟩⟩)
theorem bit_xor {x y i : Nat} (h : ∀ i, y.testBit i = true → x.testBit i = true) : (x ^^^ y).testBit i = true ↔ (x.testBit i = true ∧ ¬ y.testBit i = true) := by
  rw [Nat.testBit_xor]
  have h := h i
  cases e1 : y.testBit i <;> cases e2 : x.testBit i <;> rw [e1, e2] at h <;> simp at h ⊢
theorem sb_mem {s p : Nat} (hs : s < 256) (h : ∀ i, p.testBit i = true → s.testBit i = true) (p0 : p ≠ 0) : p ∈ sbL s ∧ s ^^^ p = s - p ∧ p ≤ s := by
  have e := bit_sub h
  have l : p ≤ s := by have q : p &&& s ≤ s := Nat.and_le_right; rw [e] at q; exact q
  have m := (sbq_at hs).2.2 p (by omega) l e
  exact ⟨m, ((sbq_at hs).2.1 p m).2.2.2, l⟩
theorem sb_bit {s p : Nat} (hs : s < 256) (hp : p ∈ sbL s) : ∀ i, p.testBit i = true → s.testBit i = true := fun i h => by
  have e := ((sbq_at hs).2.1 p hp).2.2.1
  rw [← e, Nat.testBit_and, Bool.and_eq_true] at h
  exact h.2
theorem fold_le0 {B Pz : Int → Int} {s : Nat} : ∀ (L : List Nat) (acc : Int), L.foldl (fun acc p => if Pz (p : Nat) < 1152921504606846976 then min acc (B ((s - p : Nat) : Int) + Pz (p : Nat)) else acc) acc ≤ acc
  | [], acc => Int.le_refl _
  | p :: L, acc => by
    rw [List.foldl_cons]
    refine Int.le_trans (fold_le0 L _) ?_
    split <;> omega
theorem fold_le {B Pz : Int → Int} {s p : Nat} (h : Pz (p : Nat) < 1152921504606846976) : ∀ (L : List Nat) (acc : Int), p ∈ L → L.foldl (fun acc p => if Pz (p : Nat) < 1152921504606846976 then min acc (B ((s - p : Nat) : Int) + Pz (p : Nat)) else acc) acc ≤ B ((s - p : Nat) : Int) + Pz (p : Nat)
  | [], acc, hp => by cases hp
  | q :: L, acc, hp => by
    rw [List.foldl_cons]
    by_cases e : p = q
    · subst e
      refine Int.le_trans (fold_le0 L _) ?_
      rw [if_pos h]; omega
    · exact fold_le h L _ ((List.mem_cons.mp hp).resolve_left e)
theorem fold_at {B Pz : Int → Int} {s : Nat} : ∀ (L : List Nat) (acc : Int), L.foldl (fun acc p => if Pz (p : Nat) < 1152921504606846976 then min acc (B ((s - p : Nat) : Int) + Pz (p : Nat)) else acc) acc = acc ∨ ∃ p, p ∈ L ∧ Pz (p : Nat) < 1152921504606846976 ∧ L.foldl (fun acc p => if Pz (p : Nat) < 1152921504606846976 then min acc (B ((s - p : Nat) : Int) + Pz (p : Nat)) else acc) acc = B ((s - p : Nat) : Int) + Pz (p : Nat)
  | [], acc => Or.inl rfl
  | q :: L, acc => by
    rw [List.foldl_cons]
    rcases fold_at (B := B) (Pz := Pz) (s := s) L (if Pz (q : Nat) < 1152921504606846976 then min acc (B ((s - q : Nat) : Int) + Pz (q : Nat)) else acc) with h | ⟨p, h1, h2, h3⟩
    · rw [h]
      by_cases c : Pz (q : Nat) < 1152921504606846976
      · rw [if_pos c]
        by_cases m : acc ≤ B ((s - q : Nat) : Int) + Pz (q : Nat)
        · exact Or.inl (Int.min_eq_left m)
        · exact Or.inr ⟨q, List.mem_cons_self, c, Int.min_eq_right (by omega)⟩
      · rw [if_neg c]; exact Or.inl rfl
    · exact Or.inr ⟨p, List.mem_cons_of_mem _ h1, h2, h3⟩
/-- what a set that may lie on a floor costs there -/
theorem pzF_val {fl so ro pf th : Int → Int} {set : Int} {nl : Nat} {f s : Int} (h : pzF fl so ro pf th set nl f s < 1152921504606846976) : pzF fl so ro pf th set nl f s = csF (fun k => ownS fl th f k (ckF set nl k)) (cqS set nl) s := by
  unfold pzF at h ⊢
  by_cases s0 : s = 0
  · subst s0; rw [if_pos rfl]; exact csF_0.symm
  · rw [if_neg s0] at h ⊢
    unfold shS at h ⊢
    split at h
    · exact absurd h (by decide)
    · rename_i q; rw [if_neg q]
theorem bt_le {fl so ro pf th : Int → Int} {set : Int} {nl : Nat} (hc : cqS set nl ≤ 8) (hth : ∀ x, 0 ≤ x → x < ((nl : Nat) : Int) → 0 ≤ th x ∧ th x ≤ 200) {a : Nat → Nat} : ∀ {F s : Nat}, F ≤ 6 → s < 2 ^ cqS set nl → (∀ k, s.testBit k = true → a k < F) → (∀ f, f < F → pzF fl so ro pf th set nl (f : Nat) (ptN a f s (cqS set nl) : Nat) < 1152921504606846976) → btF fl so ro pf th set nl F (s : Nat) ≤ csF (fun k => ownS fl th (a k : Nat) k (ckF set nl k)) (cqS set nl) (s : Nat)
  | 0, s, hF, hs, h1, h2 => by
    have e : s = 0 := bit_ext (fun i => ⟨fun q => absurd (h1 i q) (Nat.not_lt_zero _), fun q => by rw [Nat.zero_testBit] at q; cases q⟩)
    subst e
    rw [show btF fl so ro pf th set nl 0 ((0 : Nat) : Int) = 0 from if_pos rfl, show ((0 : Nat) : Int) = 0 from rfl, csF_0]
    exact Int.le_refl _
  | F + 1, s, hF, hs, h1, h2 => by
    by_cases s0 : s = 0
    · subst s0
      rw [show btF fl so ro pf th set nl (F + 1) ((0 : Nat) : Int) = 0 from if_pos rfl, show ((0 : Nat) : Int) = 0 from rfl, csF_0]
      exact Int.le_refl _
    · have s256 : s < 256 := Nat.lt_of_lt_of_le hs (Nat.pow_le_pow_right (n := 2) (by decide) hc)
      rw [show btF fl so ro pf th set nl (F + 1) (s : Nat) = opF (btF fl so ro pf th set nl F) (pzF fl so ro pf th set nl (F : Nat)) s from (if_neg (by omega)).trans (by rw [Int.toNat_natCast])]
      have hb : ∀ i, (ptN a F s (cqS set nl)).testBit i = true → s.testBit i = true := fun i q => (ptN_bit.mp q).2.1
      have hnF : ∀ k, s.testBit k = true → ¬ (ptN a F s (cqS set nl)).testBit k = true → a k < F := fun k q n => by
        have := h1 k q
        by_cases e : a k = F
        · exact absurd (ptN_bit.mpr ⟨bit_lt hs q, q, e⟩) n
        · omega
      by_cases p0 : ptN a F s (cqS set nl) = 0
      · refine Int.le_trans (fold_le0 _ _) ?_
        refine bt_le hc hth (by omega) hs (fun k q => hnF k q (by rw [p0, Nat.zero_testBit]; decide)) (fun f hf => h2 f (by omega))
      · obtain ⟨m, x1, x2⟩ := sb_mem s256 hb p0
        have hP := h2 F (by omega)
        refine Int.le_trans (fold_le hP _ _ m) ?_
        rw [pzF_val hP, csF_split hb, ← x1]
        have e2 : csF (fun k => ownS fl th (F : Nat) k (ckF set nl k)) (cqS set nl) (ptN a F s (cqS set nl) : Nat) = csF (fun k => ownS fl th (a k : Nat) k (ckF set nl k)) (cqS set nl) (ptN a F s (cqS set nl) : Nat) := csF_on (fun i hi q => by rw [(ptN_bit.mp q).2.2])
        rw [e2]
        refine Int.add_le_add_right ?_ _
        refine bt_le hc hth (by omega) (by omega) (fun k q => ?_) (fun f hf => ?_)
        · have := (bit_xor hb).mp q
          exact hnF k this.1 this.2
        · have e3 : ptN a f (s ^^^ ptN a F s (cqS set nl)) (cqS set nl) = ptN a f s (cqS set nl) := bit_ext (fun i => by
            rw [ptN_bit, ptN_bit, bit_xor hb, ptN_bit]
            constructor
            · rintro ⟨q1, q2, q3⟩; exact ⟨q1, q2.1, q3⟩
            · rintro ⟨q1, q2, q3⟩; exact ⟨q1, ⟨q2, fun q => by have := q.2.2; omega⟩, q3⟩)
          rw [e3]; exact h2 f (by omega)
theorem bt_at {fl so ro pf th : Int → Int} {set : Int} {nl : Nat} (hc : cqS set nl ≤ 8) (hth : ∀ x, 0 ≤ x → x < ((nl : Nat) : Int) → 0 ≤ th x ∧ th x ≤ 200) : ∀ {F s : Nat}, F ≤ 6 → s < 2 ^ cqS set nl → btF fl so ro pf th set nl F (s : Nat) < 1152921504606846976 → ∃ a : Nat → Nat, (∀ k, s.testBit k = true → a k < F) ∧ (∀ f, f < F → pzF fl so ro pf th set nl (f : Nat) (ptN a f s (cqS set nl) : Nat) < 1152921504606846976) ∧ csF (fun k => ownS fl th (a k : Nat) k (ckF set nl k)) (cqS set nl) (s : Nat) = btF fl so ro pf th set nl F (s : Nat)
  | F, 0, hF, hs, h => by
    refine ⟨fun _ => 0, fun k q => (by rw [Nat.zero_testBit] at q; cases q), fun f hf => ?_, ?_⟩
    · have e : ptN (fun _ => 0) f 0 (cqS set nl) = 0 := bit_ext (fun i => by rw [ptN_bit, Nat.zero_testBit]; simp)
      rw [e]
      rw [show pzF fl so ro pf th set nl (f : Nat) ((0 : Nat) : Int) = 0 from if_pos rfl]; decide
    · have e : btF fl so ro pf th set nl F ((0 : Nat) : Int) = 0 := by cases F <;> exact if_pos rfl
      rw [e]; exact csF_0
  | 0, s + 1, hF, hs, h => by
    rw [show btF fl so ro pf th set nl 0 ((s + 1 : Nat) : Int) = 1152921504606846976 from if_neg (by omega)] at h
    exact absurd h (by decide)
  | F + 1, s + 1, hF, hs, h => by
    have s256 : s + 1 < 256 := Nat.lt_of_lt_of_le hs (Nat.pow_le_pow_right (n := 2) (by decide) hc)
    have e0 : btF fl so ro pf th set nl (F + 1) ((s + 1 : Nat) : Int) = opF (btF fl so ro pf th set nl F) (pzF fl so ro pf th set nl (F : Nat)) (s + 1) := (if_neg (by omega)).trans (by rw [Int.toNat_natCast])
    rw [e0] at h ⊢
    rcases fold_at (B := btF fl so ro pf th set nl F) (Pz := pzF fl so ro pf th set nl (F : Nat)) (s := s + 1) (sbL (s + 1)) (btF fl so ro pf th set nl F ((s + 1 : Nat) : Int)) with q | ⟨p, q1, q2, q3⟩
    · have q : opF (btF fl so ro pf th set nl F) (pzF fl so ro pf th set nl (F : Nat)) (s + 1) = _ := q
      rw [q] at h ⊢
      obtain ⟨a, a1, a2, a3⟩ := bt_at (fl := fl) (so := so) (ro := ro) (pf := pf) hc hth (F := F) (s := s + 1) (by omega) hs h
      refine ⟨a, fun k b => Nat.lt_succ_of_lt (a1 k b), fun f hf => ?_, a3⟩
      by_cases e : f = F
      · subst e
        have e1 : ptN a f (s + 1) (cqS set nl) = 0 := bit_ext (fun i => by
          rw [ptN_bit, Nat.zero_testBit]
          exact ⟨fun z => absurd (a1 i z.2.1) (by have := z.2.2; omega), fun z => by cases z⟩)
        rw [e1, show pzF fl so ro pf th set nl (f : Nat) ((0 : Nat) : Int) = 0 from if_pos rfl]; decide
      · exact a2 f (by omega)
    · have q3 : opF (btF fl so ro pf th set nl F) (pzF fl so ro pf th set nl (F : Nat)) (s + 1) = _ := q3
      rw [q3] at h ⊢
      have hb := sb_bit s256 q1
      have hm := (sbq_at s256).2.1 p q1
      have hp0 := (pzF_rg (fl := fl) (so := so) (ro := ro) (pf := pf) (f := (F : Nat)) (s := (p : Nat)) hc hth (by omega)).1
      obtain ⟨a, a1, a2, a3⟩ := bt_at (fl := fl) (so := so) (ro := ro) (pf := pf) hc hth (F := F) (s := s + 1 - p) (by omega) (by omega) (by omega)
      rw [← hm.2.2.2] at a1 a2 a3 ⊢
      refine ⟨fun k => if p.testBit k = true then F else a k, fun k b => ?_, fun f hf => ?_, ?_⟩
      · show (if p.testBit k = true then F else a k) < F + 1
        by_cases z : p.testBit k = true
        · rw [if_pos z]; omega
        · rw [if_neg z]; exact Nat.lt_succ_of_lt (a1 k ((bit_xor hb).mpr ⟨b, z⟩))
      · by_cases e : f = F
        · subst e
          have e1 : ptN (fun k => if p.testBit k = true then f else a k) f (s + 1) (cqS set nl) = p := bit_ext (fun i => by
            rw [ptN_bit]
            constructor
            · rintro ⟨z1, z2, z3⟩
              by_cases z : p.testBit i = true
              · exact z
              · have z3 : (if p.testBit i = true then f else a i) = f := z3
                rw [if_neg z] at z3
                exact absurd (a1 i ((bit_xor hb).mpr ⟨z2, z⟩)) (by omega)
            · intro z
              exact ⟨bit_lt hs (hb i z), hb i z, if_pos z⟩)
          rw [e1]; exact q2
        · have e1 : ptN (fun k => if p.testBit k = true then F else a k) f (s + 1) (cqS set nl) = ptN a f (s + 1 ^^^ p) (cqS set nl) := bit_ext (fun i => by
            rw [ptN_bit, ptN_bit, bit_xor hb]
            show i < _ ∧ _ ∧ (if p.testBit i = true then F else a i) = f ↔ _
            by_cases z : p.testBit i = true
            · rw [if_pos z]
              exact ⟨fun w => absurd w.2.2.symm e, fun w => absurd z w.2.1.2⟩
            · rw [if_neg z]
              exact ⟨fun w => ⟨w.1, ⟨w.2.1, z⟩, w.2.2⟩, fun w => ⟨w.1, w.2.1.1, w.2.2⟩⟩)
          rw [e1]; exact a2 f (by omega)
      · rw [csF_split hb, pzF_val q2]
        have e1 : csF (fun k => ownS fl th ((if p.testBit k = true then F else a k : Nat) : Int) k (ckF set nl k)) (cqS set nl) (p : Nat) = csF (fun k => ownS fl th (F : Nat) k (ckF set nl k)) (cqS set nl) (p : Nat) := csF_on (fun i hi z => by rw [if_pos z])
        have e2 : csF (fun k => ownS fl th ((if p.testBit k = true then F else a k : Nat) : Int) k (ckF set nl k)) (cqS set nl) ((s + 1 ^^^ p : Nat) : Int) = csF (fun k => ownS fl th (a k : Nat) k (ckF set nl k)) (cqS set nl) ((s + 1 ^^^ p : Nat) : Int) := csF_on (fun i hi z => by rw [if_neg ((bit_xor hb).mp z).2])
        rw [e1, e2, a3]
