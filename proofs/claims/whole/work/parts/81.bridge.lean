/-! plan: class and model find the same least -/

theorem pdB_bit {pf : Int → Int} {ours all : Int} (hp : ∀ t : Nat, t < 4 → 0 ≤ pf (t : Nat) ∧ pf (t : Nat) < 16) (ha : 0 ≤ all ∧ all < 16) : pdB pf ours all = true ↔ ∃ t : Nat, t < 4 ∧ ours / 2 ^ t % 2 = 1 ∧ ∃ r : Nat, r < 4 ∧ pf (t : Nat) / 2 ^ r % 2 = 1 ∧ all / 2 ^ r % 2 = 1 := by
  rw [pdB_iff]
  constructor
  · rintro ⟨t, t1, t2, t3⟩
    exact ⟨t, t1, t2, (an2 (hp t t1) ha).mp t3⟩
  · rintro ⟨t, t1, t2, t3⟩
    exact ⟨t, t1, t2, (an2 (hp t t1) ha).mpr t3⟩
theorem ful_bit {c i : Nat} : (2 ^ c - 1).testBit i = true ↔ i < c := by
  rw [Nat.testBit_two_pow_sub_one, decide_eq_true_iff]
theorem csF_ls {th : Int → Int} {set : Int} {nl : Nat} {a : Nat → Nat} {f p : Nat} : ∀ {d : Nat}, (∀ i, i < d → (p.testBit i = true ↔ a i = f)) → csF (fun k => th (ckF set nl k)) d (p : Nat) = lsF th set nl a f d
  | 0, _ => rfl
  | d + 1, h => by
    rw [csF_n, csF_ls (d := d) (fun i hi => h i (by omega)), show lsF th set nl a f (d + 1) = lsF th set nl a f d + (if a d = f then th (ckF set nl d) else 0) from rfl]
    by_cases e : a d = f
    · rw [if_pos e, if_pos ((h d (by omega)).mpr e)]
    · rw [if_neg e, if_neg (fun q => e ((h d (by omega)).mp q))]
theorem csF_ps {fl th : Int → Int} {set : Int} {nl s : Nat} {a : Nat → Nat} : ∀ {d : Nat}, (∀ i, i < d → s.testBit i = true) → csF (fun k => ownS fl th (a k : Nat) k (ckF set nl k)) d (s : Nat) = prA fl th set nl a d
  | 0, _ => rfl
  | d + 1, h => by
    rw [csF_n, csF_ps (d := d) (fun i hi => h i (by omega)), prA_s, if_pos (h d (by omega))]

/-- the class's test of the floors and the model's steps say the same -/
theorem plan_iff {fl so ro pf pm th g1 g2 : Int → Int} {set : Int} {nl : Nat} (hc : cqS set nl ≤ 8) (hth : ∀ x, 0 ≤ x → x < ((nl : Nat) : Int) → 0 ≤ th x ∧ th x ≤ 200) (hso : ∀ x, 0 ≤ x → x < ((nl : Nat) : Int) → 0 ≤ so x ∧ so x ≤ 3) (hP : (∀ s, 0 ≤ s → s < 4 → (0 ≤ pf s ∧ pf s < 16) ∧ ∀ t : Nat, t < 4 → (pm (4 * s + t) = 0 ∨ pm (4 * s + t) = 1) ∧ pf s / 2 ^ t % 2 = pm (4 * s + t) ∧ pm (4 * (t : Int) + s) = pm (4 * s + t)) ∧ ∀ s, 0 ≤ s → s < 4 → pm (5 * s) = 0) (hg1 : ∀ f : Nat, f < 6 → g1 (f : Nat) = 0) (hg2 : ∀ f : Nat, f < 24 → g2 (f : Nat) = 0) {a : Nat → Nat} (ha : ∀ k, k < cqS set nl → a k < 6) : (∀ f, f < 6 → pzF fl so ro pf th set nl (f : Nat) (ptN a f (2 ^ cqS set nl - 1) (cqS set nl) : Nat) < 1152921504606846976) ↔ (∀ k, k < cqS set nl → okB so ro pm th (ldA th set nl (ldI fl th set g1 nl) a k) (scA so set nl (scI fl so set g2 nl) a k) (ckF set nl k) (a k : Nat) = true) := by
  have hsn : ∀ j : Nat, j < nl → 0 ≤ so j ∧ so j ≤ 3 := fun j hj => hso _ (by omega) (by omega)
  have hsk : ∀ k, k < cqS set nl → 0 ≤ so (ckF set nl k) ∧ so (ckF set nl k) ≤ 3 := fun k hk => hso _ (ckF_rg hk).1 (ckF_rg hk).2
  have hpt : ∀ f k, (ptN a f (2 ^ cqS set nl - 1) (cqS set nl)).testBit k = true ↔ (k < cqS set nl ∧ a k = f) := fun f k => by
    rw [ptN_bit, ful_bit]
    exact ⟨fun q => ⟨q.1, q.2.2⟩, fun q => ⟨q.1, q.1, q.2⟩⟩
  have hls : ∀ f, csF (fun k => th (ckF set nl k)) (cqS set nl) (ptN a f (2 ^ cqS set nl - 1) (cqS set nl) : Nat) = lsF th set nl a f (cqS set nl) := fun f => csF_ls (fun i hi => by rw [hpt]; exact ⟨fun q => q.2, fun q => ⟨hi, q⟩⟩)
  have hld : ∀ f k, f < 6 → ldA th set nl (ldI fl th set g1 nl) a k (f : Nat) = syS fl th set (f : Nat) nl + lsF th set nl a f k := fun f k hf => by
    rw [ldA_val, ldI_val (hg1 f hf)]
  have hst : ∀ f t : Nat, f < 6 → t < 4 → (scI fl so set g2 nl (4 * (f : Nat) + (t : Nat)) ≠ 0 ↔ soS fl so set (f : Nat) nl / 2 ^ t % 2 = 1) := fun f t hf ht => by
    rw [(scI_val (fl := fl) (so := so) (set := set) ht (by have := hg2 (4 * f + t) (by omega); push_cast at this; exact this) hsn).2, soS_bit ht hsn]
  have hsc : ∀ f t k : Nat, f < 6 → t < 4 → k ≤ cqS set nl → (scA so set nl (scI fl so set g2 nl) a k (4 * (f : Nat) + (t : Nat)) ≠ 0 ↔ (soS fl so set (f : Nat) nl / 2 ^ t % 2 = 1 ∨ ∃ i, i < k ∧ a i = f ∧ so (ckF set nl i) = (t : Nat))) := fun f t k hf ht hk => by
    rw [(scA_val hsk (scI_val (fl := fl) (so := so) (set := set) ht (by have := hg2 (4 * f + t) (by omega); push_cast at this; exact this) hsn).1 ht hk).2, hst f t hf ht]
  have hsr : ∀ f t : Nat, t < 4 → (srF (fun k => so (ckF set nl k)) (cqS set nl) (ptN a f (2 ^ cqS set nl - 1) (cqS set nl) : Nat) / 2 ^ t % 2 = 1 ↔ ∃ i, i < cqS set nl ∧ a i = f ∧ so (ckF set nl i) = (t : Nat)) := fun f t ht => by
    rw [srF_bit ht hsk]
    constructor
    · rintro ⟨i, i1, i2, i3⟩; exact ⟨i, i1, ((hpt f i).mp i2).2, i3⟩
    · rintro ⟨i, i1, i2, i3⟩; exact ⟨i, i1, (hpt f i).mpr ⟨i1, i2⟩, i3⟩
  have hr1 : ∀ f : Nat, 0 ≤ srF (fun k => so (ckF set nl k)) (cqS set nl) (ptN a f (2 ^ cqS set nl - 1) (cqS set nl) : Nat) ∧ srF (fun k => so (ckF set nl k)) (cqS set nl) (ptN a f (2 ^ cqS set nl - 1) (cqS set nl) : Nat) < 16 := fun f => srF_rg hsk
  have hr2 : ∀ f : Nat, 0 ≤ soS fl so set (f : Nat) nl ∧ soS fl so set (f : Nat) nl < 16 := fun f => soS_rg hsn
  have hpd : ∀ f : Nat, pdB pf (srF (fun k => so (ckF set nl k)) (cqS set nl) (ptN a f (2 ^ cqS set nl - 1) (cqS set nl) : Nat)) (bOr (srF (fun k => so (ckF set nl k)) (cqS set nl) (ptN a f (2 ^ cqS set nl - 1) (cqS set nl) : Nat)) (soS fl so set (f : Nat) nl)) = true ↔ ∃ k t r : Nat, k < cqS set nl ∧ a k = f ∧ t < 4 ∧ r < 4 ∧ so (ckF set nl k) = (t : Nat) ∧ pm (4 * (t : Nat) + (r : Nat)) = 1 ∧ ((∃ i, i < cqS set nl ∧ a i = f ∧ so (ckF set nl i) = (r : Nat)) ∨ soS fl so set (f : Nat) nl / 2 ^ r % 2 = 1) := fun f => by
    have o := or2 (hr1 f) (hr2 f)
    rw [pdB_bit (fun t ht => (hP.1 (t : Nat) (by omega) (by omega)).1) o.1]
    constructor
    · rintro ⟨t, t1, t2, r, r1, r2, r3⟩
      obtain ⟨k, k1, k2, k3⟩ := (hsr f t t1).mp t2
      rw [o.2 r r1, hsr f r r1] at r3
      rw [((hP.1 (t : Nat) (by omega) (by omega)).2 r r1).2.1] at r2
      exact ⟨k, t, r, k1, k2, t1, r1, k3, r2, r3⟩
    · rintro ⟨k, t, r, k1, k2, t1, r1, k3, r2, r3⟩
      refine ⟨t, t1, (hsr f t t1).mpr ⟨k, k1, k2, k3⟩, r, r1, ?_, ?_⟩
      · rw [((hP.1 (t : Nat) (by omega) (by omega)).2 r r1).2.1]; exact r2
      · rw [o.2 r r1, hsr f r r1]; exact r3
  constructor
  · intro h k hk
    have hf := ha k hk
    have h9 := h (a k) hf
    have b9 := (hpt (a k) k).mpr ⟨hk, rfl⟩
    have n0 : ¬ ((ptN a (a k) (2 ^ cqS set nl - 1) (cqS set nl) : Nat) : Int) = 0 := fun q => by
      have q : ptN a (a k) (2 ^ cqS set nl - 1) (cqS set nl) = 0 := by omega
      rw [q, Nat.zero_testBit] at b9; cases b9
    unfold pzF at h9
    rw [if_neg n0] at h9
    unfold shS at h9
    by_cases z : ro (a k : Nat) - syS fl th set (a k : Nat) nl < csF (fun k => th (ckF set nl k)) (cqS set nl) (ptN a (a k) (2 ^ cqS set nl - 1) (cqS set nl) : Nat) ∨ pdB pf (srF (fun k => so (ckF set nl k)) (cqS set nl) (ptN a (a k) (2 ^ cqS set nl - 1) (cqS set nl) : Nat)) (bOr (srF (fun k => so (ckF set nl k)) (cqS set nl) (ptN a (a k) (2 ^ cqS set nl - 1) (cqS set nl) : Nat)) (soS fl so set (a k : Nat) nl)) = true
    · rw [if_pos z] at h9; exact absurd h9 (by decide)
    · obtain ⟨z1, z2⟩ := not_or.mp z
      rw [hls] at z1
      rw [okB_iff, hld _ _ hf]
      refine ⟨?_, fun j hj => ?_⟩
      · have m := lsF_mono hth (set := set) (a := a) (f := a k) (d := k + 1) (e := cqS set nl) (by omega) (by omega)
        rw [show lsF th set nl a (a k) (k + 1) = lsF th set nl a (a k) k + (if a k = a k then th (ckF set nl k) else 0) from rfl, if_pos rfl] at m
        omega
      · by_cases w : scA so set nl (scI fl so set g2 nl) a k (4 * (a k : Nat) + (j : Nat)) = 0
        · exact Or.inl w
        · refine Or.inr ?_
          have s3 := hsk k hk
          have w2 := (hsc (a k) j k hf hj (by omega)).mp w
          have v := ((hP.1 (so (ckF set nl k)) s3.1 (by omega)).2 j hj).1
          rcases v with v | v
          · exact v
          · refine absurd ((hpd (a k)).mpr ⟨k, (so (ckF set nl k)).toNat, j, hk, rfl, by omega, hj, by omega, ?_, ?_⟩) z2
            · rw [show (((so (ckF set nl k)).toNat : Nat) : Int) = so (ckF set nl k) by omega]; exact v
            · rcases w2 with w2 | ⟨i, i1, i2⟩
              · exact Or.inr w2
              · exact Or.inl ⟨i, by omega, i2⟩
  · intro h f hf
    unfold pzF
    by_cases n0 : ((ptN a f (2 ^ cqS set nl - 1) (cqS set nl) : Nat) : Int) = 0
    · rw [if_pos n0]; decide
    · rw [if_neg n0]
      unfold shS
      have bd : csF (fun k => ownS fl th (f : Nat) k (ckF set nl k)) (cqS set nl) (ptN a f (2 ^ cqS set nl - 1) (cqS set nl) : Nat) < 1152921504606846976 := by
        have q := csF_rg (g := fun k => ownS fl th (f : Nat) k (ckF set nl k)) (B := 400000000) (by decide) (s := (ptN a f (2 ^ cqS set nl - 1) (cqS set nl) : Nat)) (k := cqS set nl) (fun j hj => own_rg (by omega) (by omega) (hth _ (ckF_rg hj).1 (ckF_rg hj).2))
        have b : ((cqS set nl : Nat) : Int) * 400000000 ≤ 8 * 400000000 := Int.mul_le_mul_of_nonneg_right (by omega) (by decide)
        omega
      have ex : ∀ d, d ≤ cqS set nl → (∃ k, k < d ∧ a k = f) → syS fl th set (f : Nat) nl + lsF th set nl a f d ≤ ro (f : Nat) := by
        intro d
        induction d with
        | zero => rintro _ ⟨k, k0, _⟩; omega
        | succ d ih =>
          rintro hd ⟨k, k1, k2⟩
          rw [show lsF th set nl a f (d + 1) = lsF th set nl a f d + (if a d = f then th (ckF set nl d) else 0) from rfl]
          by_cases e : a d = f
          · rw [if_pos e]
            have q := (okB_iff.mp (h d (by omega))).1
            rw [e, hld f d hf] at q
            omega
          · rw [if_neg e]
            have := ih (by omega) ⟨k, by
              by_cases z : k = d
              · subst z; exact absurd k2 e
              · omega, k2⟩
            omega
      have exk : ∃ k, k < cqS set nl ∧ a k = f := by
        by_cases q : ∃ k, k < cqS set nl ∧ a k = f
        · exact q
        · refine absurd ?_ n0
          have e : ptN a f (2 ^ cqS set nl - 1) (cqS set nl) = 0 := bit_ext (fun i => by
            rw [hpt, Nat.zero_testBit]
            exact ⟨fun z => absurd ⟨i, z⟩ q, fun z => by cases z⟩)
          rw [e]; rfl
      have ld := ex _ (Nat.le_refl _) exk
      rw [if_neg ?_]
      · exact bd
      · rintro (z | z)
        · rw [hls] at z; omega
        · obtain ⟨k, t, r, k1, k2, t1, r1, k3, r2, r3⟩ := (hpd f).mp z
          have okk := (okB_iff.mp (h k k1)).2 r r1
          rw [k2, k3] at okk
          have step : scA so set nl (scI fl so set g2 nl) a k (4 * (f : Nat) + (r : Nat)) ≠ 0 → False := fun q => by
            rcases okk with o | o
            · exact q o
            · omega
          rcases r3 with ⟨i, i1, i2, i3⟩ | r3
          · by_cases lt : i < k
            · exact step ((hsc f r k hf r1 (by omega)).mpr (Or.inr ⟨i, lt, i2, i3⟩))
            · by_cases e : i = k
              · subst e
                have : (r : Int) = (t : Nat) := by omega
                have d5 := hP.2 (t : Nat) (by omega) (by omega)
                rw [this, show 4 * ((t : Nat) : Int) + (t : Nat) = 5 * (t : Nat) by omega] at r2
                omega
              · have oki := (okB_iff.mp (h i i1)).2 t t1
                rw [i2, i3] at oki
                have sy := ((hP.1 (t : Nat) (by omega) (by omega)).2 r r1).2.2
                rcases oki with o | o
                · exact absurd o ((hsc f t i hf t1 (by omega)).mpr (Or.inr ⟨k, by omega, k2, k3⟩))
                · omega
          · exact step ((hsc f r k hf r1 (by omega)).mpr (Or.inl r3))
theorem plan_eq {fl so ro pf pm th g1 g2 : Int → Int} {set : Int} {nl : Nat} (hc : cqS set nl ≤ 8) (hth : ∀ x, 0 ≤ x → x < ((nl : Nat) : Int) → 0 ≤ th x ∧ th x ≤ 200) (hso : ∀ x, 0 ≤ x → x < ((nl : Nat) : Int) → 0 ≤ so x ∧ so x ≤ 3) (hP : (∀ s, 0 ≤ s → s < 4 → (0 ≤ pf s ∧ pf s < 16) ∧ ∀ t : Nat, t < 4 → (pm (4 * s + t) = 0 ∨ pm (4 * s + t) = 1) ∧ pf s / 2 ^ t % 2 = pm (4 * s + t) ∧ pm (4 * (t : Int) + s) = pm (4 * s + t)) ∧ ∀ s, 0 ≤ s → s < 4 → pm (5 * s) = 0) (hg1 : ∀ f : Nat, f < 6 → g1 (f : Nat) = 0) (hg2 : ∀ f : Nat, f < 24 → g2 (f : Nat) = 0) : btF fl so ro pf th set nl 6 ((2 ^ cqS set nl - 1 : Nat) : Int) = viF fl so ro pm th set nl (cqS set nl) (ldI fl th set g1 nl) (scI fl so set g2 nl) 0 1152921504606846976 ∧ (btF fl so ro pf th set nl 6 ((2 ^ cqS set nl - 1 : Nat) : Int) < 1152921504606846976 → 0 ≤ btF fl so ro pf th set nl 6 ((2 ^ cqS set nl - 1 : Nat) : Int) ∧ btF fl so ro pf th set nl 6 ((2 ^ cqS set nl - 1 : Nat) : Int) ≤ 3200000000) := by
  have p1 : 0 < 2 ^ cqS set nl := Nat.pow_pos (by decide)
  have p8 : 2 ^ cqS set nl ≤ 256 := Nat.pow_le_pow_right (n := 2) (by decide) hc
  have lt : 2 ^ cqS set nl - 1 < 2 ^ cqS set nl := by omega
  have rg := btF_rg (fl := fl) (so := so) (ro := ro) (pf := pf) hc hth (f := 6) (s := 2 ^ cqS set nl - 1) (by omega) (by omega)
  have v0 := vi_le0 (fl := fl) (so := so) (ro := ro) (pm := pm) (th := th) (set := set) (nl := nl) (m := cqS set nl) (ld := ldI fl th set g1 nl) (sc := scI fl so set g2 nl) (pr := 0) (P := 1152921504606846976)
  have key : ∀ a : Nat → Nat, (∀ k, k < cqS set nl → a k < 6) → csF (fun k => ownS fl th (a k : Nat) k (ckF set nl k)) (cqS set nl) ((2 ^ cqS set nl - 1 : Nat) : Int) = prA fl th set nl a (cqS set nl) := fun a _ => csF_ps (fun i hi => ful_bit.mpr hi)
  have down : btF fl so ro pf th set nl 6 ((2 ^ cqS set nl - 1 : Nat) : Int) < 1152921504606846976 → viF fl so ro pm th set nl (cqS set nl) (ldI fl th set g1 nl) (scI fl so set g2 nl) 0 1152921504606846976 ≤ btF fl so ro pf th set nl 6 ((2 ^ cqS set nl - 1 : Nat) : Int) ∧ btF fl so ro pf th set nl 6 ((2 ^ cqS set nl - 1 : Nat) : Int) ≤ 3200000000 := fun h => by
    obtain ⟨a, a1, a2, a3⟩ := bt_at hc hth (by decide) lt h
    have ha : ∀ k, k < cqS set nl → a k < 6 := fun k hk => a1 k (ful_bit.mpr hk)
    have st := (plan_iff (ro := ro) (g1 := g1) (g2 := g2) hc hth hso hP hg1 hg2 ha).mp a2
    refine ⟨?_, ?_⟩
    · rw [← a3, key a ha]
      exact vi_le (d := 0) (by omega) (fun k _ hk => ⟨ha k hk, st k hk⟩)
    · rw [← a3]
      have q := csF_rg (g := fun k => ownS fl th (a k : Nat) k (ckF set nl k)) (B := 400000000) (by decide) (s := ((2 ^ cqS set nl - 1 : Nat) : Int)) (k := cqS set nl) (fun j hj => own_rg (by have := ha j hj; omega) (by omega) (hth _ (ckF_rg hj).1 (ckF_rg hj).2))
      have b : ((cqS set nl : Nat) : Int) * 400000000 ≤ 8 * 400000000 := Int.mul_le_mul_of_nonneg_right (by omega) (by decide)
      omega
  have up : viF fl so ro pm th set nl (cqS set nl) (ldI fl th set g1 nl) (scI fl so set g2 nl) 0 1152921504606846976 < 1152921504606846976 → btF fl so ro pf th set nl 6 ((2 ^ cqS set nl - 1 : Nat) : Int) ≤ viF fl so ro pm th set nl (cqS set nl) (ldI fl th set g1 nl) (scI fl so set g2 nl) 0 1152921504606846976 := fun h => by
    rcases vi_at (fl := fl) (so := so) (ro := ro) (pm := pm) (th := th) (set := set) (nl := nl) (ld0 := ldI fl th set g1 nl) (sc0 := scI fl so set g2 nl) (m := cqS set nl) (d := 0) (a := fun _ => 0) (P := 1152921504606846976) (by omega) with q | ⟨a, _, q2, q3⟩
    · have q : viF fl so ro pm th set nl (cqS set nl) (ldI fl th set g1 nl) (scI fl so set g2 nl) 0 1152921504606846976 = 1152921504606846976 := q
      omega
    · have q3 : viF fl so ro pm th set nl (cqS set nl) (ldI fl th set g1 nl) (scI fl so set g2 nl) 0 1152921504606846976 = _ := q3
      have ha : ∀ k, k < cqS set nl → a k < 6 := fun k hk => (q2 k (Nat.zero_le _) hk).1
      have cl := (plan_iff (ro := ro) (g1 := g1) (g2 := g2) hc hth hso hP hg1 hg2 ha).mpr (fun k hk => (q2 k (Nat.zero_le _) hk).2)
      rw [q3, ← key a ha]
      exact bt_le hc hth (by decide) lt (fun k hk => ha k (ful_bit.mp hk)) cl
  refine ⟨?_, fun h => ⟨rg.1, (down h).2⟩⟩
  by_cases h1 : btF fl so ro pf th set nl 6 ((2 ^ cqS set nl - 1 : Nat) : Int) < 1152921504606846976
  · have d := (down h1).1
    have u := up (by omega)
    omega
  · by_cases h2 : viF fl so ro pm th set nl (cqS set nl) (ldI fl th set g1 nl) (scI fl so set g2 nl) 0 1152921504606846976 < 1152921504606846976
    · have u := up h2
      omega
    · omega
