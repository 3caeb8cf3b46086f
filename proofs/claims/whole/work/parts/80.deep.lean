/-! plan: what the model's search finds is the same least -/

def u1 (g : Int → Int) (i v : Int) : Int → Int := fun j => if j = i then v else g j
theorem u1_at {g : Int → Int} {i v : Int} : u1 g i v i = v := if_pos rfl
theorem u1_ne {g : Int → Int} {i v j : Int} (h : j ≠ i) : u1 g i v j = g j := if_neg h
/-- the model's test: may the lot x lie on the floor f -/
def okB (so ro pm th ld sc : Int → Int) (x f : Int) : Bool := decide (ld f + th x ≤ ro f) && (List.range 4).all (fun j => decide (sc (4 * f + (j : Nat)) = 0 ∨ pm (4 * so x + (j : Nat)) = 0))
theorem okB_iff {so ro pm th ld sc : Int → Int} {x f : Int} : okB so ro pm th ld sc x f = true ↔ (ld f + th x ≤ ro f ∧ ∀ j : Nat, j < 4 → (sc (4 * f + j) = 0 ∨ pm (4 * so x + j) = 0)) := by
  unfold okB
  rw [Bool.and_eq_true, decide_eq_true_iff, List.all_eq_true]
  constructor
  · rintro ⟨a, b⟩
    exact ⟨a, fun j hj => of_decide_eq_true (b j (List.mem_range.mpr hj))⟩
  · rintro ⟨a, b⟩
    exact ⟨a, fun j hj => decide_eq_true (b j (List.mem_range.mp hj))⟩
/-- the search below a node, m lots left -/
def viF (fl so ro pm th : Int → Int) (set : Int) (nl : Nat) : Nat → (Int → Int) → (Int → Int) → Int → Int → Int
  | 0, _, _, pr, P => min P pr
  | m + 1, ld, sc, pr, P => (List.range' 0 6).foldl (fun acc f => if okB so ro pm th ld sc (ckF set nl (cqS set nl - (m + 1))) (f : Nat) = true then viF fl so ro pm th set nl m (u1 ld (f : Nat) (ld (f : Nat) + th (ckF set nl (cqS set nl - (m + 1))))) (u1 sc (4 * (f : Nat) + so (ckF set nl (cqS set nl - (m + 1)))) (sc (4 * (f : Nat) + so (ckF set nl (cqS set nl - (m + 1)))) + 1)) (pr + ownS fl th (f : Nat) (cqS set nl - (m + 1)) (ckF set nl (cqS set nl - (m + 1)))) acc else acc) P
def ldA (th : Int → Int) (set : Int) (nl : Nat) (ld0 : Int → Int) (a : Nat → Nat) : Nat → Int → Int
  | 0 => ld0
  | d + 1 => u1 (ldA th set nl ld0 a d) (a d : Nat) (ldA th set nl ld0 a d (a d : Nat) + th (ckF set nl d))
def scA (so : Int → Int) (set : Int) (nl : Nat) (sc0 : Int → Int) (a : Nat → Nat) : Nat → Int → Int
  | 0 => sc0
  | d + 1 => u1 (scA so set nl sc0 a d) (4 * (a d : Nat) + so (ckF set nl d)) (scA so set nl sc0 a d (4 * (a d : Nat) + so (ckF set nl d)) + 1)
def prA (fl th : Int → Int) (set : Int) (nl : Nat) (a : Nat → Nat) : Nat → Int
  | 0 => 0
  | d + 1 => prA fl th set nl a d + ownS fl th (a d : Nat) d (ckF set nl d)
theorem ldA_s {th : Int → Int} {set : Int} {nl : Nat} {ld0 : Int → Int} {a : Nat → Nat} {d : Nat} : ldA th set nl ld0 a (d + 1) = u1 (ldA th set nl ld0 a d) (a d : Nat) (ldA th set nl ld0 a d (a d : Nat) + th (ckF set nl d)) := rfl
theorem scA_s {so : Int → Int} {set : Int} {nl : Nat} {sc0 : Int → Int} {a : Nat → Nat} {d : Nat} : scA so set nl sc0 a (d + 1) = u1 (scA so set nl sc0 a d) (4 * (a d : Nat) + so (ckF set nl d)) (scA so set nl sc0 a d (4 * (a d : Nat) + so (ckF set nl d)) + 1) := rfl
theorem prA_s {fl th : Int → Int} {set : Int} {nl : Nat} {a : Nat → Nat} {d : Nat} : prA fl th set nl a (d + 1) = prA fl th set nl a d + ownS fl th (a d : Nat) d (ckF set nl d) := rfl
theorem ldA_cg {th : Int → Int} {set : Int} {nl : Nat} {ld0 : Int → Int} {a a' : Nat → Nat} : ∀ {d : Nat}, (∀ k, k < d → a' k = a k) → ldA th set nl ld0 a' d = ldA th set nl ld0 a d
  | 0, _ => rfl
  | d + 1, h => by unfold ldA; rw [ldA_cg (d := d) (fun k hk => h k (by omega)), h d (by omega)]
theorem scA_cg {so : Int → Int} {set : Int} {nl : Nat} {sc0 : Int → Int} {a a' : Nat → Nat} : ∀ {d : Nat}, (∀ k, k < d → a' k = a k) → scA so set nl sc0 a' d = scA so set nl sc0 a d
  | 0, _ => rfl
  | d + 1, h => by unfold scA; rw [scA_cg (d := d) (fun k hk => h k (by omega)), h d (by omega)]
theorem prA_cg {fl th : Int → Int} {set : Int} {nl : Nat} {a a' : Nat → Nat} : ∀ {d : Nat}, (∀ k, k < d → a' k = a k) → prA fl th set nl a' d = prA fl th set nl a d
  | 0, _ => rfl
  | d + 1, h => by unfold prA; rw [prA_cg (d := d) (fun k hk => h k (by omega)), h d (by omega)]
theorem fd_le0 {F : Int → Nat → Int} (h : ∀ acc f, F acc f ≤ acc) : ∀ (L : List Nat) (acc : Int), L.foldl F acc ≤ acc
  | [], _ => Int.le_refl _
  | f :: L, acc => Int.le_trans (fd_le0 h L _) (h acc f)
theorem fd_le {F : Int → Nat → Int} {B : Int} {q : Nat} (h : ∀ acc f, F acc f ≤ acc) (hq : ∀ acc, F acc q ≤ B) : ∀ (L : List Nat) (acc : Int), q ∈ L → L.foldl F acc ≤ B
  | [], _, hp => by cases hp
  | f :: L, acc, hp => by
    rw [List.foldl_cons]
    by_cases e : q = f
    · subst e; exact Int.le_trans (fd_le0 h L _) (hq acc)
    · exact fd_le h hq L _ ((List.mem_cons.mp hp).resolve_left e)
theorem fd_at {F : Int → Nat → Int} {Q : Int → Prop} (h : ∀ acc f, f < 6 → F acc f = acc ∨ Q (F acc f)) : ∀ (L : List Nat) (acc : Int), (∀ f ∈ L, f < 6) → L.foldl F acc = acc ∨ Q (L.foldl F acc)
  | [], acc, _ => Or.inl rfl
  | f :: L, acc, hL => by
    rw [List.foldl_cons]
    rcases fd_at h L (F acc f) (fun g hg => hL g (List.mem_cons_of_mem _ hg)) with e | e
    · rw [e]; exact h acc f (hL f List.mem_cons_self)
    · exact Or.inr e
theorem vi_le0 {fl so ro pm th : Int → Int} {set : Int} {nl : Nat} : ∀ {m : Nat} {ld sc : Int → Int} {pr P : Int}, viF fl so ro pm th set nl m ld sc pr P ≤ P
  | 0, ld, sc, pr, P => by unfold viF; omega
  | m + 1, ld, sc, pr, P => by
    unfold viF
    refine fd_le0 (fun acc f => ?_) _ _
    split
    · exact vi_le0
    · exact Int.le_refl _
theorem vi_le {fl so ro pm th : Int → Int} {set : Int} {nl : Nat} {ld0 sc0 : Int → Int} {a : Nat → Nat} : ∀ {m d : Nat} {P : Int}, d + m = cqS set nl → (∀ k, d ≤ k → k < cqS set nl → a k < 6 ∧ okB so ro pm th (ldA th set nl ld0 a k) (scA so set nl sc0 a k) (ckF set nl k) (a k : Nat) = true) → viF fl so ro pm th set nl m (ldA th set nl ld0 a d) (scA so set nl sc0 a d) (prA fl th set nl a d) P ≤ prA fl th set nl a (cqS set nl)
  | 0, d, P, hd, h => by
    obtain rfl : d = cqS set nl := by omega
    unfold viF; omega
  | m + 1, d, P, hd, h => by
    have e : cqS set nl - (m + 1) = d := by omega
    unfold viF
    rw [e]
    have hk := h d (Nat.le_refl _) (by omega)
    refine fd_le (q := a d) (fun acc f => ?_) (fun acc => ?_) _ _ (List.mem_range'_1.mpr ⟨by omega, by omega⟩)
    · split
      · exact vi_le0
      · exact Int.le_refl _
    · rw [if_pos hk.2]
      exact vi_le (m := m) (d := d + 1) (by omega) (fun k h1 h2 => h k (by omega) h2)
theorem vi_at {fl so ro pm th : Int → Int} {set : Int} {nl : Nat} {ld0 sc0 : Int → Int} : ∀ {m d : Nat} {a : Nat → Nat} {P : Int}, d + m = cqS set nl → viF fl so ro pm th set nl m (ldA th set nl ld0 a d) (scA so set nl sc0 a d) (prA fl th set nl a d) P = P ∨ ∃ a' : Nat → Nat, (∀ k, k < d → a' k = a k) ∧ (∀ k, d ≤ k → k < cqS set nl → a' k < 6 ∧ okB so ro pm th (ldA th set nl ld0 a' k) (scA so set nl sc0 a' k) (ckF set nl k) (a' k : Nat) = true) ∧ viF fl so ro pm th set nl m (ldA th set nl ld0 a d) (scA so set nl sc0 a d) (prA fl th set nl a d) P = prA fl th set nl a' (cqS set nl)
  | 0, d, a, P, hd => by
    obtain rfl : d = cqS set nl := by omega
    unfold viF
    by_cases q : P ≤ prA fl th set nl a (cqS set nl)
    · exact Or.inl (Int.min_eq_left q)
    · exact Or.inr ⟨a, fun k _ => rfl, fun k h1 h2 => absurd h2 (by omega), Int.min_eq_right (by omega)⟩
  | m + 1, d, a, P, hd => by
    have e : cqS set nl - (m + 1) = d := by omega
    unfold viF
    rw [e]
    refine fd_at (Q := fun v => ∃ a' : Nat → Nat, (∀ k, k < d → a' k = a k) ∧ (∀ k, d ≤ k → k < cqS set nl → a' k < 6 ∧ okB so ro pm th (ldA th set nl ld0 a' k) (scA so set nl sc0 a' k) (ckF set nl k) (a' k : Nat) = true) ∧ v = prA fl th set nl a' (cqS set nl)) (fun acc f hf => ?_) _ _ (fun f hf => by have := List.mem_range'_1.mp hf; omega)
    by_cases ok : okB so ro pm th (ldA th set nl ld0 a d) (scA so set nl sc0 a d) (ckF set nl d) (f : Nat) = true
    · rw [if_pos ok]
      obtain ⟨A, c1, e0⟩ : ∃ A : Nat → Nat, (∀ k, k < d → A k = a k) ∧ A d = f := ⟨fun k => if k = d then f else a k, fun k hk => if_neg (by omega), if_pos rfl⟩
      have e1 : ldA th set nl ld0 A (d + 1) = u1 (ldA th set nl ld0 a d) (f : Nat) (ldA th set nl ld0 a d (f : Nat) + th (ckF set nl d)) := by
        rw [ldA_s, ldA_cg c1, e0]
      have e2 : scA so set nl sc0 A (d + 1) = u1 (scA so set nl sc0 a d) (4 * (f : Nat) + so (ckF set nl d)) (scA so set nl sc0 a d (4 * (f : Nat) + so (ckF set nl d)) + 1) := by
        rw [scA_s, scA_cg c1, e0]
      have e3 : prA fl th set nl A (d + 1) = prA fl th set nl a d + ownS fl th (f : Nat) d (ckF set nl d) := by
        rw [prA_s, prA_cg c1, e0]
      rw [← e1, ← e2, ← e3]
      rcases vi_at (fl := fl) (so := so) (ro := ro) (pm := pm) (th := th) (set := set) (nl := nl) (ld0 := ld0) (sc0 := sc0) (m := m) (d := d + 1) (a := A) (P := acc) (by omega) with q | ⟨a', q1, q2, q3⟩
      · exact Or.inl q
      · refine Or.inr ⟨a', fun k hk => (q1 k (by omega)).trans (c1 k hk), fun k h1 h2 => ?_, q3⟩
        by_cases ek : k = d
        · subst ek
          have g1 : ∀ i, i < k → a' i = a i := fun i hi => (q1 i (by omega)).trans (c1 i hi)
          have g2 : a' k = f := (q1 k (by omega)).trans e0
          rw [ldA_cg g1, scA_cg g1, g2]
          exact ⟨hf, ok⟩
        · exact q2 k (by omega) h2
    · rw [if_neg ok]; exact Or.inl rfl
/-- casks laid on f by the first d -/
def lsF (th : Int → Int) (set : Int) (nl : Nat) (a : Nat → Nat) (f : Nat) : Nat → Int
  | 0 => 0
  | d + 1 => lsF th set nl a f d + if a d = f then th (ckF set nl d) else 0
theorem ldA_val {th : Int → Int} {set : Int} {nl : Nat} {ld0 : Int → Int} {a : Nat → Nat} {f : Nat} : ∀ {d : Nat}, ldA th set nl ld0 a d (f : Nat) = ld0 (f : Nat) + lsF th set nl a f d
  | 0 => by unfold ldA lsF; omega
  | d + 1 => by
    have ih := ldA_val (th := th) (set := set) (nl := nl) (ld0 := ld0) (a := a) (f := f) (d := d)
    unfold ldA lsF
    by_cases e : a d = f
    · rw [e, u1_at, if_pos rfl, ih]; omega
    · rw [u1_ne (by omega), if_neg e, ih]; omega
theorem lsF_mono {th : Int → Int} {set : Int} {nl : Nat} (hth : ∀ x, 0 ≤ x → x < ((nl : Nat) : Int) → 0 ≤ th x ∧ th x ≤ 200) {a : Nat → Nat} {f d : Nat} : ∀ {e : Nat}, d ≤ e → e ≤ cqS set nl → lsF th set nl a f d ≤ lsF th set nl a f e
  | 0, h, _ => by rw [show d = 0 by omega]; exact Int.le_refl _
  | e + 1, h, hc => by
    by_cases q : d = e + 1
    · rw [q]; exact Int.le_refl _
    · have ih := lsF_mono hth (set := set) (a := a) (f := f) (d := d) (e := e) (by omega) (by omega)
      have r := ckF_rg (set := set) (n := nl) (k := e) (by omega)
      have t := hth _ r.1 r.2
      rw [show lsF th set nl a f (e + 1) = lsF th set nl a f e + (if a e = f then th (ckF set nl e) else 0) from rfl]
      split <;> omega
theorem scA_val {so : Int → Int} {set : Int} {nl : Nat} {sc0 : Int → Int} {a : Nat → Nat} {f t : Nat} (hso : ∀ k, k < cqS set nl → 0 ≤ so (ckF set nl k) ∧ so (ckF set nl k) ≤ 3) (h0 : 0 ≤ sc0 (4 * (f : Nat) + (t : Nat))) (ht : t < 4) : ∀ {d : Nat}, d ≤ cqS set nl → 0 ≤ scA so set nl sc0 a d (4 * (f : Nat) + (t : Nat)) ∧ (scA so set nl sc0 a d (4 * (f : Nat) + (t : Nat)) ≠ 0 ↔ (sc0 (4 * (f : Nat) + (t : Nat)) ≠ 0 ∨ ∃ k, k < d ∧ a k = f ∧ so (ckF set nl k) = (t : Nat)))
  | 0, _ => by
    unfold scA
    refine ⟨h0, fun q => Or.inl q, ?_⟩
    rintro (q | ⟨k, k0, _⟩)
    · exact q
    · omega
  | d + 1, hd => by
    obtain ⟨i1, i2⟩ := scA_val (a := a) (f := f) hso h0 ht (d := d) (by omega)
    have s := hso d (by omega)
    unfold scA
    by_cases e : a d = f ∧ so (ckF set nl d) = (t : Nat)
    · rw [e.1, e.2, u1_at]
      exact ⟨by omega, fun _ => Or.inr ⟨d, by omega, e⟩, fun _ => by omega⟩
    · rw [u1_ne (fun q => e (by omega))]
      refine ⟨i1, i2.trans ?_⟩
      constructor
      · rintro (q | ⟨k, k1, k2⟩)
        · exact Or.inl q
        · exact Or.inr ⟨k, by omega, k2⟩
      · rintro (q | ⟨k, k1, k2⟩)
        · exact Or.inl q
        · by_cases z : k = d
          · subst z; exact absurd k2 e
          · exact Or.inr ⟨k, by omega, k2⟩
/-- what stays, as the model puts it -/
def ldI (fl th : Int → Int) (set : Int) (g : Int → Int) : Nat → Int → Int
  | 0 => g
  | n + 1 => if set / 2 ^ n % 2 = 1 then ldI fl th set g n else u1 (ldI fl th set g n) (fl (n : Nat)) (ldI fl th set g n (fl (n : Nat)) + th (n : Nat))
def scI (fl so : Int → Int) (set : Int) (g : Int → Int) : Nat → Int → Int
  | 0 => g
  | n + 1 => if set / 2 ^ n % 2 = 1 then scI fl so set g n else u1 (scI fl so set g n) (4 * fl (n : Nat) + so (n : Nat)) (scI fl so set g n (4 * fl (n : Nat) + so (n : Nat)) + 1)
theorem ldI_val {fl th g : Int → Int} {set f : Int} (hg : g f = 0) : ∀ {n : Nat}, ldI fl th set g n f = syS fl th set f n
  | 0 => hg
  | n + 1 => by
    have ih := ldI_val (fl := fl) (th := th) (set := set) hg (n := n)
    unfold ldI syS
    by_cases b : set / 2 ^ n % 2 = 1
    · rw [if_pos b, if_neg (fun q => q.1 b)]; exact ih
    · rw [if_neg b]
      by_cases e : fl (n : Nat) = f
      · rw [if_pos ⟨b, e⟩, e, u1_at, ih]
      · rw [if_neg (fun q => e q.2), u1_ne (fun q => e q.symm)]; exact ih
theorem scI_val {fl so g : Int → Int} {set : Int} {f t : Nat} (ht : t < 4) (hg : g (4 * (f : Nat) + (t : Nat)) = 0) : ∀ {n : Nat}, (∀ y : Nat, y < n → 0 ≤ so (y : Nat) ∧ so (y : Nat) ≤ 3) → 0 ≤ scI fl so set g n (4 * (f : Nat) + (t : Nat)) ∧ (scI fl so set g n (4 * (f : Nat) + (t : Nat)) ≠ 0 ↔ ∃ y : Nat, y < n ∧ ¬ set / 2 ^ y % 2 = 1 ∧ fl (y : Nat) = (f : Nat) ∧ so (y : Nat) = (t : Nat))
  | 0, _ => by
    unfold scI
    exact ⟨by omega, fun q => absurd hg q, fun ⟨y, y0, _⟩ => absurd y0 (Nat.not_lt_zero _)⟩
  | n + 1, hso => by
    obtain ⟨i1, i2⟩ := scI_val (fl := fl) (so := so) (set := set) ht hg (n := n) (fun y hy => hso y (by omega))
    have s := hso n (by omega)
    unfold scI
    by_cases b : set / 2 ^ n % 2 = 1
    · rw [if_pos b]
      refine ⟨i1, i2.trans ⟨fun ⟨y, y1, y2⟩ => ⟨y, by omega, y2⟩, fun ⟨y, y1, y2⟩ => ⟨y, ?_, y2⟩⟩⟩
      by_cases z : y = n
      · subst z; exact absurd b y2.1
      · omega
    · rw [if_neg b]
      by_cases e : fl (n : Nat) = (f : Nat) ∧ so (n : Nat) = (t : Nat)
      · rw [e.1, e.2, u1_at]
        exact ⟨by omega, fun _ => ⟨n, by omega, b, e⟩, fun _ => by omega⟩
      · rw [u1_ne (fun q => e (by omega))]
        refine ⟨i1, i2.trans ⟨fun ⟨y, y1, y2⟩ => ⟨y, by omega, y2⟩, fun ⟨y, y1, y2⟩ => ⟨y, ?_, y2⟩⟩⟩
        by_cases z : y = n
        · subst z; exact absurd y2.2 e
        · omega
theorem or1_d : (List.range 16).all (fun a => (List.range 4).all (fun k => (List.range 4).all (fun t => decide ((bOr ((a : Nat) : Int) (bShl 1 ((k : Nat) : Int)) / 2 ^ t % 2 = 1) ↔ (((a : Nat) : Int) / 2 ^ t % 2 = 1 ∨ k = t))))) = true := by decide +kernel
theorem or1 {a k : Int} {t : Nat} (ha : 0 ≤ a ∧ a < 16) (hk : 0 ≤ k ∧ k ≤ 3) (ht : t < 4) : bOr a (bShl 1 k) / 2 ^ t % 2 = 1 ↔ (a / 2 ^ t % 2 = 1 ∨ k = (t : Nat)) := by
  have h := of_decide_eq_true (List.all_eq_true.mp (List.all_eq_true.mp (List.all_eq_true.mp or1_d a.toNat (List.mem_range.mpr (by omega))) k.toNat (List.mem_range.mpr (by omega))) t (List.mem_range.mpr ht))
  rw [show ((a.toNat : Nat) : Int) = a by omega, show ((k.toNat : Nat) : Int) = k by omega] at h
  rw [h]
  constructor
  · rintro (q | q)
    · exact Or.inl q
    · exact Or.inr (by omega)
  · rintro (q | q)
    · exact Or.inl q
    · exact Or.inr (by omega)
theorem or2_d : (List.range 16).all (fun a => (List.range 16).all (fun b => decide (0 ≤ bOr ((a : Nat) : Int) ((b : Nat) : Int) ∧ bOr ((a : Nat) : Int) ((b : Nat) : Int) < 16) && (List.range 4).all (fun t => decide ((bOr ((a : Nat) : Int) ((b : Nat) : Int) / 2 ^ t % 2 = 1) ↔ (((a : Nat) : Int) / 2 ^ t % 2 = 1 ∨ ((b : Nat) : Int) / 2 ^ t % 2 = 1))))) = true := by decide +kernel
theorem or2 {a b : Int} (ha : 0 ≤ a ∧ a < 16) (hb : 0 ≤ b ∧ b < 16) : (0 ≤ bOr a b ∧ bOr a b < 16) ∧ ∀ t : Nat, t < 4 → (bOr a b / 2 ^ t % 2 = 1 ↔ (a / 2 ^ t % 2 = 1 ∨ b / 2 ^ t % 2 = 1)) := by
  have h := List.all_eq_true.mp (List.all_eq_true.mp or2_d a.toNat (List.mem_range.mpr (by omega))) b.toNat (List.mem_range.mpr (by omega))
  rw [show ((a.toNat : Nat) : Int) = a by omega, show ((b.toNat : Nat) : Int) = b by omega, Bool.and_eq_true] at h
  exact ⟨of_decide_eq_true h.1, fun t ht => of_decide_eq_true (List.all_eq_true.mp h.2 t (List.mem_range.mpr ht))⟩
theorem an2_d : (List.range 16).all (fun a => (List.range 16).all (fun b => decide (bAnd ((a : Nat) : Int) ((b : Nat) : Int) ≠ 0) == (List.range 4).any (fun t => decide (((a : Nat) : Int) / 2 ^ t % 2 = 1) && decide (((b : Nat) : Int) / 2 ^ t % 2 = 1)))) = true := by decide +kernel
theorem an2 {a b : Int} (ha : 0 ≤ a ∧ a < 16) (hb : 0 ≤ b ∧ b < 16) : bAnd a b ≠ 0 ↔ ∃ t : Nat, t < 4 ∧ a / 2 ^ t % 2 = 1 ∧ b / 2 ^ t % 2 = 1 := by
  have h := eq_of_beq (List.all_eq_true.mp (List.all_eq_true.mp an2_d a.toNat (List.mem_range.mpr (by omega))) b.toNat (List.mem_range.mpr (by omega)))
  rw [show ((a.toNat : Nat) : Int) = a by omega, show ((b.toNat : Nat) : Int) = b by omega] at h
  rw [← decide_eq_true_iff (p := bAnd a b ≠ 0), h, List.any_eq_true]
  constructor
  · rintro ⟨t, t1, t2⟩
    rw [Bool.and_eq_true, decide_eq_true_iff, decide_eq_true_iff] at t2
    exact ⟨t, List.mem_range.mp t1, t2⟩
  · rintro ⟨t, t1, t2⟩
    refine ⟨t, List.mem_range.mpr t1, ?_⟩
    rw [Bool.and_eq_true, decide_eq_true_iff, decide_eq_true_iff]
    exact t2
theorem srF_bit {g : Nat → Int} {s t : Nat} (ht : t < 4) : ∀ {k : Nat}, (∀ j, j < k → 0 ≤ g j ∧ g j ≤ 3) → (srF g k (s : Nat) / 2 ^ t % 2 = 1 ↔ ∃ i, i < k ∧ s.testBit i = true ∧ g i = (t : Nat))
  | 0, _ => by
    constructor
    · intro q
      have q : (0 : Int) / 2 ^ t % 2 = 1 := q
      rw [Int.zero_ediv] at q; exact absurd q (by decide)
    · rintro ⟨i, i0, _⟩; omega
  | k + 1, h => by
    have ih := srF_bit (g := g) (s := s) ht (k := k) (fun j hj => h j (by omega))
    have r := srF_rg (g := g) (s := (s : Nat)) (k := k) (fun j hj => h j (by omega))
    unfold srF
    by_cases b : s.testBit k = true
    · rw [if_pos (tbq.mpr b), or1 r (h k (by omega)) ht, ih]
      constructor
      · rintro (⟨i, i1, i2⟩ | q)
        · exact ⟨i, by omega, i2⟩
        · exact ⟨k, by omega, b, q⟩
      · rintro ⟨i, i1, i2⟩
        by_cases e : i = k
        · subst e; exact Or.inr i2.2
        · exact Or.inl ⟨i, by omega, i2⟩
    · rw [if_neg (fun q => b (tbq.mp q)), ih]
      constructor
      · rintro ⟨i, i1, i2⟩
        exact ⟨i, by omega, i2⟩
      · rintro ⟨i, i1, i2⟩
        by_cases e : i = k
        · subst e; exact absurd i2.1 b
        · exact ⟨i, by omega, i2⟩
theorem soS_bit {fl so : Int → Int} {set f : Int} {t : Nat} (ht : t < 4) : ∀ {n : Nat}, (∀ j : Nat, j < n → 0 ≤ so j ∧ so j ≤ 3) → (soS fl so set f n / 2 ^ t % 2 = 1 ↔ ∃ y : Nat, y < n ∧ ¬ set / 2 ^ y % 2 = 1 ∧ fl (y : Nat) = f ∧ so (y : Nat) = (t : Nat))
  | 0, _ => by
    constructor
    · intro q
      have q : (0 : Int) / 2 ^ t % 2 = 1 := q
      rw [Int.zero_ediv] at q; exact absurd q (by decide)
    · rintro ⟨i, i0, _⟩; omega
  | n + 1, h => by
    have ih := soS_bit (fl := fl) (so := so) (set := set) (f := f) ht (n := n) (fun j hj => h j (by omega))
    have r := soS_rg (fl := fl) (so := so) (set := set) (f := f) (n := n) (fun j hj => h j (by omega))
    unfold soS
    by_cases b : ¬ set / 2 ^ n % 2 = 1 ∧ fl (n : Nat) = f
    · rw [if_pos b, or1 r (h n (by omega)) ht, ih]
      constructor
      · rintro (⟨i, i1, i2⟩ | q)
        · exact ⟨i, by omega, i2⟩
        · exact ⟨n, by omega, b.1, b.2, q⟩
      · rintro ⟨i, i1, i2⟩
        by_cases e : i = n
        · subst e; exact Or.inr i2.2.2
        · exact Or.inl ⟨i, by omega, i2⟩
    · rw [if_neg b, ih]
      constructor
      · rintro ⟨i, i1, i2⟩
        exact ⟨i, by omega, i2⟩
      · rintro ⟨i, i1, i2⟩
        by_cases e : i = n
        · subst e; exact absurd ⟨i2.1, i2.2.1⟩ b
        · exact ⟨i, by omega, i2⟩
