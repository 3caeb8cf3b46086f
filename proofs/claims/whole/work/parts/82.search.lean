/-! plan: the model searches -/
variable {l : Launch} {G : GC} {σ : Nat → Int → Int}

def wF (d : Nat) : Int := [1679616, 279936, 46656, 7776, 1296, 216, 36, 6, 1].getD d 0
/-- a digit more -/
theorem dg {pr f t : Int} {d : Nat} (hd : d < 8) (h0 : 0 ≤ pr) (hm : pr % wF d = 0) (hf : 0 ≤ f ∧ f ≤ 5) : (∀ k : Nat, k < d → (pr + (f * ofF (d : Nat) + t * 1679616)) / ofF (k : Nat) % 6 = pr / ofF (k : Nat) % 6) ∧ (pr + (f * ofF (d : Nat) + t * 1679616)) / ofF (d : Nat) % 6 = f ∧ (pr + (f * ofF (d : Nat) + t * 1679616)) / 1679616 = pr / 1679616 + t ∧ (pr + (f * ofF (d : Nat) + t * 1679616)) % wF (d + 1) = 0 ∧ (pr + (f * ofF (d : Nat) + t * 1679616)) % 1679616 = pr % 1679616 + f * ofF (d : Nat) ∧ wF d = 6 * ofF (d : Nat) ∧ wF (d + 1) = ofF (d : Nat) := by
  rcases (by omega : d = 0 ∨ d = 1 ∨ d = 2 ∨ d = 3 ∨ d = 4 ∨ d = 5 ∨ d = 6 ∨ d = 7) with rfl | rfl | rfl | rfl | rfl | rfl | rfl | rfl
  · have w0 : wF 0 = 1679616 := rfl
    have w1 : wF (0 + 1) = 279936 := rfl
    have w2 : ofF (((0 : Nat) : Nat) : Int) = 279936 := rfl
    rw [w0] at hm
    refine ⟨fun k hk => ?_, ?_, ?_, ?_, ?_, ?_, ?_⟩
    · omega
    · rw [w2]; omega
    · rw [w2]; omega
    · rw [w1, w2]; omega
    · rw [w2]; omega
    · rw [w0, w2]; omega
    · rw [w1, w2]
  · have w0 : wF 1 = 279936 := rfl
    have w1 : wF (1 + 1) = 46656 := rfl
    have w2 : ofF (((1 : Nat) : Nat) : Int) = 46656 := rfl
    rw [w0] at hm
    refine ⟨fun k hk => ?_, ?_, ?_, ?_, ?_, ?_, ?_⟩
    · have q : k = 0 := by omega
      subst q; rw [show ofF (((0 : Nat) : Nat) : Int) = 279936 from rfl, w2]; omega
    · rw [w2]; omega
    · rw [w2]; omega
    · rw [w1, w2]; omega
    · rw [w2]; omega
    · rw [w0, w2]; omega
    · rw [w1, w2]
  · have w0 : wF 2 = 46656 := rfl
    have w1 : wF (2 + 1) = 7776 := rfl
    have w2 : ofF (((2 : Nat) : Nat) : Int) = 7776 := rfl
    rw [w0] at hm
    refine ⟨fun k hk => ?_, ?_, ?_, ?_, ?_, ?_, ?_⟩
    · rcases (by omega : k = 0 ∨ k = 1) with q | q
      · subst q; rw [show ofF (((0 : Nat) : Nat) : Int) = 279936 from rfl, w2]; omega
      · subst q; rw [show ofF (((1 : Nat) : Nat) : Int) = 46656 from rfl, w2]; omega
    · rw [w2]; omega
    · rw [w2]; omega
    · rw [w1, w2]; omega
    · rw [w2]; omega
    · rw [w0, w2]; omega
    · rw [w1, w2]
  · have w0 : wF 3 = 7776 := rfl
    have w1 : wF (3 + 1) = 1296 := rfl
    have w2 : ofF (((3 : Nat) : Nat) : Int) = 1296 := rfl
    rw [w0] at hm
    refine ⟨fun k hk => ?_, ?_, ?_, ?_, ?_, ?_, ?_⟩
    · rcases (by omega : k = 0 ∨ k = 1 ∨ k = 2) with q | q | q
      · subst q; rw [show ofF (((0 : Nat) : Nat) : Int) = 279936 from rfl, w2]; omega
      · subst q; rw [show ofF (((1 : Nat) : Nat) : Int) = 46656 from rfl, w2]; omega
      · subst q; rw [show ofF (((2 : Nat) : Nat) : Int) = 7776 from rfl, w2]; omega
    · rw [w2]; omega
    · rw [w2]; omega
    · rw [w1, w2]; omega
    · rw [w2]; omega
    · rw [w0, w2]; omega
    · rw [w1, w2]
  · have w0 : wF 4 = 1296 := rfl
    have w1 : wF (4 + 1) = 216 := rfl
    have w2 : ofF (((4 : Nat) : Nat) : Int) = 216 := rfl
    rw [w0] at hm
    refine ⟨fun k hk => ?_, ?_, ?_, ?_, ?_, ?_, ?_⟩
    · rcases (by omega : k = 0 ∨ k = 1 ∨ k = 2 ∨ k = 3) with q | q | q | q
      · subst q; rw [show ofF (((0 : Nat) : Nat) : Int) = 279936 from rfl, w2]; omega
      · subst q; rw [show ofF (((1 : Nat) : Nat) : Int) = 46656 from rfl, w2]; omega
      · subst q; rw [show ofF (((2 : Nat) : Nat) : Int) = 7776 from rfl, w2]; omega
      · subst q; rw [show ofF (((3 : Nat) : Nat) : Int) = 1296 from rfl, w2]; omega
    · rw [w2]; omega
    · rw [w2]; omega
    · rw [w1, w2]; omega
    · rw [w2]; omega
    · rw [w0, w2]; omega
    · rw [w1, w2]
  · have w0 : wF 5 = 216 := rfl
    have w1 : wF (5 + 1) = 36 := rfl
    have w2 : ofF (((5 : Nat) : Nat) : Int) = 36 := rfl
    rw [w0] at hm
    refine ⟨fun k hk => ?_, ?_, ?_, ?_, ?_, ?_, ?_⟩
    · rcases (by omega : k = 0 ∨ k = 1 ∨ k = 2 ∨ k = 3 ∨ k = 4) with q | q | q | q | q
      · subst q; rw [show ofF (((0 : Nat) : Nat) : Int) = 279936 from rfl, w2]; omega
      · subst q; rw [show ofF (((1 : Nat) : Nat) : Int) = 46656 from rfl, w2]; omega
      · subst q; rw [show ofF (((2 : Nat) : Nat) : Int) = 7776 from rfl, w2]; omega
      · subst q; rw [show ofF (((3 : Nat) : Nat) : Int) = 1296 from rfl, w2]; omega
      · subst q; rw [show ofF (((4 : Nat) : Nat) : Int) = 216 from rfl, w2]; omega
    · rw [w2]; omega
    · rw [w2]; omega
    · rw [w1, w2]; omega
    · rw [w2]; omega
    · rw [w0, w2]; omega
    · rw [w1, w2]
  · have w0 : wF 6 = 36 := rfl
    have w1 : wF (6 + 1) = 6 := rfl
    have w2 : ofF (((6 : Nat) : Nat) : Int) = 6 := rfl
    rw [w0] at hm
    refine ⟨fun k hk => ?_, ?_, ?_, ?_, ?_, ?_, ?_⟩
    · rcases (by omega : k = 0 ∨ k = 1 ∨ k = 2 ∨ k = 3 ∨ k = 4 ∨ k = 5) with q | q | q | q | q | q
      · subst q; rw [show ofF (((0 : Nat) : Nat) : Int) = 279936 from rfl, w2]; omega
      · subst q; rw [show ofF (((1 : Nat) : Nat) : Int) = 46656 from rfl, w2]; omega
      · subst q; rw [show ofF (((2 : Nat) : Nat) : Int) = 7776 from rfl, w2]; omega
      · subst q; rw [show ofF (((3 : Nat) : Nat) : Int) = 1296 from rfl, w2]; omega
      · subst q; rw [show ofF (((4 : Nat) : Nat) : Int) = 216 from rfl, w2]; omega
      · subst q; rw [show ofF (((5 : Nat) : Nat) : Int) = 36 from rfl, w2]; omega
    · rw [w2]; omega
    · rw [w2]; omega
    · rw [w1, w2]; omega
    · rw [w2]; omega
    · rw [w0, w2]; omega
    · rw [w1, w2]
  · have w0 : wF 7 = 6 := rfl
    have w1 : wF (7 + 1) = 1 := rfl
    have w2 : ofF (((7 : Nat) : Nat) : Int) = 1 := rfl
    rw [w0] at hm
    refine ⟨fun k hk => ?_, ?_, ?_, ?_, ?_, ?_, ?_⟩
    · rcases (by omega : k = 0 ∨ k = 1 ∨ k = 2 ∨ k = 3 ∨ k = 4 ∨ k = 5 ∨ k = 6) with q | q | q | q | q | q | q
      · subst q; rw [show ofF (((0 : Nat) : Nat) : Int) = 279936 from rfl, w2]; omega
      · subst q; rw [show ofF (((1 : Nat) : Nat) : Int) = 46656 from rfl, w2]; omega
      · subst q; rw [show ofF (((2 : Nat) : Nat) : Int) = 7776 from rfl, w2]; omega
      · subst q; rw [show ofF (((3 : Nat) : Nat) : Int) = 1296 from rfl, w2]; omega
      · subst q; rw [show ofF (((4 : Nat) : Nat) : Int) = 216 from rfl, w2]; omega
      · subst q; rw [show ofF (((5 : Nat) : Nat) : Int) = 36 from rfl, w2]; omega
      · subst q; rw [show ofF (((6 : Nat) : Nat) : Int) = 6 from rfl, w2]; omega
    · rw [w2]; omega
    · rw [w2]; omega
    · rw [w1, w2]; omega
    · rw [w2]; omega
    · rw [w0, w2]; omega
    · rw [w1, w2]
theorem wF_pos {d : Nat} (h : d ≤ 8) : 1 ≤ wF d := (by decide : ∀ d : Nat, d ≤ 8 → 1 ≤ wF d) d h
def BLP (c : Nat) (P b : Int) (g : Int → Int) : Prop := (P = 1152921504606846976 ∧ b = -1) ∨ ((0 ≤ P ∧ P < 3600000000000) ∧ b = P / 1679616 ∧ ∀ k : Nat, k < c → g (k : Nat) = P / ofF (k : Nat) % 6)
theorem BLP.rg {c : Nat} {P b : Int} {g : Int → Int} (h : BLP c P b g) : -1 ≤ b ∧ b ≤ 2143347 ∧ (P = 1152921504606846976 ∧ b = -1 ∨ (0 ≤ P ∧ P < 3600000000000) ∧ b = P / 1679616) := by
  rcases h with h | ⟨h1, h2, _⟩ <;> omega
def BdN (d : Nat) (ld sc : Int → Int) : Prop := (∀ f, 0 ≤ f → f ≤ 5 → 0 ≤ ld f ∧ ld f ≤ 2400 + 200 * (d : Nat)) ∧ ∀ j, 0 ≤ j → j < 24 → 0 ≤ sc j ∧ sc j ≤ 12 + (d : Nat)
def NdP (d : Nat) (pr : Int) (la mv : Int → Int) : Prop := (0 ≤ pr ∧ pr ≤ 400000000 * (d : Nat)) ∧ pr % wF d = 0 ∧ (∀ k : Nat, k < d → la (k : Nat) = pr / ofF (k : Nat) % 6) ∧ mv (d : Nat) = pr / 1679616
theorem fd_ge {F : Int → Nat → Int} {B : Int} (h : ∀ acc f, f < 6 → min acc B ≤ F acc f) : ∀ (L : List Nat) (acc : Int), (∀ f ∈ L, f < 6) → min acc B ≤ L.foldl F acc
  | [], acc, _ => by show min acc B ≤ acc; omega
  | f :: L, acc, hL => by
    have a := h acc f (hL f List.mem_cons_self)
    have b := fd_ge h L (F acc f) (fun g hg => hL g (List.mem_cons_of_mem _ hg))
    rw [List.foldl_cons]; omega
theorem vi_ge {fl so ro pm th : Int → Int} {set : Int} {nl : Nat} (hc : cqS set nl ≤ 8) (hth : ∀ x, 0 ≤ x → x < ((nl : Nat) : Int) → 0 ≤ th x ∧ th x ≤ 200) : ∀ {m : Nat} {ld sc : Int → Int} {pr P : Int}, m ≤ cqS set nl → min P pr ≤ viF fl so ro pm th set nl m ld sc pr P
  | 0, ld, sc, pr, P, _ => Int.le_refl _
  | m + 1, ld, sc, pr, P, hm => by
    unfold viF
    refine fd_ge (fun acc f hf => ?_) _ _ (fun f hf => by have := List.mem_range'_1.mp hf; omega)
    split
    · have r := ckF_rg (set := set) (n := nl) (k := cqS set nl - (m + 1)) (by omega)
      have o := own_rg (fl := fl) (th := th) (f := (f : Nat)) (x := ckF set nl (cqS set nl - (m + 1))) (k := cqS set nl - (m + 1)) (by omega) (by omega) (hth _ r.1 r.2)
      have q := vi_ge (fl := fl) (so := so) (ro := ro) (pm := pm) hc hth (m := m) (ld := u1 ld (f : Nat) (ld (f : Nat) + th (ckF set nl (cqS set nl - (m + 1))))) (sc := u1 sc (4 * (f : Nat) + so (ckF set nl (cqS set nl - (m + 1)))) (sc (4 * (f : Nat) + so (ckF set nl (cqS set nl - (m + 1)))) + 1)) (pr := pr + ownS fl th (f : Nat) (cqS set nl - (m + 1)) (ckF set nl (cqS set nl - (m + 1)))) (P := acc) (by omega)
      omega
    · omega
theorem u1_back {g : Int → Int} {i v w : Int} (h : w = g i) : u1 (u1 g i v) i w = g := by
  funext j
  by_cases e : j = i
  · subst e; rw [u1_at, h]
  · rw [u1_ne e, u1_ne e]
theorem upq_at {τ : Nat → Int → Int} {k : Nat} {i v : Int} : upq τ k i v k = u1 (τ k) i v := by
  funext b; rw [upq_eq]; rfl

set_option maxHeartbeats 4000000 in
theorem c_X11_layAll {th : Int → Int} {set : Int} {nl : Nat} (hc : cqS set nl ≤ 8) (hn : nl ≤ 12) (hT : ∀ υ, Fr [169, 170, 172, 173, 174] σ υ → ∀ x, 0 ≤ x → x < ((nl : Nat) : Int) → CI l G M_X11_there 0 [vr 114, vi x] υ (IP (th x) υ)) (hth : ∀ x, 0 ≤ x → x < ((nl : Nat) : Int) → 0 ≤ th x ∧ th x ≤ 200) (h75 : σ 114 75 = (cqS set nl : Nat)) (hof : ∀ k : Nat, k < cqS set nl → σ 171 (k : Nat) = ckF set nl k) (hso : ∀ x, 0 ≤ x → x < ((nl : Nat) : Int) → 0 ≤ σ 115 x ∧ σ 115 x ≤ 3) (hfl : ∀ x, 0 ≤ x → x < ((nl : Nat) : Int) → 0 ≤ σ 119 x ∧ σ 119 x ≤ 5) (hro : ∀ f, 0 ≤ f → f ≤ 5 → 0 ≤ σ 121 f ∧ σ 121 f ≤ 999) (hpm : ∀ s, 0 ≤ s → s < 4 → ∀ t : Nat, t < 4 → σ 168 (4 * s + t) = 0 ∨ σ 168 (4 * s + t) = 1) (hbd : BdN 0 (σ 172) (σ 173)) : CI l G M_X11_layAll 2 [vr 114] σ (fun z τ => Fr [169, 170, 172, 173, 174] σ τ ∧ BLP (cqS set nl) (viF (σ 119) (σ 115) (σ 121) (σ 168) th set nl (cqS set nl) (σ 172) (σ 173) 0 1152921504606846976) z (τ 170)) := by
  refine Ct.of rfl (Nat.le_of_ble_eq_true rfl) ?_
  have vis : ∀ (m d : Nat) (ld sc : Int → Int) (pr P b : Int) (o3 o4 : Option AV) (τ : Nat → Int → Int), d + m = cqS set nl → Fr [169, 170, 172, 173, 174] σ τ → τ 172 = ld → τ 173 = sc → BdN d ld sc → NdP d pr (τ 169) (τ 174) → (0 < m → τ 169 (d : Nat) = -1) → BLP (cqS set nl) P b (τ 170) → (P = 1152921504606846976 ∨ P % 1679616 < pr % 1679616) → (∀ (b9 : Int) (o3 o4 : Option AV) (τ9 : Nat → Int → Int), Fr [169, 170, 172, 173, 174] σ τ9 → τ9 172 = ld → τ9 173 = sc → (∀ k : Nat, k < d → τ9 169 (k : Nat) = τ 169 (k : Nat)) → (∀ k : Nat, k ≤ d → τ9 174 (k : Nat) = τ 174 (k : Nat)) → BLP (cqS set nl) (viF (σ 119) (σ 115) (σ 121) (σ 168) th set nl m ld sc pr P) b9 (τ9 170) → (viF (σ 119) (σ 115) (σ 121) (σ 168) th set nl m ld sc pr P = 1152921504606846976 ∨ viF (σ 119) (σ 115) (σ 121) (σ 168) th set nl m ld sc pr P % 1679616 < pr % 1679616 + wF d) → XI l G M_X11_layAll 2 18 [some (vr 114), some (vi b9), some (vi ((d : Nat) + -1)), o3, o4] [] τ9 (fun z τ => Fr [169, 170, 172, 173, 174] σ τ ∧ BLP (cqS set nl) (viF (σ 119) (σ 115) (σ 121) (σ 168) th set nl (cqS set nl) (σ 172) (σ 173) 0 1152921504606846976) z (τ 170))) → XI l G M_X11_layAll 2 18 [some (vr 114), some (vi b), some (vi (d : Nat)), o3, o4] [] τ (fun z τ => Fr [169, 170, 172, 173, 174] σ τ ∧ BLP (cqS set nl) (viF (σ 119) (σ 115) (σ 121) (σ 168) th set nl (cqS set nl) (σ 172) (σ 173) 0 1152921504606846976) z (τ 170)) := by
    intro m
    induction m with
    | zero =>
      intro d ld sc pr P b o3 o4 τ hd hF h2 h3 hB hN hl hL hx K
      obtain rfl : d = cqS set nl := by omega
      obtain ⟨n1, n2, n3, n4⟩ := hN
      have e75 : τ 114 75 = (cqS set nl : Nat) := by rw [hF 114 (by decide)]; exact h75
      have bl := hL.rg
      have wp := wF_pos hc
      have cpy : ∀ (j i : Nat) (υ : Nat → Int → Int), i + j = cqS set nl → Fr [169, 170, 172, 173, 174] σ υ → υ 172 = ld → υ 173 = sc → υ 169 = τ 169 → υ 174 = τ 174 → (∀ k : Nat, k < i → υ 170 (k : Nat) = pr / ofF (k : Nat) % 6) → viF (σ 119) (σ 115) (σ 121) (σ 168) th set nl 0 ld sc pr P = pr → XI l G M_X11_layAll 2 73 [some (vr 114), some (vi (pr / 1679616)), some (vi (cqS set nl : Nat)), some (vi (-1)), some (vi (i : Nat))] [] υ (fun z τ => Fr [169, 170, 172, 173, 174] σ τ ∧ BLP (cqS set nl) (viF (σ 119) (σ 115) (σ 121) (σ 168) th set nl (cqS set nl) (σ 172) (σ 173) 0 1152921504606846976) z (τ 170)) := by
        intro j
        induction j with
        | zero =>
          intro i υ hi uF u2 u3 u9 u4 uI uV
          obtain rfl : i = cqS set nl := by omega
          have f75 : υ 114 75 = (cqS set nl : Nat) := by rw [uF 114 (by decide)]; exact h75
          refine x_iload (E_X11_layAll_0 46 rfl) rfl ?_
          refine x_aload_n (E_X11_layAll_0 47 rfl) rfl ?_
          refine x_getIe (v := υ 114 75) (E_X11_layAll_0 48 rfl) fl_X11_453 rfl (by decide) rfl ?_
          refine x_icmp_ge (E_X11_layAll_0 49 rfl) (by omega) (by omega) (fun c1 => ?_) (fun c1 => ?_)
          · refine x_iinc (E_X11_layAll_1 0 rfl) rfl rfl ?_
            refine x_goto (E_X11_layAll_1 1 rfl) ?_
            refine x_goto (E_X11_layAll_2 39 rfl) ?_
            refine K _ _ _ υ uF u2 u3 (fun k _ => by rw [u9]) (fun k _ => by rw [u4]) (Or.inr ?_) ?_
            · rw [uV]; exact ⟨by omega, rfl, uI⟩
            · rw [uV]; exact Or.inr (by omega)
          · exfalso; omega
        | succ j jh =>
          intro i υ hi uF u2 u3 u9 u4 uI uV
          have f75 : υ 114 75 = (cqS set nl : Nat) := by rw [uF 114 (by decide)]; exact h75
          refine x_iload (E_X11_layAll_0 46 rfl) rfl ?_
          refine x_aload_n (E_X11_layAll_0 47 rfl) rfl ?_
          refine x_getIe (v := υ 114 75) (E_X11_layAll_0 48 rfl) fl_X11_453 rfl (by decide) rfl ?_
          refine x_icmp_ge (E_X11_layAll_0 49 rfl) (by omega) (by omega) (fun c1 => ?_) (fun c1 => ?_)
          · exfalso; omega
          · refine x_aload_n (E_X11_layAll_0 50 rfl) rfl ?_
            refine x_getR (E_X11_layAll_0 51 rfl) fl_X11_180 rfl (by decide) rfl ?_
            refine x_iload (E_X11_layAll_0 52 rfl) rfl ?_
            refine x_aload_n (E_X11_layAll_0 53 rfl) rfl ?_
            refine x_getR (E_X11_layAll_0 54 rfl) fl_X11_177 rfl (by decide) rfl ?_
            refine x_iload (E_X11_layAll_0 55 rfl) rfl ?_
            refine x_ialde (f := υ 169) (E_X11_layAll_0 56 rfl) rfl (by decide) (by omega) rfl ?_
            refine x_iast (E_X11_layAll_0 57 rfl) rfl (by decide) (by omega) ?_
            refine x_iinc (E_X11_layAll_0 58 rfl) rfl rfl ?_
            refine x_goto (E_X11_layAll_0 59 rfl) ?_
            refine jh (i + 1) _ (by omega) (uF.up (by decide)) u2 u3 u9 u4 (fun k hk => ?_) uV
            by_cases e : k = i
            · subst e
              refine (if_pos rfl).trans ?_
              rw [u9]; exact n3 k (by omega)
            · exact (if_neg (by omega)).trans (uI k (by omega))
      refine x_iload_n (E_X11_layAll_0 14 rfl) rfl ?_
      refine x_if_lt (E_X11_layAll_0 15 rfl) (by omega) (fun c1 => ?_) (fun c1 => ?_)
      · exfalso; omega
      · refine x_iload_n (E_X11_layAll_0 16 rfl) rfl ?_
        refine x_aload_n (E_X11_layAll_0 17 rfl) rfl ?_
        refine x_getIe (v := τ 114 75) (E_X11_layAll_0 18 rfl) fl_X11_453 rfl (by decide) rfl ?_
        refine x_icmp_ge (E_X11_layAll_0 19 rfl) (by omega) (by omega) (fun c2 => ?_) (fun c2 => ?_)
        · refine x_iconst (E_X11_layAll_0 25 rfl) ?_
          refine x_istore_n (E_X11_layAll_0 26 rfl) rfl ?_
          refine x_iload_n (E_X11_layAll_0 27 rfl) rfl ?_
          refine x_aload_n (E_X11_layAll_0 28 rfl) rfl ?_
          refine x_getIe (v := τ 114 75) (E_X11_layAll_0 29 rfl) fl_X11_453 rfl (by decide) rfl ?_
          refine x_icmp_ne (E_X11_layAll_0 30 rfl) (by omega) (by omega) (fun c3 => ?_) (fun c3 => ?_)
          · exfalso; omega
          · refine x_iload_n (E_X11_layAll_0 31 rfl) rfl ?_
            refine x_if_lt (E_X11_layAll_0 32 rfl) (by omega) (fun c4 => ?_) (fun c4 => ?_)
            · refine x_aload_n (E_X11_layAll_0 39 rfl) rfl ?_
              refine x_getR (E_X11_layAll_0 40 rfl) fl_X11_192 rfl (by decide) rfl ?_
              refine x_iload_n (E_X11_layAll_0 41 rfl) rfl ?_
              refine x_ialde (f := τ 174) (E_X11_layAll_0 42 rfl) rfl (by decide) (by omega) rfl ?_
              refine x_istore_n (E_X11_layAll_0 43 rfl) rfl ?_
              refine x_iconst (E_X11_layAll_0 44 rfl) ?_
              refine x_istore (E_X11_layAll_0 45 rfl) rfl ?_
              rw [n4]
              refine cpy (cqS set nl) 0 τ (by omega) hF h2 h3 rfl rfl (fun k hk => absurd hk (Nat.not_lt_zero _)) ?_
              show min P pr = pr
              omega
            · refine x_aload_n (E_X11_layAll_0 33 rfl) rfl ?_
              refine x_getR (E_X11_layAll_0 34 rfl) fl_X11_192 rfl (by decide) rfl ?_
              refine x_iload_n (E_X11_layAll_0 35 rfl) rfl ?_
              refine x_ialde (f := τ 174) (E_X11_layAll_0 36 rfl) rfl (by decide) (by omega) rfl ?_
              refine x_iload_n (E_X11_layAll_0 37 rfl) rfl ?_
              refine x_icmp_ge (E_X11_layAll_0 38 rfl) (by omega) (by omega) (fun c5 => ?_) (fun c5 => ?_)
              · refine x_iinc (E_X11_layAll_1 0 rfl) rfl rfl ?_
                refine x_goto (E_X11_layAll_1 1 rfl) ?_
                refine x_goto (E_X11_layAll_2 39 rfl) ?_
                refine K _ _ _ τ hF h2 h3 (fun k _ => rfl) (fun k _ => rfl) ?_ ?_
                · rw [show viF (σ 119) (σ 115) (σ 121) (σ 168) th set nl 0 ld sc pr P = P from (show min P pr = P by omega)]; exact hL
                · rw [show viF (σ 119) (σ 115) (σ 121) (σ 168) th set nl 0 ld sc pr P = P from (show min P pr = P by omega)]
                  rcases hx with hx | hx
                  · exact Or.inl hx
                  · exact Or.inr (by omega)
              · refine x_aload_n (E_X11_layAll_0 39 rfl) rfl ?_
                refine x_getR (E_X11_layAll_0 40 rfl) fl_X11_192 rfl (by decide) rfl ?_
                refine x_iload_n (E_X11_layAll_0 41 rfl) rfl ?_
                refine x_ialde (f := τ 174) (E_X11_layAll_0 42 rfl) rfl (by decide) (by omega) rfl ?_
                refine x_istore_n (E_X11_layAll_0 43 rfl) rfl ?_
                refine x_iconst (E_X11_layAll_0 44 rfl) ?_
                refine x_istore (E_X11_layAll_0 45 rfl) rfl ?_
                rw [n4]
                refine cpy (cqS set nl) 0 τ (by omega) hF h2 h3 rfl rfl (fun k hk => absurd hk (Nat.not_lt_zero _)) ?_
                show min P pr = pr
                omega
        · exfalso; omega
    | succ m ih =>
      intro d ld sc pr P b o3 o4 τ hd hF h2 h3 hB hN hl hL hx K
      have hl := hl (by omega)
      obtain ⟨n1, n2, n3, n4⟩ := hN
      have e75 : τ 114 75 = (cqS set nl : Nat) := by rw [hF 114 (by decide)]; exact h75
      have xr := ckF_rg (set := set) (n := nl) (k := d) (by omega)
      have e171 : τ 171 (d : Nat) = ckF set nl d := by rw [hF 171 (by decide)]; exact hof d (by omega)
      have xs := hso _ xr.1 xr.2
      have xt := hth _ xr.1 xr.2
      have xf := hfl _ xr.1 xr.2
      have op := ofF_rg (k := d) (by omega)
      have w6 := (dg (pr := pr) (f := 0) (t := 0) (d := d) (by omega) n1.1 n2 (by decide)).2.2.2.2.2
      have ev : cqS set nl - (m + 1) = d := by omega
      have inner : ∀ (n f : Nat) (A b1 : Int) (τ1 : Nat → Int → Int), f + n = 6 → Fr [169, 170, 172, 173, 174] σ τ1 → τ1 172 = ld → τ1 173 = sc → (∀ k : Nat, k < d → τ1 169 (k : Nat) = τ 169 (k : Nat)) → (∀ k : Nat, k ≤ d → τ1 174 (k : Nat) = τ 174 (k : Nat)) → BLP (cqS set nl) A b1 (τ1 170) → (A = 1152921504606846976 ∨ A % 1679616 < pr % 1679616 + (f : Nat) * ofF (d : Nat)) → (List.range' f n).foldl (fun acc f => if okB (σ 115) (σ 121) (σ 168) th ld sc (ckF set nl d) (f : Nat) = true then viF (σ 119) (σ 115) (σ 121) (σ 168) th set nl m (u1 ld (f : Nat) (ld (f : Nat) + th (ckF set nl d))) (u1 sc (4 * (f : Nat) + σ 115 (ckF set nl d)) (sc (4 * (f : Nat) + σ 115 (ckF set nl d)) + 1)) (pr + ownS (σ 119) th (f : Nat) d (ckF set nl d)) acc else acc) A = viF (σ 119) (σ 115) (σ 121) (σ 168) th set nl (m + 1) ld sc pr P → XI l G M_X11_layAll 2 139 [some (vr 114), some (vi b1), some (vi (d : Nat)), some (vi (ckF set nl d)), some (vi (f : Nat))] [] τ1 (fun z τ => Fr [169, 170, 172, 173, 174] σ τ ∧ BLP (cqS set nl) (viF (σ 119) (σ 115) (σ 121) (σ 168) th set nl (cqS set nl) (σ 172) (σ 173) 0 1152921504606846976) z (τ 170)) := by
        intro n
        induction n with
        | zero =>
          intro f A b1 τ1 hf uF u2 u3 u9 u4 uL ux uV
          obtain rfl : f = 6 := by omega
          have uV : A = viF (σ 119) (σ 115) (σ 121) (σ 168) th set nl (m + 1) ld sc pr P := uV
          refine x_iload (E_X11_layAll_1 22 rfl) rfl ?_
          refine x_bipush (z := 6) (E_X11_layAll_1 23 rfl) (by decide) ?_
          refine x_icmp_ge (E_X11_layAll_1 24 rfl) (by omega) (by decide) (fun c1 => ?_) (fun c1 => ?_)
          · refine x_iload (E_X11_layAll_1 52 rfl) rfl ?_
            refine x_bipush (z := 6) (E_X11_layAll_1 53 rfl) (by decide) ?_
            refine x_icmp_ne (E_X11_layAll_1 54 rfl) (by omega) (by decide) (fun c2 => ?_) (fun c2 => ?_)
            · exfalso; omega
            · refine x_iinc (E_X11_layAll_1 55 rfl) rfl rfl ?_
              refine x_goto (E_X11_layAll_1 56 rfl) ?_
              refine x_goto (E_X11_layAll_2 39 rfl) ?_
              refine K _ _ _ τ1 uF u2 u3 u9 u4 ?_ ?_
              · rw [← uV]; exact uL
              · rw [← uV]
                rcases ux with ux | ux
                · exact Or.inl ux
                · exact Or.inr (by omega)
          · exfalso; omega
        | succ n jh =>
          intro f A b1 τ1 hf uF u2 u3 u9 u4 uL ux uV
          have uV : (List.range' (f + 1) n).foldl (fun acc f => if okB (σ 115) (σ 121) (σ 168) th ld sc (ckF set nl d) (f : Nat) = true then viF (σ 119) (σ 115) (σ 121) (σ 168) th set nl m (u1 ld (f : Nat) (ld (f : Nat) + th (ckF set nl d))) (u1 sc (4 * (f : Nat) + σ 115 (ckF set nl d)) (sc (4 * (f : Nat) + σ 115 (ckF set nl d)) + 1)) (pr + ownS (σ 119) th (f : Nat) d (ckF set nl d)) acc else acc) (if okB (σ 115) (σ 121) (σ 168) th ld sc (ckF set nl d) (f : Nat) = true then viF (σ 119) (σ 115) (σ 121) (σ 168) th set nl m (u1 ld (f : Nat) (ld (f : Nat) + th (ckF set nl d))) (u1 sc (4 * (f : Nat) + σ 115 (ckF set nl d)) (sc (4 * (f : Nat) + σ 115 (ckF set nl d)) + 1)) (pr + ownS (σ 119) th (f : Nat) d (ckF set nl d)) A else A) = viF (σ 119) (σ 115) (σ 121) (σ 168) th set nl (m + 1) ld sc pr P := uV
          have bl := uL.rg
          have f75 : τ1 114 75 = (cqS set nl : Nat) := by rw [uF 114 (by decide)]; exact h75
          have e4 : τ1 174 (d : Nat) = pr / 1679616 := (u4 d (Nat.le_refl _)).trans n4
          have e19 : τ1 119 (ckF set nl d) = σ 119 (ckF set nl d) := congrFun (uF 119 (by decide)) _
          have fs : ((f + 1 : Nat) : Int) * ofF (d : Nat) = (f : Nat) * ofF (d : Nat) + ofF (d : Nat) := by push_cast; rw [Int.add_mul, Int.one_mul]
          have ow0 : (f : Int) = σ 119 (ckF set nl d) → ownS (σ 119) th (f : Nat) d (ckF set nl d) = (f : Nat) * ofF (d : Nat) + 0 * 1679616 := fun e => by
            unfold ownS; rw [if_pos e.symm]; omega
          have ow1 : ¬ (f : Int) = σ 119 (ckF set nl d) → ownS (σ 119) th (f : Nat) d (ckF set nl d) = (f : Nat) * ofF (d : Nat) + th (ckF set nl d) * 1679616 := fun e => by
            unfold ownS; rw [if_neg (fun q => e q.symm)]
          have skip : (if okB (σ 115) (σ 121) (σ 168) th ld sc (ckF set nl d) (f : Nat) = true then viF (σ 119) (σ 115) (σ 121) (σ 168) th set nl m (u1 ld (f : Nat) (ld (f : Nat) + th (ckF set nl d))) (u1 sc (4 * (f : Nat) + σ 115 (ckF set nl d)) (sc (4 * (f : Nat) + σ 115 (ckF set nl d)) + 1)) (pr + ownS (σ 119) th (f : Nat) d (ckF set nl d)) A else A) = A → XI l G M_X11_layAll 2 191 [some (vr 114), some (vi b1), some (vi (d : Nat)), some (vi (ckF set nl d)), some (vi (f : Nat))] [] τ1 (fun z τ => Fr [169, 170, 172, 173, 174] σ τ ∧ BLP (cqS set nl) (viF (σ 119) (σ 115) (σ 121) (σ 168) th set nl (cqS set nl) (σ 172) (σ 173) 0 1152921504606846976) z (τ 170)) := by
            intro hA
            rw [hA] at uV
            refine x_iinc (E_X11_layAll_1 50 rfl) rfl rfl ?_
            refine x_goto (E_X11_layAll_1 51 rfl) ?_
            refine jh (f + 1) A b1 τ1 (by omega) uF u2 u3 u9 u4 uL ?_ uV
            rw [fs]
            rcases ux with ux | ux
            · exact Or.inl ux
            · exact Or.inr (by omega)
          have ret : ∀ (A' b' : Int) (o3 o4 : Option AV) (τ2 : Nat → Int → Int), Fr [169, 170, 172, 173, 174] σ τ2 → τ2 172 = u1 ld (f : Nat) (ld (f : Nat) + th (ckF set nl d)) → τ2 173 = u1 sc (4 * (f : Nat) + σ 115 (ckF set nl d)) (sc (4 * (f : Nat) + σ 115 (ckF set nl d)) + 1) → (∀ k : Nat, k < d → τ2 169 (k : Nat) = τ 169 (k : Nat)) → τ2 169 (d : Nat) = (f : Nat) → (∀ k : Nat, k ≤ d → τ2 174 (k : Nat) = τ 174 (k : Nat)) → BLP (cqS set nl) A' b' (τ2 170) → (A' = 1152921504606846976 ∨ A' % 1679616 < pr % 1679616 + ((f + 1 : Nat) : Int) * ofF (d : Nat)) → (List.range' (f + 1) n).foldl (fun acc f => if okB (σ 115) (σ 121) (σ 168) th ld sc (ckF set nl d) (f : Nat) = true then viF (σ 119) (σ 115) (σ 121) (σ 168) th set nl m (u1 ld (f : Nat) (ld (f : Nat) + th (ckF set nl d))) (u1 sc (4 * (f : Nat) + σ 115 (ckF set nl d)) (sc (4 * (f : Nat) + σ 115 (ckF set nl d)) + 1)) (pr + ownS (σ 119) th (f : Nat) d (ckF set nl d)) acc else acc) A' = viF (σ 119) (σ 115) (σ 121) (σ 168) th set nl (m + 1) ld sc pr P → XI l G M_X11_layAll 2 18 [some (vr 114), some (vi b'), some (vi (d : Nat)), o3, o4] [] τ2 (fun z τ => Fr [169, 170, 172, 173, 174] σ τ ∧ BLP (cqS set nl) (viF (σ 119) (σ 115) (σ 121) (σ 168) th set nl (cqS set nl) (σ 172) (σ 173) 0 1152921504606846976) z (τ 170)) := by
            intro A' b' o3 o4 τ2 vF v2 v3 v9 vd v4 vL vx vV
            have g75 : τ2 114 75 = (cqS set nl : Nat) := by rw [vF 114 (by decide)]; exact h75
            have g171 : τ2 171 (d : Nat) = ckF set nl d := by rw [vF 171 (by decide)]; exact hof d (by omega)
            have g15 : τ2 115 (ckF set nl d) = σ 115 (ckF set nl d) := congrFun (vF 115 (by decide)) _
            refine x_iload_n (E_X11_layAll_0 14 rfl) rfl ?_
            refine x_if_lt (E_X11_layAll_0 15 rfl) (by omega) (fun c1 => ?_) (fun c1 => ?_)
            · exfalso; omega
            · refine x_iload_n (E_X11_layAll_0 16 rfl) rfl ?_
              refine x_aload_n (E_X11_layAll_0 17 rfl) rfl ?_
              refine x_getIe (v := τ2 114 75) (E_X11_layAll_0 18 rfl) fl_X11_453 rfl (by decide) rfl ?_
              refine x_icmp_ge (E_X11_layAll_0 19 rfl) (by omega) (by omega) (fun c2 => ?_) (fun c2 => ?_)
              · exfalso; omega
              · refine x_aload_n (E_X11_layAll_0 20 rfl) rfl ?_
                refine x_getR (E_X11_layAll_0 21 rfl) fl_X11_183 rfl (by decide) rfl ?_
                refine x_iload_n (E_X11_layAll_0 22 rfl) rfl ?_
                refine x_ialde (f := τ2 171) (E_X11_layAll_0 23 rfl) rfl (by decide) (by omega) rfl ?_
                refine x_goto (E_X11_layAll_0 24 rfl) ?_
                rw [g171]
                refine x_istore_n (E_X11_layAll_0 26 rfl) rfl ?_
                refine x_iload_n (E_X11_layAll_0 27 rfl) rfl ?_
                refine x_aload_n (E_X11_layAll_0 28 rfl) rfl ?_
                refine x_getIe (v := τ2 114 75) (E_X11_layAll_0 29 rfl) fl_X11_453 rfl (by decide) rfl ?_
                refine x_icmp_ne (E_X11_layAll_0 30 rfl) (by omega) (by omega) (fun c3 => ?_) (fun c3 => ?_)
                · refine x_aload_n (E_X11_layAll_1 2 rfl) rfl ?_
                  refine x_getR (E_X11_layAll_1 3 rfl) fl_X11_177 rfl (by decide) rfl ?_
                  refine x_iload_n (E_X11_layAll_1 4 rfl) rfl ?_
                  refine x_ialde (f := τ2 169) (E_X11_layAll_1 5 rfl) rfl (by decide) (by omega) rfl ?_
                  refine x_if_lt (E_X11_layAll_1 6 rfl) (by omega) (fun c4 => ?_) (fun c4 => ?_)
                  · exfalso; omega
                  · refine x_aload_n (E_X11_layAll_1 7 rfl) rfl ?_
                    refine x_iload_n (E_X11_layAll_1 8 rfl) rfl ?_
                    refine x_aload_n (E_X11_layAll_1 9 rfl) rfl ?_
                    refine x_getR (E_X11_layAll_1 10 rfl) fl_X11_177 rfl (by decide) rfl ?_
                    refine x_iload_n (E_X11_layAll_1 11 rfl) rfl ?_
                    refine x_ialde (f := τ2 169) (E_X11_layAll_1 12 rfl) rfl (by decide) (by omega) rfl ?_
                    rw [vd]
                    refine x_iconst (E_X11_layAll_1 13 rfl) ?_
                    refine z_callVv (E_X11_layAll_1 14 rfl) ml_X11_456 mv_X11_put rfl (by decide) (by decide) (c_X11_put (th := th) (x := ckF set nl d) (f := (f : Nat)) (b := -1) (by omega) (by omega) (by rw [g15]; exact xs) (hT _ vF _ xr.1 xr.2)) (by decide) rfl rfl (Nat.le_of_ble_eq_true rfl) (fun τ3 h3 => ?_)
                    rw [v2, v3, g15] at h3
                    have r9 : τ3 169 = τ2 169 := by rw [h3]; rfl
                    have r4 : τ3 174 = τ2 174 := by rw [h3]; rfl
                    have r0 : τ3 170 = τ2 170 := by rw [h3]; rfl
                    have r2 : τ3 172 = ld := by
                      rw [h3, upq_ne (by decide), upq_at, v2]
                      exact u1_back (by rw [u1_at]; omega)
                    have r3 : τ3 173 = sc := by
                      rw [h3, upq_at, upq_ne (by decide), v3]
                      exact u1_back (by rw [u1_at]; omega)
                    have rF : Fr [169, 170, 172, 173, 174] σ τ3 := by rw [h3]; exact (vF.up (by decide)).up (by decide)
                    refine x_aload_n (E_X11_layAll_1 15 rfl) rfl ?_
                    refine x_getR (E_X11_layAll_1 16 rfl) fl_X11_177 rfl (by decide) rfl ?_
                    refine x_iload_n (E_X11_layAll_1 17 rfl) rfl ?_
                    refine x_ialde (f := τ3 169) (E_X11_layAll_1 18 rfl) rfl (by decide) (by omega) rfl ?_
                    refine x_iconst (E_X11_layAll_1 19 rfl) ?_
                    refine x_iadd (E_X11_layAll_1 20 rfl) ?_
                    have e9 : τ3 169 (d : Nat) = (f : Nat) := by rw [r9]; exact vd
                    rw [e9]
                    refine x_istore (E_X11_layAll_1 21 rfl) rfl ?_
                    exact jh (f + 1) A' b' τ3 (by omega) rF r2 r3 (fun k hk => by rw [r9]; exact v9 k hk) (fun k hk => by rw [r4]; exact v4 k hk) (by rw [r0]; exact vL) vx vV
                · exfalso; omega
          have take : okB (σ 115) (σ 121) (σ 168) th ld sc (ckF set nl d) (f : Nat) = true → XI l G M_X11_layAll 2 197 [some (vr 114), some (vi b1), some (vi (d : Nat)), some (vi (ckF set nl d)), some (vi (f : Nat))] [] τ1 (fun z τ => Fr [169, 170, 172, 173, 174] σ τ ∧ BLP (cqS set nl) (viF (σ 119) (σ 115) (σ 121) (σ 168) th set nl (cqS set nl) (σ 172) (σ 173) 0 1152921504606846976) z (τ 170)) := by
            intro ok
            rw [if_pos ok] at uV
            have g15 : τ1 115 (ckF set nl d) = σ 115 (ckF set nl d) := congrFun (uF 115 (by decide)) _
            have go : ∀ (t : Int) (υ : Nat → Int → Int), ownS (σ 119) th (f : Nat) d (ckF set nl d) = (f : Nat) * ofF (d : Nat) + t * 1679616 → (0 ≤ t ∧ t ≤ 200) → Fr [169, 170, 172, 173, 174] σ υ → υ 172 = u1 ld (f : Nat) (ld (f : Nat) + th (ckF set nl d)) → υ 173 = u1 sc (4 * (f : Nat) + σ 115 (ckF set nl d)) (sc (4 * (f : Nat) + σ 115 (ckF set nl d)) + 1) → (∀ k : Nat, k < d → υ 169 (k : Nat) = τ 169 (k : Nat)) → υ 169 (d : Nat) = (f : Nat) → (∀ k : Nat, k ≤ d → υ 174 (k : Nat) = τ 174 (k : Nat)) → υ 174 ((d + 1 : Nat) : Int) = pr / 1679616 + t → υ 170 = τ1 170 → (0 < m → υ 169 ((d + 1 : Nat) : Int) = -1) → XI l G M_X11_layAll 2 18 [some (vr 114), some (vi b1), some (vi ((d + 1 : Nat) : Int)), some (vi (ckF set nl d)), some (vi (f : Nat))] [] υ (fun z τ => Fr [169, 170, 172, 173, 174] σ τ ∧ BLP (cqS set nl) (viF (σ 119) (σ 115) (σ 121) (σ 168) th set nl (cqS set nl) (σ 172) (σ 173) 0 1152921504606846976) z (τ 170)) := by
              intro t υ et tr yF y2 y3 y9 yd y4 y5 y0 yl
              obtain ⟨q1, q2, q3, q4, q5, q6, q7⟩ := dg (pr := pr) (f := (f : Nat)) (t := t) (d := d) (by omega) n1.1 n2 (by omega)
              have oo := own_rg (fl := σ 119) (th := th) (f := (f : Nat)) (x := ckF set nl d) (k := d) (by omega) (by omega) xt
              rw [← et] at q1 q2 q3 q4 q5
              refine ih (d + 1) _ _ (pr + ownS (σ 119) th (f : Nat) d (ckF set nl d)) A b1 _ _ υ (by omega) yF y2 y3 ⟨fun i i0 i5 => ?_, fun i i0 i5 => ?_⟩ ⟨by push_cast; omega, q4, fun k hk => ?_, y5.trans q3.symm⟩ yl (by rw [y0]; exact uL) ?_ ?_
              · have a := hB.1 i i0 i5
                by_cases e : i = (f : Nat)
                · subst e; rw [u1_at]; push_cast; omega
                · rw [u1_ne e]; push_cast; omega
              · have a := hB.2 i i0 i5
                by_cases e : i = 4 * (f : Nat) + σ 115 (ckF set nl d)
                · subst e; rw [u1_at]; push_cast; omega
                · rw [u1_ne e]; push_cast; omega
              · by_cases e : k = d
                · subst e; rw [q2]; exact yd
                · rw [q1 k (by omega), y9 k (by omega)]; exact n3 k (by omega)
              · rw [q5]; exact ux
              · intro b' o3 o4 τ2 vF v2 v3 v9 v4 vL vx
                rw [show ((d + 1 : Nat) : Int) + -1 = (d : Nat) by omega]
                refine ret _ b' o3 o4 τ2 vF v2 v3 (fun k hk => (v9 k (by omega)).trans (y9 k hk)) ((v9 d (by omega)).trans yd) (fun k hk => (v4 k (by omega)).trans (y4 k hk)) vL ?_ uV
                rw [q5, q7] at vx
                rw [fs]
                rcases vx with vx | vx
                · exact Or.inl vx
                · exact Or.inr (by omega)
            refine x_iload (E_X11_layAll_1 52 rfl) rfl ?_
            refine x_bipush (z := 6) (E_X11_layAll_1 53 rfl) (by decide) ?_
            refine x_icmp_ne (E_X11_layAll_1 54 rfl) (by omega) (by decide) (fun c1 => ?_) (fun c1 => ?_)
            · refine x_aload_n (E_X11_layAll_1 57 rfl) rfl ?_
              refine x_getR (E_X11_layAll_1 58 rfl) fl_X11_177 rfl (by decide) rfl ?_
              refine x_iload_n (E_X11_layAll_1 59 rfl) rfl ?_
              refine x_iload (E_X11_layAll_2 0 rfl) rfl ?_
              refine x_iast (E_X11_layAll_2 1 rfl) rfl (by decide) (by omega) ?_
              refine x_aload_n (E_X11_layAll_2 2 rfl) rfl ?_
              refine x_iload_n (E_X11_layAll_2 3 rfl) rfl ?_
              refine x_iload (E_X11_layAll_2 4 rfl) rfl ?_
              refine x_iconst (E_X11_layAll_2 5 rfl) ?_
              refine z_callVv (E_X11_layAll_2 6 rfl) ml_X11_456 mv_X11_put rfl (by decide) (by decide) (c_X11_put (th := th) (x := ckF set nl d) (f := (f : Nat)) (b := 1) (by omega) (by omega) (by rw [upq_ne (by decide), g15]; exact xs) (hT _ (uF.up (by decide)) _ xr.1 xr.2)) (by decide) rfl rfl (Nat.le_of_ble_eq_true rfl) (fun τ3 h3 => ?_)
              rw [show (upq τ1 169 (d : Nat) (f : Nat)) 172 = ld from u2, show (upq τ1 169 (d : Nat) (f : Nat)) 173 = sc from u3, show (upq τ1 169 (d : Nat) (f : Nat)) 115 (ckF set nl d) = σ 115 (ckF set nl d) from g15] at h3
              have r9 : τ3 169 = u1 (τ1 169) (d : Nat) (f : Nat) := by rw [h3, upq_ne (by decide), upq_ne (by decide), upq_at]
              have r4 : τ3 174 = τ1 174 := by rw [h3]; rfl
              have r0 : τ3 170 = τ1 170 := by rw [h3]; rfl
              have r19 : τ3 119 = τ1 119 := by rw [h3]; rfl
              have r2 : τ3 172 = u1 ld (f : Nat) (ld (f : Nat) + th (ckF set nl d)) := by
                rw [h3, upq_ne (by decide), upq_at, show (upq τ1 169 (d : Nat) (f : Nat)) 172 = ld from u2, Int.one_mul]
              have r3 : τ3 173 = u1 sc (4 * (f : Nat) + σ 115 (ckF set nl d)) (sc (4 * (f : Nat) + σ 115 (ckF set nl d)) + 1) := by
                rw [h3, upq_at, upq_ne (by decide), show (upq τ1 169 (d : Nat) (f : Nat)) 173 = sc from u3]
              have rF : Fr [169, 170, 172, 173, 174] σ τ3 := by rw [h3]; exact ((uF.up (by decide)).up (by decide)).up (by decide)
              have k75 : τ3 114 75 = (cqS set nl : Nat) := by rw [rF 114 (by decide)]; exact h75
              have k4 : τ3 174 (d : Nat) = pr / 1679616 := by rw [r4]; exact e4
              have k19 : τ3 119 (ckF set nl d) = σ 119 (ckF set nl d) := by rw [r19]; exact e19
              have k9 : ∀ k : Nat, k < d → τ3 169 (k : Nat) = τ 169 (k : Nat) := fun k hk => by rw [r9, u1_ne (by omega)]; exact u9 k hk
              have kd : τ3 169 (d : Nat) = (f : Nat) := by rw [r9, u1_at]
              have k5 : ∀ k : Nat, k ≤ d → τ3 174 (k : Nat) = τ 174 (k : Nat) := fun k hk => by rw [r4]; exact u4 k hk
              refine x_aload_n (E_X11_layAll_2 7 rfl) rfl ?_
              refine x_getR (E_X11_layAll_2 8 rfl) fl_X11_192 rfl (by decide) rfl ?_
              refine x_iload_n (E_X11_layAll_2 9 rfl) rfl ?_
              refine x_iconst (E_X11_layAll_2 10 rfl) ?_
              refine x_iadd (E_X11_layAll_2 11 rfl) ?_
              refine x_aload_n (E_X11_layAll_2 12 rfl) rfl ?_
              refine x_getR (E_X11_layAll_2 13 rfl) fl_X11_192 rfl (by decide) rfl ?_
              refine x_iload_n (E_X11_layAll_2 14 rfl) rfl ?_
              refine x_ialde (f := τ3 174) (E_X11_layAll_2 15 rfl) rfl (by decide) (by omega) rfl ?_
              refine x_iload (E_X11_layAll_2 16 rfl) rfl ?_
              refine x_aload_n (E_X11_layAll_2 17 rfl) rfl ?_
              refine x_getR (E_X11_layAll_2 18 rfl) fl_X11_22 rfl (by decide) rfl ?_
              refine x_iload_n (E_X11_layAll_2 19 rfl) rfl ?_
              refine x_ialde (f := τ3 119) (E_X11_layAll_2 20 rfl) rfl (by decide) (by omega) rfl ?_
              refine x_icmp_ne (E_X11_layAll_2 21 rfl) (by omega) (by omega) (fun c2 => ?_) (fun c2 => ?_)
              · refine x_aload_n (E_X11_layAll_2 24 rfl) rfl ?_
                refine x_iload_n (E_X11_layAll_2 25 rfl) rfl ?_
                refine z_callVi (E_X11_layAll_2 26 rfl) ml_X11_348 mv_X11_there rfl (by decide) (by decide) (hT _ rF _ xr.1 xr.2) (by decide) rfl rfl (Nat.le_of_ble_eq_true rfl) (fun z9 τ9 h9 => ?_)
                obtain ⟨rfl, rfl⟩ := h9
                refine x_iadd (E_X11_layAll_2 27 rfl) ?_
                refine x_iast (E_X11_layAll_2 28 rfl) rfl (by decide) (by omega) ?_
                refine x_iinc (E_X11_layAll_2 29 rfl) rfl rfl ?_
                refine x_iload_n (E_X11_layAll_2 30 rfl) rfl ?_
                refine x_aload_n (E_X11_layAll_2 31 rfl) rfl ?_
                refine x_getIe (v := τ3 114 75) (E_X11_layAll_2 32 rfl) fl_X11_453 rfl (by decide) rfl ?_
                refine x_icmp_ge (E_X11_layAll_2 33 rfl) (by omega) (by omega) (fun c3 => ?_) (fun c3 => ?_)
                · refine x_goto (E_X11_layAll_2 39 rfl) ?_
                  refine go (th (ckF set nl d)) _ (ow1 (by omega)) (by omega) (rF.up (by decide)) r2 r3 (fun k hk => k9 k hk) kd (fun k hk => (if_neg (by omega)).trans (k5 k hk)) ((if_pos (by omega)).trans (by rw [k4])) r0 (fun q => absurd q (by omega))
                · refine x_aload_n (E_X11_layAll_2 34 rfl) rfl ?_
                  refine x_getR (E_X11_layAll_2 35 rfl) fl_X11_177 rfl (by decide) rfl ?_
                  refine x_iload_n (E_X11_layAll_2 36 rfl) rfl ?_
                  refine x_iconst (E_X11_layAll_2 37 rfl) ?_
                  refine x_iast (E_X11_layAll_2 38 rfl) rfl (by decide) (by omega) ?_
                  refine x_goto (E_X11_layAll_2 39 rfl) ?_
                  refine go (th (ckF set nl d)) _ (ow1 (by omega)) (by omega) ((rF.up (by decide)).up (by decide)) r2 r3 (fun k hk => (if_neg (by omega)).trans (k9 k hk)) ((if_neg (by omega)).trans kd) (fun k hk => (if_neg (by omega)).trans (k5 k hk)) ((if_pos (by omega)).trans (by rw [k4])) r0 (fun _ => if_pos (by omega))
              · refine x_iconst (E_X11_layAll_2 22 rfl) ?_
                refine x_goto (E_X11_layAll_2 23 rfl) ?_
                refine x_iadd (E_X11_layAll_2 27 rfl) ?_
                refine x_iast (E_X11_layAll_2 28 rfl) rfl (by decide) (by omega) ?_
                refine x_iinc (E_X11_layAll_2 29 rfl) rfl rfl ?_
                refine x_iload_n (E_X11_layAll_2 30 rfl) rfl ?_
                refine x_aload_n (E_X11_layAll_2 31 rfl) rfl ?_
                refine x_getIe (v := τ3 114 75) (E_X11_layAll_2 32 rfl) fl_X11_453 rfl (by decide) rfl ?_
                refine x_icmp_ge (E_X11_layAll_2 33 rfl) (by omega) (by omega) (fun c4 => ?_) (fun c4 => ?_)
                · refine x_goto (E_X11_layAll_2 39 rfl) ?_
                  refine go 0 _ (ow0 (by omega)) (by omega) (rF.up (by decide)) r2 r3 (fun k hk => k9 k hk) kd (fun k hk => (if_neg (by omega)).trans (k5 k hk)) ((if_pos (by omega)).trans (by rw [k4])) r0 (fun q => absurd q (by omega))
                · refine x_aload_n (E_X11_layAll_2 34 rfl) rfl ?_
                  refine x_getR (E_X11_layAll_2 35 rfl) fl_X11_177 rfl (by decide) rfl ?_
                  refine x_iload_n (E_X11_layAll_2 36 rfl) rfl ?_
                  refine x_iconst (E_X11_layAll_2 37 rfl) ?_
                  refine x_iast (E_X11_layAll_2 38 rfl) rfl (by decide) (by omega) ?_
                  refine x_goto (E_X11_layAll_2 39 rfl) ?_
                  refine go 0 _ (ow0 (by omega)) (by omega) ((rF.up (by decide)).up (by decide)) r2 r3 (fun k hk => (if_neg (by omega)).trans (k9 k hk)) ((if_neg (by omega)).trans kd) (fun k hk => (if_neg (by omega)).trans (k5 k hk)) ((if_pos (by omega)).trans (by rw [k4])) r0 (fun _ => if_pos (by omega))
            · exfalso; omega
          have okq : (τ1 172 (f : Nat) + th (ckF set nl d) ≤ τ1 121 (f : Nat) ∧ ∀ j : Nat, j < 4 → (τ1 173 (4 * (f : Nat) + j) = 0 ∨ τ1 168 (4 * τ1 115 (ckF set nl d) + j) = 0)) ↔ okB (σ 115) (σ 121) (σ 168) th ld sc (ckF set nl d) (f : Nat) = true := by
            rw [okB_iff, u2, u3, uF 121 (by decide), uF 168 (by decide), uF 115 (by decide)]
          have cut : ∀ t : Int, ownS (σ 119) th (f : Nat) d (ckF set nl d) = (f : Nat) * ofF (d : Nat) + t * 1679616 → 0 ≤ t → ¬ b1 < 0 → ¬ pr / 1679616 + t < b1 → (if okB (σ 115) (σ 121) (σ 168) th ld sc (ckF set nl d) (f : Nat) = true then viF (σ 119) (σ 115) (σ 121) (σ 168) th set nl m (u1 ld (f : Nat) (ld (f : Nat) + th (ckF set nl d))) (u1 sc (4 * (f : Nat) + σ 115 (ckF set nl d)) (sc (4 * (f : Nat) + σ 115 (ckF set nl d)) + 1)) (pr + ownS (σ 119) th (f : Nat) d (ckF set nl d)) A else A) = A := by
            intro t et t0 nb nt
            obtain ⟨-, -, q3, -, q5, -, -⟩ := dg (pr := pr) (f := (f : Nat)) (t := t) (d := d) (by omega) n1.1 n2 (by omega)
            rw [← et] at q3 q5
            split
            · have a := vi_ge (fl := σ 119) (so := σ 115) (ro := σ 121) (pm := σ 168) hc hth (m := m) (ld := u1 ld (f : Nat) (ld (f : Nat) + th (ckF set nl d))) (sc := u1 sc (4 * (f : Nat) + σ 115 (ckF set nl d)) (sc (4 * (f : Nat) + σ 115 (ckF set nl d)) + 1)) (pr := pr + ownS (σ 119) th (f : Nat) d (ckF set nl d)) (P := A) (by omega)
              have b := vi_le0 (fl := σ 119) (so := σ 115) (ro := σ 121) (pm := σ 168) (th := th) (set := set) (nl := nl) (m := m) (ld := u1 ld (f : Nat) (ld (f : Nat) + th (ckF set nl d))) (sc := u1 sc (4 * (f : Nat) + σ 115 (ckF set nl d)) (sc (4 * (f : Nat) + σ 115 (ckF set nl d)) + 1)) (pr := pr + ownS (σ 119) th (f : Nat) d (ckF set nl d)) (P := A)
              have le : A ≤ pr + ownS (σ 119) th (f : Nat) d (ckF set nl d) := by
                rw [← q5] at ux
                generalize pr + ownS (σ 119) th (f : Nat) d (ckF set nl d) = W at *
                omega
              omega
            · rfl
          refine x_iload (E_X11_layAll_1 22 rfl) rfl ?_
          refine x_bipush (z := 6) (E_X11_layAll_1 23 rfl) (by decide) ?_
          refine x_icmp_ge (E_X11_layAll_1 24 rfl) (by omega) (by decide) (fun c1 => ?_) (fun c1 => ?_)
          · exfalso; omega
          · refine x_aload_n (E_X11_layAll_1 25 rfl) rfl ?_
            refine x_iload_n (E_X11_layAll_1 26 rfl) rfl ?_
            refine x_iload (E_X11_layAll_1 27 rfl) rfl ?_
            refine z_callVi (E_X11_layAll_1 28 rfl) ml_X11_460 mv_X11_mayLie rfl (by decide) (by decide) (c_X11_mayLie (th := th) (x := ckF set nl d) (f := (f : Nat)) (by omega) (by omega) (by rw [uF 115 (by decide)]; exact xs) (by rw [u2]; have := hB.1 (f : Nat) (by omega) (by omega); omega) xt (by rw [uF 121 (by decide)]; exact hro _ (by omega) (by omega)) (fun j hj => by rw [u3]; have := hB.2 (4 * (f : Nat) + j) (by omega) (by omega); omega) (fun j hj => by rw [uF 168 (by decide), uF 115 (by decide)]; exact hpm _ xs.1 (by omega) j hj) (hT _ uF _ xr.1 xr.2)) (by decide) rfl rfl (Nat.le_of_ble_eq_true rfl) (fun z9 τ9 h9 => ?_)
            obtain ⟨rfl, ⟨rfl, c2⟩ | ⟨rfl, c2⟩⟩ := h9
            · refine x_if_eq (E_X11_layAll_1 29 rfl) (by decide) (fun c9 => absurd c9 (by decide)) (fun _ => ?_)
              refine x_iload_n (E_X11_layAll_1 30 rfl) rfl ?_
              refine x_if_lt (E_X11_layAll_1 31 rfl) (by omega) (fun c3 => ?_) (fun c3 => ?_)
              · exact take (okq.mp c2)
              · refine x_aload_n (E_X11_layAll_1 32 rfl) rfl ?_
                refine x_getR (E_X11_layAll_1 33 rfl) fl_X11_192 rfl (by decide) rfl ?_
                refine x_iload_n (E_X11_layAll_1 34 rfl) rfl ?_
                refine x_ialde (f := τ1 174) (E_X11_layAll_1 35 rfl) rfl (by decide) (by omega) rfl ?_
                refine x_iload (E_X11_layAll_1 36 rfl) rfl ?_
                refine x_aload_n (E_X11_layAll_1 37 rfl) rfl ?_
                refine x_getR (E_X11_layAll_1 38 rfl) fl_X11_22 rfl (by decide) rfl ?_
                refine x_iload_n (E_X11_layAll_1 39 rfl) rfl ?_
                refine x_ialde (f := τ1 119) (E_X11_layAll_1 40 rfl) rfl (by decide) (by omega) rfl ?_
                refine x_icmp_ne (E_X11_layAll_1 41 rfl) (by omega) (by omega) (fun c4 => ?_) (fun c4 => ?_)
                · refine x_aload_n (E_X11_layAll_1 44 rfl) rfl ?_
                  refine x_iload_n (E_X11_layAll_1 45 rfl) rfl ?_
                  refine z_callVi (E_X11_layAll_1 46 rfl) ml_X11_348 mv_X11_there rfl (by decide) (by decide) (hT _ uF _ xr.1 xr.2) (by decide) rfl rfl (Nat.le_of_ble_eq_true rfl) (fun z9 τ9 h9 => ?_)
                  obtain ⟨rfl, rfl⟩ := h9
                  refine x_iadd (E_X11_layAll_1 47 rfl) ?_
                  refine x_iload_n (E_X11_layAll_1 48 rfl) rfl ?_
                  refine x_icmp_lt (E_X11_layAll_1 49 rfl) (by omega) (by omega) (fun c5 => ?_) (fun c5 => ?_)
                  · exact take (okq.mp c2)
                  · exact skip (cut _ (ow1 (by omega)) xt.1 (by omega) (by omega))
                · refine x_iconst (E_X11_layAll_1 42 rfl) ?_
                  refine x_goto (E_X11_layAll_1 43 rfl) ?_
                  refine x_iadd (E_X11_layAll_1 47 rfl) ?_
                  refine x_iload_n (E_X11_layAll_1 48 rfl) rfl ?_
                  refine x_icmp_lt (E_X11_layAll_1 49 rfl) (by omega) (by omega) (fun c6 => ?_) (fun c6 => ?_)
                  · exact take (okq.mp c2)
                  · exact skip (cut _ (ow0 (by omega)) (by omega) (by omega) (by omega))
            · refine x_if_eq (E_X11_layAll_1 29 rfl) (by decide) (fun _ => ?_) (fun c9 => absurd (by decide) c9)
              exact skip (if_neg (fun q => c2 (okq.mpr q)))
      refine x_iload_n (E_X11_layAll_0 14 rfl) rfl ?_
      refine x_if_lt (E_X11_layAll_0 15 rfl) (by omega) (fun c1 => ?_) (fun c1 => ?_)
      · exfalso; omega
      · refine x_iload_n (E_X11_layAll_0 16 rfl) rfl ?_
        refine x_aload_n (E_X11_layAll_0 17 rfl) rfl ?_
        refine x_getIe (v := τ 114 75) (E_X11_layAll_0 18 rfl) fl_X11_453 rfl (by decide) rfl ?_
        refine x_icmp_ge (E_X11_layAll_0 19 rfl) (by omega) (by omega) (fun c2 => ?_) (fun c2 => ?_)
        · exfalso; omega
        · refine x_aload_n (E_X11_layAll_0 20 rfl) rfl ?_
          refine x_getR (E_X11_layAll_0 21 rfl) fl_X11_183 rfl (by decide) rfl ?_
          refine x_iload_n (E_X11_layAll_0 22 rfl) rfl ?_
          refine x_ialde (f := τ 171) (E_X11_layAll_0 23 rfl) rfl (by decide) (by omega) rfl ?_
          refine x_goto (E_X11_layAll_0 24 rfl) ?_
          rw [e171]
          refine x_istore_n (E_X11_layAll_0 26 rfl) rfl ?_
          refine x_iload_n (E_X11_layAll_0 27 rfl) rfl ?_
          refine x_aload_n (E_X11_layAll_0 28 rfl) rfl ?_
          refine x_getIe (v := τ 114 75) (E_X11_layAll_0 29 rfl) fl_X11_453 rfl (by decide) rfl ?_
          refine x_icmp_ne (E_X11_layAll_0 30 rfl) (by omega) (by omega) (fun c3 => ?_) (fun c3 => ?_)
          · refine x_aload_n (E_X11_layAll_1 2 rfl) rfl ?_
            refine x_getR (E_X11_layAll_1 3 rfl) fl_X11_177 rfl (by decide) rfl ?_
            refine x_iload_n (E_X11_layAll_1 4 rfl) rfl ?_
            refine x_ialde (f := τ 169) (E_X11_layAll_1 5 rfl) rfl (by decide) (by omega) rfl ?_
            refine x_if_lt (E_X11_layAll_1 6 rfl) (by omega) (fun c4 => ?_) (fun c4 => ?_)
            · refine x_aload_n (E_X11_layAll_1 15 rfl) rfl ?_
              refine x_getR (E_X11_layAll_1 16 rfl) fl_X11_177 rfl (by decide) rfl ?_
              refine x_iload_n (E_X11_layAll_1 17 rfl) rfl ?_
              refine x_ialde (f := τ 169) (E_X11_layAll_1 18 rfl) rfl (by decide) (by omega) rfl ?_
              refine x_iconst (E_X11_layAll_1 19 rfl) ?_
              refine x_iadd (E_X11_layAll_1 20 rfl) ?_
              rw [hl]
              refine x_istore (E_X11_layAll_1 21 rfl) rfl ?_
              refine inner 6 0 P b τ (by omega) hF h2 h3 (fun k _ => rfl) (fun k _ => rfl) hL ?_ ?_
              · rw [show ((0 : Nat) : Int) * ofF (d : Nat) = 0 from Int.zero_mul _, Int.add_zero]; exact hx
              · show _ = List.foldl _ P (List.range' 0 6)
                rw [ev]
            · exfalso; omega
          · exfalso; omega
  refine x_iconst (E_X11_layAll_0 0 rfl) ?_
  refine x_istore_n (E_X11_layAll_0 1 rfl) rfl ?_
  refine x_iconst (E_X11_layAll_0 2 rfl) ?_
  refine x_istore_n (E_X11_layAll_0 3 rfl) rfl ?_
  refine x_aload_n (E_X11_layAll_0 4 rfl) rfl ?_
  refine x_getR (E_X11_layAll_0 5 rfl) fl_X11_177 rfl (by decide) rfl ?_
  refine x_iconst (E_X11_layAll_0 6 rfl) ?_
  refine x_iconst (E_X11_layAll_0 7 rfl) ?_
  refine x_iast (E_X11_layAll_0 8 rfl) rfl (by decide) (by omega) ?_
  refine x_aload_n (E_X11_layAll_0 9 rfl) rfl ?_
  refine x_getR (E_X11_layAll_0 10 rfl) fl_X11_192 rfl (by decide) rfl ?_
  refine x_iconst (E_X11_layAll_0 11 rfl) ?_
  refine x_iconst (E_X11_layAll_0 12 rfl) ?_
  refine x_iast (E_X11_layAll_0 13 rfl) rfl (by decide) (by omega) ?_
  refine vis (cqS set nl) 0 (σ 172) (σ 173) 0 1152921504606846976 (-1) none none _ (by omega) ((Fr.rf.up (by decide)).up (by decide)) rfl rfl hbd ⟨by decide, by decide, fun k hk => absurd hk (Nat.not_lt_zero _), rfl⟩ (fun _ => rfl) (Or.inl ⟨rfl, rfl⟩) (Or.inl rfl) ?_
  intro b9 o3 o4 τ9 zF z2 z3 z9 z4 zL zx
  have bl := zL.rg
  refine x_iload_n (E_X11_layAll_0 14 rfl) rfl ?_
  refine x_if_lt (E_X11_layAll_0 15 rfl) (by omega) (fun c1 => ?_) (fun c1 => ?_)
  · refine x_iload_n (E_X11_layAll_2 40 rfl) rfl ?_
    refine z_iret (E_X11_layAll_2 41 rfl) trivial ?_
    exact ⟨zF, zL⟩
  · exfalso; omega

