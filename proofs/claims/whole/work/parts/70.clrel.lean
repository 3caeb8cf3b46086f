/-! what a clause that reads well holds -/
/-- places lie in the text -/
def CB (len : Int) (R : CR) : Prop := (0 ≤ R.2.1 ∧ R.2.1 ≤ len) ∧ (0 ≤ R.2.2.1 ∧ R.2.2.1 ≤ len)
theorem CB_er {len f w : Int} (h : 0 ≤ w ∧ w ≤ len) : CB len (erR f w) := ⟨h, (show (0 : Int) ≤ 0 ∧ (0 : Int) ≤ len by omega)⟩
theorem CB_sem {tx : Int → Int} {len p ck fi se vl : Int} (h : 0 ≤ p ∧ p ≤ len) : CB len (semR tx len p ck fi se vl) := by
  have := bl_rg (tx := tx) h.2
  unfold semR
  split
  · exact ⟨(show (0 : Int) ≤ 0 ∧ (0 : Int) ≤ len by omega), (show 0 ≤ blS tx len p + 1 ∧ blS tx len p + 1 ≤ len by omega)⟩
  · exact CB_er (by omega)
theorem CB_ky {tx : Int → Int} {len : Int} : ∀ {t : Nat} {p seen : Int} {n : Nat} {row vl : Int}, (0 ≤ p ∧ p ≤ len) → (0 ≤ (kyQ tx len t p seen n row vl).2.1 ∧ (kyQ tx len t p seen n row vl).2.1 ≤ len) ∧ (0 ≤ (kyQ tx len t p seen n row vl).2.2.1 ∧ (kyQ tx len t p seen n row vl).2.2.1 ≤ len)
  | 0, p, _, _, _, _, h => ⟨(show (0 : Int) ≤ 0 ∧ (0 : Int) ≤ len by omega), h⟩
  | t + 1, p, seen, n, row, vl, h => by
    have a := bl_rg (tx := tx) h.2
    have b := we_rg (tx := tx) h.2
    have c := bl_rg (tx := tx) b.2
    unfold kyQ
    split
    · exact ⟨(show 0 ≤ blS tx len p ∧ blS tx len p ≤ len by omega), (show (0 : Int) ≤ 0 ∧ (0 : Int) ≤ len by omega)⟩
    · split
      · exact ⟨(show 0 ≤ blS tx len p ∧ blS tx len p ≤ len by omega), (show (0 : Int) ≤ 0 ∧ (0 : Int) ≤ len by omega)⟩
      · split
        · exact CB_ky (by omega)
        · exact ⟨(show (0 : Int) ≤ 0 ∧ (0 : Int) ≤ len by omega), (show 0 ≤ blS tx len (weS tx len p) ∧ blS tx len (weS tx len p) ≤ len by omega)⟩
theorem CB_let {tx : Int → Int} {len p : Int} (h : 0 ≤ p ∧ p ≤ len) : CB len (letR tx len p) := by
  have a := bl_rg (tx := tx) h.2
  have b := we_rg (tx := tx) h.2
  have c := bl_rg (tx := tx) b.2
  have d := de_rg (tx := tx) b.2
  unfold letR
  split
  · exact CB_er (by omega)
  · split
    · exact CB_er (by omega)
    · exact CB_sem (by omega)
theorem CB_dry {tx : Int → Int} {len p : Int} (h : 0 ≤ p ∧ p ≤ len) : CB len (dryR tx len p) := by
  have a := bl_rg (tx := tx) h.2
  have b := de_rg (tx := tx) h.2
  have a1 := bl_rg (tx := tx) b.2
  have b1 := we_rg (tx := tx) b.2
  have c := bl_rg (tx := tx) b1.2
  have d := de_rg (tx := tx) b1.2
  unfold dryR
  split
  · exact CB_er (by omega)
  · split
    · exact CB_er (by omega)
    · split
      · exact CB_er (by omega)
      · exact CB_sem (by omega)
theorem CB_rnk {tx : Int → Int} {len p : Int} (h : 0 ≤ p ∧ p ≤ len) : CB len (rnkR tx len p) := by
  have a := CB_ky (tx := tx) (t := 5) (seen := 0) (n := 0) (row := 0) (vl := 0) h
  unfold rnkR
  split
  · exact CB_er a.1
  · exact CB_sem a.2
theorem CB_str {tx : Int → Int} {len nt p : Int} (h : 0 ≤ p ∧ p ≤ len) : CB len (strR tx len nt p) := by
  have a := bl_rg (tx := tx) h.2
  have b := de_rg (tx := tx) h.2
  unfold strR
  split
  · exact CB_er (by omega)
  · split
    · exact CB_er (by omega)
    · exact CB_sem (by omega)
theorem CB_cl {tx : Int → Int} {len nt kd p : Int} (h : 0 ≤ p ∧ p ≤ len) : CB len (clR tx len nt kd p) := by
  unfold clR
  split
  · exact CB_let h
  · split
    · exact CB_dry h
    · split
      · exact CB_rnk h
      · exact CB_str h
theorem CB_cls {tx : Int → Int} {len nt cnt p : Int} (h : 0 ≤ p ∧ p ≤ len) : CB len (clsR tx len nt cnt p) := by
  have a := bl_rg (tx := tx) h.2
  have b := we_rg (tx := tx) h.2
  unfold clsR
  split
  · exact CB_er (by omega)
  · split
    · exact CB_er (by omega)
    · exact CB_cl (by omega)
theorem psA_rg {tx : Int → Int} {len nt : Int} (hl : 0 ≤ len) : ∀ n : Nat, 0 ≤ psA tx len nt n ∧ psA tx len nt n ≤ len
  | 0 => by
    have := bl_rg (tx := tx) (p := 0) hl
    show 0 ≤ blS tx len 0 ∧ blS tx len 0 ≤ len
    omega
  | n + 1 => by
    have h := CB_cls (tx := tx) (nt := nt) (cnt := (n : Nat)) (psA_rg (tx := tx) (nt := nt) hl n)
    have := bl_rg (tx := tx) h.2.2
    have h2 := h.2.1
    show 0 ≤ blS tx len (clsR tx len nt (n : Nat) (psA tx len nt n)).2.2.1 ∧ blS tx len (clsR tx len nt (n : Nat) (psA tx len nt n)).2.2.1 ≤ len
    omega
theorem flt_pl {tx : Int → Int} {len nt : Int} (hl : 0 ≤ len) {N : Nat} : -1 ≤ (fltA tx len nt N).2 ∧ (fltA tx len nt N).2 ≤ len := by
  unfold fltA
  split
  · show (-1 : Int) ≤ -1 ∧ (-1 : Int) ≤ len; omega
  · have h := (CB_cls (tx := tx) (nt := nt) (cnt := (N : Nat)) (psA_rg (tx := tx) (nt := nt) hl N)).1
    show -1 ≤ (clsR tx len nt (N : Nat) (psA tx len nt N)).2.1 ∧ (clsR tx len nt (N : Nat) (psA tx len nt N)).2.1 ≤ len
    omega
/-! keys that differ -/
def kst : Nat → List (Int × Int × Int)
  | 0 => [(0, 0, 0)]
  | n + 1 => (kst n).flatMap (fun x => [0, 1, 2, 3].filterMap (fun k : Nat => if x.1 / 2 ^ k % 2 = 1 then none else some (x.1 + 2 ^ k, x.2.1 + (k : Int) * 4 ^ n, x.2.2 + ((k : Int) + 1) * 8 ^ n)))
abbrev rkD (s vl f : Int) : Prop := (1 ≤ s ∧ s ≤ 4) ∧ (0 ≤ vl ∧ vl < 4096) ∧ (0 ≤ f ∧ f < 256) ∧ (∀ k, k < 4 → (((k : Nat) : Int) < s → vl / 8 ^ k % 8 = f / 4 ^ k % 4 + 1) ∧ (s ≤ k → vl / 8 ^ k % 8 = 0)) ∧ ∀ b, b < 4 → ∀ a, a < b → ((b : Nat) : Int) < s → f / 4 ^ a % 4 ≠ f / 4 ^ b % 4
theorem kst_all : (List.range 5).all (fun n => n == 0 || (kst n).all (fun x => decide (rkD (n : Nat) x.2.2 x.2.1))) = true := by decide +kernel
theorem kst_ok (n : Nat) (h5 : n < 5) (h1 : 1 ≤ n) (x : Int × Int × Int) (hx : x ∈ kst n) : rkD (n : Nat) x.2.2 x.2.1 := by
  have a := List.all_eq_true.mp kst_all n (List.mem_range.mpr h5)
  rcases Bool.or_eq_true_iff.mp a with b | b
  · have : n = 0 := eq_of_beq b
    omega
  · exact of_decide_eq_true (List.all_eq_true.mp b x hx)
theorem codq1 {f : Int} : codq 1 f = 5 + f := (if_neg (by decide)).trans (if_pos rfl)
theorem codq2 {f : Int} : codq 2 f = 9 := (if_neg (by decide)).trans ((if_neg (by decide)).trans (if_pos rfl))
theorem codq3 {f : Int} : codq 3 f = 10 := (if_neg (by decide)).trans ((if_neg (by decide)).trans (if_neg (by decide)))
theorem kst_5 : kst 5 = [] := by decide +kernel
theorem kst_step {n : Nat} {seen row vl k : Int} (h : (seen, row, vl) ∈ kst n) (hk : 0 ≤ k ∧ k < 4) (hb : ¬ seen / 2 ^ k.toNat % 2 = 1) : (seen + 2 ^ k.toNat, row + k * 4 ^ n, vl + (k + 1) * 8 ^ n) ∈ kst (n + 1) := by
  refine List.mem_flatMap.mpr ⟨_, h, List.mem_filterMap.mpr ⟨k.toNat, ?_, ?_⟩⟩
  · have : k.toNat < 4 := by omega
    match k.toNat, this with
    | 0, _ => decide
    | 1, _ => decide
    | 2, _ => decide
    | 3, _ => decide
  · rw [if_neg hb, show ((k.toNat : Nat) : Int) = k by omega]
theorem ky_st {tx : Int → Int} {len : Int} : ∀ {t : Nat} {p seen : Int} {n : Nat} {row vl : Int}, n + t = 5 → (seen, row, vl) ∈ kst n → (kyQ tx len t p seen n row vl).1 = 0 → ∃ s', 1 ≤ (kyQ tx len t p seen n row vl).2.2.2.1 ∧ (kyQ tx len t p seen n row vl).2.2.2.1 ≤ 5 ∧ (s', (kyQ tx len t p seen n row vl).2.2.2.2.1, (kyQ tx len t p seen n row vl).2.2.2.2.2) ∈ kst (kyQ tx len t p seen n row vl).2.2.2.1
  | 0, p, seen, n, row, vl, hn, hm, h => by
    rw [show n = 5 by omega, kst_5] at hm
    exact absurd hm List.not_mem_nil
  | t + 1, p, seen, n, row, vl, hn, hm, h => by
    have kr : wkS tx len 5 4 p = -1 ∨ (5 ≤ wkS tx len 5 4 p ∧ wkS tx len 5 4 p < 5 + ((4 : Nat) : Int)) := lkF_rg
    unfold kyQ at h ⊢
    by_cases a : wkS tx len 5 4 p = -1
    · rw [if_pos a] at h
      exact absurd h (show (1 : Int) ≠ 0 by decide)
    · rw [if_neg a] at h ⊢
      by_cases b : seen / 2 ^ (wkS tx len 5 4 p - 5).toNat % 2 = 1
      · rw [if_pos b] at h
        exact absurd h (show (4 : Int) ≠ 0 by decide)
      · rw [if_neg b] at h ⊢
        have st := kst_step hm (k := wkS tx len 5 4 p - 5) (by omega) b
        rw [show wkS tx len 5 4 p - 5 + 1 = wkS tx len 5 4 p - 4 by omega] at st
        by_cases c : blS tx len (weS tx len p) < len ∧ tx (blS tx len (weS tx len p)) = 44
        · rw [if_pos c] at h ⊢
          exact ky_st (by omega) st h
        · rw [if_neg c]
          exact ⟨_, (show 1 ≤ n + 1 by omega), (show n + 1 ≤ 5 by omega), st⟩
theorem sem_0 {tx : Int → Int} {len p ck fi se vl : Int} (h : (semR tx len p ck fi se vl).1 = 0) : (semR tx len p ck fi se vl).2.2.2 = (ck, fi, se, vl) := by
  unfold semR at h ⊢
  split at h
  · rename_i q; rw [if_pos q]
  · exact absurd h (show (1 : Int) ≠ 0 by decide)
theorem nf_0 {tx : Int → Int} {len most p : Int} (h : ¬ nfS tx len most p ≠ 0) : nmS tx len p ≤ most := by
  unfold nfS at h
  by_cases a : deS tx len p = blS tx len p
  · rw [if_pos a] at h; exact absurd (show (1 : Int) ≠ 0 by decide) h
  · rw [if_neg a] at h
    by_cases b : 4 < deS tx len p - blS tx len p ∨ most < nmS tx len p
    · rw [if_pos b] at h; exact absurd (show (2 : Int) ≠ 0 by decide) h
    · omega
theorem cl_rel {tx : Int → Int} {len nt cnt p s : Int} (hp : 0 ≤ p ∧ p ≤ len) (h : (clsR tx len nt cnt p).1 = 0) (hs : (clsR tx len nt cnt p).2.2.2.1 ≠ 3 → s = (clsR tx len nt cnt p).2.2.2.2.2.1) : ClRel nt (codq (clsR tx len nt cnt p).2.2.2.1 (clsR tx len nt cnt p).2.2.2.2.1) (clsR tx len nt cnt p).2.2.2.2.2.2 (clsR tx len nt cnt p).2.2.2.1 (clsR tx len nt cnt p).2.2.2.2.1 s := by
  have wq := we_rg (tx := tx) hp.2
  generalize hR : clsR tx len nt cnt p = R at h hs ⊢
  unfold clsR at hR
  split at hR
  · subst hR; exact absurd h (show (1 : Int) ≠ 0 by decide)
  split at hR
  · subst hR; exact absurd h (show (5 : Int) ≠ 0 by decide)
  generalize weS tx len p = q at hR wq
  unfold clR at hR
  split at hR
  · unfold letR at hR
    have kr : wkS tx len 0 5 q = -1 ∨ (0 ≤ wkS tx len 0 5 q ∧ wkS tx len 0 5 q < 0 + ((5 : Nat) : Int)) := lkF_rg
    have wr := we_rg (tx := tx) wq.2
    have nr := nm_rg (tx := tx) wr.2
    split at hR
    · subst hR; exact absurd h (show (1 : Int) ≠ 0 by decide)
    · split at hR
      · subst hR; exact absurd h (by assumption)
      · rename_i a b
        have n0 := nf_0 b
        subst hR
        have e := sem_0 h
        rw [e] at hs ⊢
        have hs := hs (show (0 : Int) ≠ 3 by decide)
        have hs : s = nmS tx len (weS tx len q) := hs
        refine Or.inl ⟨rfl, (show 0 ≤ wkS tx len 0 5 q by omega), (show wkS tx len 0 5 q ≤ 4 by omega), if_pos rfl, (show nmS tx len (weS tx len q) = s by omega), by omega, (show s ≤ mostQ (wkS tx len 0 5 q) by omega)⟩
  · split at hR
    · unfold dryR at hR
      have nr := nm_rg (tx := tx) wq.2
      have dr := de_rg (tx := tx) wq.2
      have wr := we_rg (tx := tx) dr.2
      have nr2 := nm_rg (tx := tx) wr.2
      split at hR
      · subst hR; exact absurd h (by assumption)
      · rename_i a
        split at hR
        · subst hR; exact absurd h (show (1 : Int) ≠ 0 by decide)
        · split at hR
          · subst hR; exact absurd h (by assumption)
          · rename_i b
            have n0 := nf_0 a
            have n1 := nf_0 b
            subst hR
            have e := sem_0 h
            rw [e] at hs ⊢
            have hs := hs (show (1 : Int) ≠ 3 by decide)
            have hs : s = nmS tx len (weS tx len (deS tx len q)) := hs
            exact Or.inr (Or.inl ⟨rfl, nr.1, n0, codq1, hs.symm, by omega, by omega⟩)
    · split at hR
      · unfold rnkR at hR
        split at hR
        · subst hR; exact absurd h (by assumption)
        · rename_i a
          obtain ⟨s', m1, m5, mm⟩ := ky_st (tx := tx) (len := len) (t := 5) (p := q) (seen := 0) (n := 0) (row := 0) (vl := 0) rfl (by decide) (Classical.not_not.mp a)
          subst hR
          have e := sem_0 h
          rw [e] at hs ⊢
          have hs := hs (show (2 : Int) ≠ 3 by decide)
          generalize kyQ tx len 5 q 0 0 0 0 = K at m1 m5 mm hs ⊢
          have m4 : K.2.2.2.1 < 5 := by
            refine Nat.lt_of_le_of_ne m5 (fun e5 => ?_)
            rw [e5, kst_5] at mm
            exact absurd mm List.not_mem_nil
          have ok := kst_ok _ m4 m1 _ mm
          have hs : s = ((K.2.2.2.1 : Nat) : Int) := hs
          rw [hs]
          obtain ⟨o1, o2, o3, o4, o5⟩ := ok
          refine Or.inr (Or.inr (Or.inl ⟨rfl, ?_, o1.1, o1.2, o2.1, o2.2, o3.1, o3.2, fun k hk => o4 k hk, fun a b ab bs => o5 b (by omega) a ab bs⟩))
          exact codq2
      · unfold strR at hR
        have nr := nm_rg (tx := tx) wq.2
        split at hR
        · subst hR; exact absurd h (by assumption)
        · split at hR
          · subst hR; exact absurd h (show (3 : Int) ≠ 0 by decide)
          · rename_i a b
            subst hR
            have e := sem_0 h
            rw [e]
            exact Or.inr (Or.inr (Or.inr ⟨rfl, codq3, rfl, nr.1, (show nmS tx len q < nt by omega)⟩))

