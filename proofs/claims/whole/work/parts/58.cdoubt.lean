/-! doubt of the class -/
variable {l : Launch} {G : GC} {σ τ : Nat → Int → Int}

/-- those of h .. h + n - 1 that p takes -/
def ilF (p : Int → Bool) : Nat → Int → List Int
  | 0, _ => []
  | n + 1, h => if p h = true then h :: ilF p n (h + 1) else ilF p n (h + 1)
theorem ilF_mem {p : Int → Bool} {x : Int} : ∀ {n : Nat} {h : Int}, x ∈ ilF p n h → (h ≤ x ∧ x < h + n) ∧ p x = true
  | 0, h, q => by cases q
  | n + 1, h, q => by
    have q : x ∈ (if p h = true then h :: ilF p n (h + 1) else ilF p n (h + 1)) := q
    split at q
    · rename_i c
      rcases List.mem_cons.mp q with e | e
      · rw [e]; exact ⟨by omega, c⟩
      · have := ilF_mem e; exact ⟨by omega, this.2⟩
    · have := ilF_mem q; exact ⟨by omega, this.2⟩
theorem ilF_len {p : Int → Bool} : ∀ {n : Nat} {h : Int}, (ilF p n h).length ≤ n
  | 0, h => Nat.le_refl _
  | n + 1, h => by
    have := ilF_len (p := p) (n := n) (h := h + 1)
    show (if p h = true then h :: ilF p n (h + 1) else ilF p n (h + 1)).length ≤ n + 1
    split
    · rw [List.length_cons]; omega
    · omega
theorem ilF_snoc {p : Int → Bool} : ∀ {n : Nat} {h : Int}, ilF p (n + 1) h = ilF p n h ++ (if p (h + n) = true then [h + n] else [])
  | 0, h => by
    show (if p h = true then h :: [] else []) = [] ++ _
    rw [show h + ((0 : Nat) : Int) = h by omega]; rfl
  | n + 1, h => by
    show (if p h = true then h :: ilF p (n + 1) (h + 1) else ilF p (n + 1) (h + 1)) = (if p h = true then h :: ilF p n (h + 1) else ilF p n (h + 1)) ++ _
    rw [ilF_snoc (n := n) (h := h + 1), show h + 1 + (n : Int) = h + ((n + 1 : Nat) : Int) by omega]
    by_cases c : p h = true
    · rw [if_pos c, if_pos c, List.cons_append]
    · rw [if_neg c, if_neg c]
theorem ilF_sum {p : Int → Bool} {c : Int → Int} : ∀ {n : Nat}, ((ilF p n 0).map c).sum = sumS (fun w => if p w = true then c w else 0) n
  | 0 => rfl
  | n + 1 => by
    rw [ilF_snoc, List.map_append, List.sum_append, ilF_sum, show (0 : Int) + (n : Int) = n by omega]
    show _ = sumS (fun w => if p w = true then c w else 0) n + (if p (n : Int) = true then c n else 0)
    by_cases e : p n = true
    · rw [if_pos e, if_pos e]; simp
    · rw [if_neg e, if_neg e]; simp
theorem ctL_snoc {c : Int → Int} {L : List Int} {w : Int} : ctL c (L ++ [w]) = updI (ctL c L) (c w) (ctL c L (c w) + 1) := by
  funext n
  unfold ctL updI
  rw [List.filter_append, List.length_append]
  by_cases e : n = c w
  · rw [if_pos e, e]
    simp
  · rw [if_neg e]
    simp [show ¬ c w = n from fun h => e h.symm]
theorem ctL_le {c : Int → Int} {L : List Int} (x : Int) : ctL c L x ≤ L.length := by
  unfold ctL
  have := List.length_filter_le (fun w => decide (c w = x)) L
  omega
def ofD (o : Option Nat) : Int := match o with
  | some k => k
  | none => 121
theorem cei {w x t : Int} (hx : 1 ≤ x) (hw : 0 < w) (ht : 0 ≤ t ∧ t ≤ (w + x - 1) / x) : 0 ≤ t * x ∧ t * x ≤ w + x - 1 := by
  refine ⟨Int.mul_nonneg ht.1 (by omega), ?_⟩
  have a : t * x ≤ (w + x - 1) / x * x := Int.mul_le_mul_of_nonneg_right ht.2 (by omega)
  have b := Int.ediv_mul_le (w + x - 1) (show x ≠ 0 by omega)
  omega
set_option maxHeartbeats 1000000 in
theorem c_X0_fewest {v : Int} (hv : -40000 ≤ v ∧ v ≤ 40000) (h0 : ∀ x, 1 ≤ x → x ≤ 200 → 0 ≤ σ 72 x ∧ σ 72 x ≤ 120) : CI l G M_X0_fewest 1 [vr 71, vi v] σ (IP (ofD (fwO (cnL (σ 72) 200) v)) σ) := by
  refine Ct.of rfl (Nat.le_of_ble_eq_true rfl) ?_
  have loop : ∀ (n : Nat) (i w u : Int) (o : Option AV), i = n → n ≤ 200 → (-40000 ≤ w ∧ w ≤ 40000) → (0 ≤ u ∧ u ≤ 120 * (200 - n)) → (fwO (cnL (σ 72) n) w).map (· + u.toNat) = fwO (cnL (σ 72) 200) v → XI l G M_X0_fewest 1 9 [some (vr 71), some (vi v), some (vi w), some (vi u), some (vi i), o] [] σ (IP (ofD (fwO (cnL (σ 72) 200) v)) σ) := by
    intro n
    induction n using Nat.strongRecOn with
    | _ n ih =>
    intro i w u o hi hn hw hu he
    refine x_iload (E_X0_fewest_0 6 rfl) rfl ?_
    refine x_if_le (E_X0_fewest_0 7 rfl) (by omega) (fun c1 => ?_) (fun c1 => ?_)
    · refine x_iload_n (E_X0_fewest_0 35 rfl) rfl ?_
      refine x_if_le (E_X0_fewest_0 36 rfl) (by omega) (fun c2 => ?_) (fun c2 => ?_)
      · refine x_iload_n (E_X0_fewest_0 39 rfl) rfl ?_
        refine z_iret (E_X0_fewest_0 40 rfl) trivial ?_
        have e0 : fwO (cnL (σ 72) n) w = some 0 := fwO_0 (by omega)
        rw [e0] at he
        rw [← he]
        refine ⟨?_, rfl⟩
        show u = ((0 + u.toNat : Nat) : Int)
        omega
      · refine x_bipush (z := 121) (E_X0_fewest_0 37 rfl) (by decide) ?_
        refine x_goto (E_X0_fewest_0 38 rfl) ?_
        refine z_iret (E_X0_fewest_0 40 rfl) trivial ?_
        obtain rfl : n = 0 := by omega
        have e0 : fwO (cnL (σ 72) 0) w = none := if_neg (by omega)
        rw [e0] at he
        rw [← he]
        exact ⟨rfl, rfl⟩
    · refine x_iload_n (E_X0_fewest_0 8 rfl) rfl ?_
      refine x_if_le (E_X0_fewest_0 9 rfl) (by omega) (fun c3 => ?_) (fun c3 => ?_)
      · refine x_iload_n (E_X0_fewest_0 35 rfl) rfl ?_
        refine x_if_le (E_X0_fewest_0 36 rfl) (by omega) (fun c4 => ?_) (fun c4 => ?_)
        · refine x_iload_n (E_X0_fewest_0 39 rfl) rfl ?_
          refine z_iret (E_X0_fewest_0 40 rfl) trivial ?_
          have e0 : fwO (cnL (σ 72) n) w = some 0 := fwO_0 (by omega)
          rw [e0] at he
          rw [← he]
          refine ⟨?_, rfl⟩
          show u = ((0 + u.toNat : Nat) : Int)
          omega
        · refine x_bipush (z := 121) (E_X0_fewest_0 37 rfl) (by decide) ?_
          refine x_goto (E_X0_fewest_0 38 rfl) ?_
          refine z_iret (E_X0_fewest_0 40 rfl) trivial ?_
          exfalso; omega
      · have f9 := h0 i (by omega) (by omega)
        have q9 : 0 ≤ (w + i - 1) / i := Int.ediv_nonneg (by omega) (by omega)
        have q8 : (w + i - 1) / i ≤ w + i - 1 := Int.ediv_le_self _ (by omega)
        have c9 := cei (w := w) (x := i) (t := min (σ 72 i) ((w + i - 1) / i)) (by omega) (by omega) (by omega)
        refine x_aload_n (E_X0_fewest_0 10 rfl) rfl ?_
        refine x_getR (E_X0_fewest_0 11 rfl) fl_X0_9 rfl (by decide) rfl ?_
        refine x_iload (E_X0_fewest_0 12 rfl) rfl ?_
        refine x_ialde (f := σ 72) (E_X0_fewest_0 13 rfl) rfl (by decide) (by omega) rfl ?_
        refine x_iload_n (E_X0_fewest_0 14 rfl) rfl ?_
        refine x_iload (E_X0_fewest_0 15 rfl) rfl ?_
        refine x_iadd (E_X0_fewest_0 16 rfl) ?_
        refine x_iconst (E_X0_fewest_0 17 rfl) ?_
        refine x_isub (E_X0_fewest_0 18 rfl) ?_
        refine x_iload (E_X0_fewest_0 19 rfl) rfl ?_
        refine x_idiv (E_X0_fewest_0 20 rfl) (by omega) (by omega) ?_
        refine x_mmin (E_X0_fewest_0 21 rfl) ml_X0_49 (by omega) (by omega) (by decide) ?_
        refine x_istore (E_X0_fewest_0 22 rfl) rfl ?_
        refine x_iload_n (E_X0_fewest_0 23 rfl) rfl ?_
        refine x_iload (E_X0_fewest_0 24 rfl) rfl ?_
        refine x_iload (E_X0_fewest_0 25 rfl) rfl ?_
        refine x_imul (E_X0_fewest_0 26 rfl) ?_
        refine x_isub (E_X0_fewest_0 27 rfl) ?_
        refine x_istore_n (E_X0_fewest_0 28 rfl) rfl ?_
        refine x_iload_n (E_X0_fewest_0 29 rfl) rfl ?_
        refine x_iload (E_X0_fewest_0 30 rfl) rfl ?_
        refine x_iadd (E_X0_fewest_0 31 rfl) ?_
        refine x_istore_n (E_X0_fewest_0 32 rfl) rfl ?_
        refine x_iinc (E_X0_fewest_0 33 rfl) rfl rfl ?_
        refine x_goto (E_X0_fewest_0 34 rfl) ?_
        obtain ⟨n', rfl⟩ : ∃ n', n = n' + 1 := ⟨n - 1, by omega⟩
        have he : (fwO (List.replicate (σ 72 ((n' + 1 : Nat) : Int)).toNat ((n' + 1 : Nat) : Int) ++ cnL (σ 72) n') w).map (· + u.toNat) = fwO (cnL (σ 72) 200) v := he
        rw [← hi, fw_rep (by omega) (by omega), show (((σ 72 i).toNat : Nat) : Int) = σ 72 i by omega, Option.map_map] at he
        refine ih n' (by omega) _ _ _ _ (by omega) (by omega) (by omega) (by omega) ?_
        rw [← he]
        congr 1
        funext q
        show q + (u + min (σ 72 i) ((w + i - 1) / i)).toNat = q + (min (σ 72 i) ((w + i - 1) / i)).toNat + u.toNat
        omega
  refine x_iload_n (E_X0_fewest_0 0 rfl) rfl ?_
  refine x_istore_n (E_X0_fewest_0 1 rfl) rfl ?_
  refine x_iconst (E_X0_fewest_0 2 rfl) ?_
  refine x_istore_n (E_X0_fewest_0 3 rfl) rfl ?_
  refine x_sipush (z := 200) (E_X0_fewest_0 4 rfl) (by decide) ?_
  refine x_istore (E_X0_fewest_0 5 rfl) rfl ?_
  refine loop 200 200 v 0 none rfl (by decide) hv (by omega) ?_
  cases fwO (cnL (σ 72) 200) v <;> rfl

theorem c_X0_isOf {dt : Nat → Int → Int} {n : Nat} {nl w x : Int} (hy : YOk n nl (dt 6) (SC 45 n nl σ)) (hn : n ≤ 120) (hnl : nl ≤ 12) (hx : rgi x) (hw : 0 ≤ w ∧ w < (n : Int)) : CI l G M_X0_isOf 1 [vr 71, vr 45, vi w, vi x] σ (BP ((SC 45 n nl σ) 1 w = 1 ∧ (SC 45 n nl σ) 3 w = x ∧ 0 < (SC 45 n nl σ) 4 w) σ) := by
  have g1 : (SC 45 n nl σ) 1 w = σ 46 w := StG_1 (by omega)
  have g2 := (hy.1 w).1
  refine Ct.of rfl (Nat.le_of_ble_eq_true rfl) ?_
  refine x_aload_n (E_X0_isOf_0 0 rfl) rfl ?_
  refine x_getR (E_X0_isOf_0 1 rfl) fl_X0_38 rfl (by decide) rfl ?_
  refine x_iload_n (E_X0_isOf_0 2 rfl) rfl ?_
  refine x_zalde (f := σ 46) (E_X0_isOf_0 3 rfl) rfl (by decide) (by omega) rfl ?_
  refine x_if_eq (E_X0_isOf_0 4 rfl) (by omega) (fun c1 => ?_) (fun c1 => ?_)
  · refine x_iconst (E_X0_isOf_0 21 rfl) ?_
    refine z_iret (E_X0_isOf_0 22 rfl) (Or.inl rfl) ?_
    exact ⟨rfl, by first | exact Or.inl ⟨rfl, by omega⟩ | exact Or.inr ⟨rfl, by omega⟩⟩
  · have th : (SC 45 n nl σ) 1 w = 1 := by omega
    have rd := StG_rd th
    have d3 : (SC 45 n nl σ) 3 w = σ 48 w := rd.2.2.1
    have d4 : (SC 45 n nl σ) 4 w = σ 49 w := rd.2.2.2.1
    have yr := hy.2.1 w th
    refine x_aload_n (E_X0_isOf_0 5 rfl) rfl ?_
    refine x_getR (E_X0_isOf_0 6 rfl) fl_X0_42 rfl (by decide) rfl ?_
    refine x_iload_n (E_X0_isOf_0 7 rfl) rfl ?_
    refine x_ialde (f := σ 48) (E_X0_isOf_0 8 rfl) rfl (by decide) (by omega) rfl ?_
    refine x_iload_n (E_X0_isOf_0 9 rfl) rfl ?_
    refine x_icmp_ne (E_X0_isOf_0 10 rfl) (by omega) (by omega) (fun c2 => ?_) (fun c2 => ?_)
    · refine x_iconst (E_X0_isOf_0 21 rfl) ?_
      refine z_iret (E_X0_isOf_0 22 rfl) (Or.inl rfl) ?_
      exact ⟨rfl, by first | exact Or.inl ⟨rfl, by omega⟩ | exact Or.inr ⟨rfl, by omega⟩⟩
    · refine x_aload_n (E_X0_isOf_0 11 rfl) rfl ?_
      refine x_getR (E_X0_isOf_0 12 rfl) fl_X0_32 rfl (by decide) rfl ?_
      refine x_iload_n (E_X0_isOf_0 13 rfl) rfl ?_
      refine x_ialde (f := σ 49) (E_X0_isOf_0 14 rfl) rfl (by decide) (by omega) rfl ?_
      refine x_iconst (E_X0_isOf_0 15 rfl) ?_
      refine x_sipush (z := 200) (E_X0_isOf_0 16 rfl) (by decide) ?_
      refine z_callSNi (E_X0_isOf_0 17 rfl) ml_X0_45 ms_X10_within (c_X10_within (by omega) (by omega) (by omega)) (by decide) rfl rfl (Nat.le_of_ble_eq_true rfl) (fun z9 τ9 h9 => ?_)
      obtain ⟨rfl, ⟨rfl, c3⟩ | ⟨rfl, c3⟩⟩ := h9
      · refine x_if_eq (E_X0_isOf_0 18 rfl) (by decide) (fun c9 => absurd c9 (by decide)) (fun _ => ?_)
        refine x_iconst (E_X0_isOf_0 19 rfl) ?_
        refine x_goto (E_X0_isOf_0 20 rfl) ?_
        refine z_iret (E_X0_isOf_0 22 rfl) (Or.inr rfl) ?_
        exact ⟨rfl, by first | exact Or.inl ⟨rfl, by omega⟩ | exact Or.inr ⟨rfl, by omega⟩⟩
      · refine x_if_eq (E_X0_isOf_0 18 rfl) (by decide) (fun _ => ?_) (fun c9 => absurd (by decide) c9)
        refine x_iconst (E_X0_isOf_0 21 rfl) ?_
        refine z_iret (E_X0_isOf_0 22 rfl) (Or.inl rfl) ?_
        exact ⟨rfl, by first | exact Or.inl ⟨rfl, by omega⟩ | exact Or.inr ⟨rfl, by omega⟩⟩

theorem db_c (hR : RR σ) {d kn x : Int} : ∀ w ∈ (ilF (fun w => decide ((Yq σ d kn) 1 w = 1 ∧ (Yq σ d kn) 3 w = x ∧ 0 < (Yq σ d kn) 4 w)) (nq σ) 0), 1 ≤ ((Yq σ d kn) 4) w ∧ ((Yq σ d kn) 4) w ≤ 200 := fun w hw => by
  have m := ilF_mem hw
  have q := of_decide_eq_true m.2
  have := (hR.yok (d := d) (kn := kn)).2.1 w q.1
  omega
theorem db_on (hR : RR σ) {d kn x : Int} : ((ilF (fun w => decide ((Yq σ d kn) 1 w = 1 ∧ (Yq σ d kn) 3 w = x ∧ 0 < (Yq σ d kn) 4 w)) (nq σ) 0).map ((Yq σ d kn) 4)).sum = onS (Yq σ d kn) (nq σ) x := by
  rw [ilF_sum]
  refine sumS_cong (fun j _ _ => ?_)
  have hy : YOk (nq σ) (σ 1 5) (σ 3) (Yq σ d kn) := hR.yok
  by_cases c : (Yq σ d kn) 1 j = 1 ∧ (Yq σ d kn) 3 j = x
  · have := hy.2.1 j c.1
    rw [if_pos c]
    by_cases e : 0 < (Yq σ d kn) 4 j
    · rw [if_pos (decide_eq_true ⟨c.1, c.2, e⟩)]
    · rw [if_neg (fun h => e (of_decide_eq_true h).2.2)]; omega
  · rw [if_neg c, if_neg (fun h => c ⟨(of_decide_eq_true h).1, (of_decide_eq_true h).2.1⟩)]
theorem db_k (hR : RR σ) {d kn x : Int} (hx : 0 ≤ x ∧ x < σ 1 5) : ∃ k0, fwO (dsL ((Yq σ d kn) 4) (ilF (fun w => decide ((Yq σ d kn) 1 w = 1 ∧ (Yq σ d kn) 3 w = x ∧ 0 < (Yq σ d kn) 4 w)) (nq σ) 0)) (max 0 (onS (Yq σ d kn) (nq σ) x - thS (σ 3) (Yq σ d kn) x)) = some k0 ∧ k0 ≤ 120 := by
  have s := dsL_sum (db_c hR (d := d) (kn := kn) (x := x))
  have on := db_on hR (d := d) (kn := kn) (x := x)
  have o2 := onS_rg (hR.yok (d := d) (kn := kn)) (l := x)
  have th := hR.th (d := d) (kn := kn) hx
  obtain ⟨k, h1, h2⟩ := fw_all (D := dsL ((Yq σ d kn) 4) (ilF (fun w => decide ((Yq σ d kn) 1 w = 1 ∧ (Yq σ d kn) 3 w = x ∧ 0 < (Yq σ d kn) 4 w)) (nq σ) 0)) (fun x hx => (cnL_mem hx).1) (v := (max 0 (onS (Yq σ d kn) (nq σ) x - thS (σ 3) (Yq σ d kn) x))) (by rw [s.1, on]; omega)
  refine ⟨k, h1, ?_⟩
  rw [s.2] at h2
  have := ilF_len (p := (fun w => decide ((Yq σ d kn) 1 w = 1 ∧ (Yq σ d kn) 3 w = x ∧ 0 < (Yq σ d kn) 4 w))) (n := nq σ) (h := 0)
  have := hR.n9
  omega
set_option maxHeartbeats 2000000 in
theorem c_X0_find {d kn x : Int} {k0 : Nat} (hR : RR σ) (h9 : TcP σ d kn τ) (hx : 0 ≤ x ∧ x < σ 1 5) (hk0 : fwO (dsL ((Yq σ d kn) 4) (ilF (fun w => decide ((Yq σ d kn) 1 w = 1 ∧ (Yq σ d kn) 3 w = x ∧ 0 < (Yq σ d kn) 4 w)) (nq σ) 0)) (max 0 (onS (Yq σ d kn) (nq σ) x - thS (σ 3) (Yq σ d kn) x)) = some k0 ∧ k0 ≤ 120) : CV l G M_X0_find 2 [vr 71, vr 45, vi (σ 7 9), vi x] τ (fun τ' => τ' 71 2 = ((dbS ((Yq σ d kn) 4) (ilF (fun w => decide ((Yq σ d kn) 1 w = 1 ∧ (Yq σ d kn) 3 w = x ∧ 0 < (Yq σ d kn) 4 w)) (nq σ) 0) (max 0 (onS (Yq σ d kn) (nq σ) x - thS (σ 3) (Yq σ d kn) x)) k0).length : Nat) ∧ RepL (τ' 73) (dbS ((Yq σ d kn) 4) (ilF (fun w => decide ((Yq σ d kn) 1 w = 1 ∧ (Yq σ d kn) 3 w = x ∧ 0 < (Yq σ d kn) 4 w)) (nq σ) 0) (max 0 (onS (Yq σ d kn) (nq σ) x - thS (σ 3) (Yq σ d kn) x)) k0) ∧ Fr [71, 72, 73] τ τ') := by
  have n9 := hR.n9
  have nl12 := hR.lots
  have hy : YOk (nq σ) (σ 1 5) (σ 3) (Yq σ d kn) := hR.yok
  have hc := db_c hR (d := d) (kn := kn) (x := x)
  have o2 := onS_rg hy (l := x)
  have th := hR.th (d := d) (kn := kn) hx
  have y1 := h9.1
  have sfr : ∀ ρ, Fr [71, 72, 73] τ ρ → SC 45 (nq σ) (σ 1 5) ρ = (Yq σ d kn) := fun ρ hF => (SC45_fr (fun k a b => hF k (by simp; omega))).trans y1
  have isO : ∀ ρ w, Fr [71, 72, 73] τ ρ → 0 ≤ w → w < σ 7 9 → CI l G M_X0_isOf 1 [vr 71, vr 45, vi w, vi x] ρ (BP ((Yq σ d kn) 1 w = 1 ∧ (Yq σ d kn) 3 w = x ∧ 0 < (Yq σ d kn) 4 w) ρ) := fun ρ w hF a b => by
    have := c_X0_isOf (l := l) (G := G) (σ := ρ) (dt := dtq σ) (n := nq σ) (nl := σ 1 5) (w := w) (x := x) (by rw [sfr ρ hF]; exact hR.yok) (by omega) (by omega) (by omega) (by omega)
    rw [sfr ρ hF] at this
    exact this
  have rd4 : ∀ ρ w, Fr [71, 72, 73] τ ρ → (Yq σ d kn) 1 w = 1 → ρ 49 w = (Yq σ d kn) 4 w := fun ρ w hF t => by
    have := (StG_rd (show SC 45 (nq σ) (σ 1 5) ρ 1 w = 1 by rw [sfr ρ hF]; exact t)).2.2.2.1
    have q := sfr ρ hF
    unfold SC at q
    rw [q] at this
    exact this.symm
  refine Ct.of rfl (Nat.le_of_ble_eq_true rfl) ?_
  have loop3 : ∀ (t : Nat) (i ov : Int) (k : Nat) (A : List Int) (lf : Int) (ρ : Nat → Int → Int), i = σ 7 9 - t → t ≤ (σ 7 9).toNat → lf = k → k ≤ 120 → (-40000 ≤ ov ∧ ov ≤ 40000) → fwO (dsL ((Yq σ d kn) 4) (ilF (fun w => decide ((Yq σ d kn) 1 w = 1 ∧ (Yq σ d kn) 3 w = x ∧ 0 < (Yq σ d kn) 4 w)) t i)) ov = some k → A ++ dbS ((Yq σ d kn) 4) (ilF (fun w => decide ((Yq σ d kn) 1 w = 1 ∧ (Yq σ d kn) 3 w = x ∧ 0 < (Yq σ d kn) 4 w)) t i) ov k = (dbS ((Yq σ d kn) 4) (ilF (fun w => decide ((Yq σ d kn) 1 w = 1 ∧ (Yq σ d kn) 3 w = x ∧ 0 < (Yq σ d kn) 4 w)) (nq σ) 0) (max 0 (onS (Yq σ d kn) (nq σ) x - thS (σ 3) (Yq σ d kn) x)) k0) → (A.length : Int) ≤ i → (∀ m, 1 ≤ m → m ≤ 200 → ρ 72 m = ctL ((Yq σ d kn) 4) (ilF (fun w => decide ((Yq σ d kn) 1 w = 1 ∧ (Yq σ d kn) 3 w = x ∧ 0 < (Yq σ d kn) 4 w)) t i) m) → ρ 71 2 = A.length → RepL (ρ 73) A → Fr [71, 72, 73] τ ρ → XV l G M_X0_find 2 90 [some (vr 71), some (vr 45), some (vi (σ 7 9)), some (vi x), some (vi ov), some (vi lf), some (vi i)] [] ρ (fun τ' => τ' 71 2 = ((dbS ((Yq σ d kn) 4) (ilF (fun w => decide ((Yq σ d kn) 1 w = 1 ∧ (Yq σ d kn) 3 w = x ∧ 0 < (Yq σ d kn) 4 w)) (nq σ) 0) (max 0 (onS (Yq σ d kn) (nq σ) x - thS (σ 3) (Yq σ d kn) x)) k0).length : Nat) ∧ RepL (τ' 73) (dbS ((Yq σ d kn) 4) (ilF (fun w => decide ((Yq σ d kn) 1 w = 1 ∧ (Yq σ d kn) 3 w = x ∧ 0 < (Yq σ d kn) 4 w)) (nq σ) 0) (max 0 (onS (Yq σ d kn) (nq σ) x - thS (σ 3) (Yq σ d kn) x)) k0) ∧ Fr [71, 72, 73] τ τ') := by
    intro t
    induction t using Nat.strongRecOn with
    | _ t ih =>
    intro i ov k A lf ρ hi ht hlf hk hov hfw hA hAl hH hcnt hrep hF
    have hmem := fun w (h : w ∈ ilF (fun w => decide ((Yq σ d kn) 1 w = 1 ∧ (Yq σ d kn) 3 w = x ∧ 0 < (Yq σ d kn) 4 w)) t i) => hc w (by
      have := ilF_mem h
      have m2 : ∀ (n : Nat) (h : Int), h ≤ w → w < h + n → (fun w => decide ((Yq σ d kn) 1 w = 1 ∧ (Yq σ d kn) 3 w = x ∧ 0 < (Yq σ d kn) 4 w)) w = true → w ∈ ilF (fun w => decide ((Yq σ d kn) 1 w = 1 ∧ (Yq σ d kn) 3 w = x ∧ 0 < (Yq σ d kn) 4 w)) n h := by
        intro n
        induction n with
        | zero => intro h a b; omega
        | succ n ih =>
          intro h a b c
          show w ∈ (if (fun w => decide ((Yq σ d kn) 1 w = 1 ∧ (Yq σ d kn) 3 w = x ∧ 0 < (Yq σ d kn) 4 w)) h = true then h :: ilF (fun w => decide ((Yq σ d kn) 1 w = 1 ∧ (Yq σ d kn) 3 w = x ∧ 0 < (Yq σ d kn) 4 w)) n (h + 1) else ilF (fun w => decide ((Yq σ d kn) 1 w = 1 ∧ (Yq σ d kn) 3 w = x ∧ 0 < (Yq σ d kn) 4 w)) n (h + 1))
          by_cases e : w = h
          · rw [← e, if_pos c]; exact List.mem_cons_self
          · have := ih (h + 1) (by omega) (by omega) c
            split
            · exact List.mem_cons_of_mem _ this
            · exact this
      exact m2 (nq σ) 0 (by omega) (by omega) this.2)
    have fin : dbS ((Yq σ d kn) 4) (ilF (fun w => decide ((Yq σ d kn) 1 w = 1 ∧ (Yq σ d kn) 3 w = x ∧ 0 < (Yq σ d kn) 4 w)) t i) ov k = [] → ρ 71 2 = ((dbS ((Yq σ d kn) 4) (ilF (fun w => decide ((Yq σ d kn) 1 w = 1 ∧ (Yq σ d kn) 3 w = x ∧ 0 < (Yq σ d kn) 4 w)) (nq σ) 0) (max 0 (onS (Yq σ d kn) (nq σ) x - thS (σ 3) (Yq σ d kn) x)) k0).length : Nat) ∧ RepL (ρ 73) (dbS ((Yq σ d kn) 4) (ilF (fun w => decide ((Yq σ d kn) 1 w = 1 ∧ (Yq σ d kn) 3 w = x ∧ 0 < (Yq σ d kn) 4 w)) (nq σ) 0) (max 0 (onS (Yq σ d kn) (nq σ) x - thS (σ 3) (Yq σ d kn) x)) k0) ∧ Fr [71, 72, 73] τ ρ := fun e => by
      rw [e, List.append_nil] at hA
      rw [← hA]
      exact ⟨hcnt, hrep, hF⟩
    refine x_iload (E_X0_find_0 49 rfl) rfl ?_
    refine x_iload_n (E_X0_find_0 50 rfl) rfl ?_
    refine x_icmp_ge (E_X0_find_0 51 rfl) (by omega) (by omega) (fun c1 => ?_) (fun c1 => ?_)
    · refine z_vret (E_X0_find_1 43 rfl) trivial ?_
      exact fin (by rw [show t = 0 by omega]; rfl)
    · refine x_iload (E_X0_find_0 52 rfl) rfl ?_
      refine x_if_le (E_X0_find_0 53 rfl) (by omega) (fun c2 => ?_) (fun c2 => ?_)
      · refine z_vret (E_X0_find_1 43 rfl) trivial ?_
        refine fin ?_
        obtain rfl : k = 0 := by omega
        cases ilF (fun w => decide ((Yq σ d kn) 1 w = 1 ∧ (Yq σ d kn) 3 w = x ∧ 0 < (Yq σ d kn) 4 w)) t i with
        | nil => rfl
        | cons a S => exact if_pos rfl
      · refine x_aload_n (E_X0_find_0 54 rfl) rfl ?_
        refine x_aload_n (E_X0_find_0 55 rfl) rfl ?_
        refine x_iload (E_X0_find_0 56 rfl) rfl ?_
        refine x_iload_n (E_X0_find_0 57 rfl) rfl ?_
        refine z_callVi (E_X0_find_0 58 rfl) ml_X0_28 mv_X0_isOf rfl (by decide) (by decide) (isO ρ i hF (by omega) (by omega)) (by decide) rfl rfl (Nat.le_of_ble_eq_true rfl) (fun z9 τ9 h9 => ?_)
        obtain ⟨rfl, ⟨rfl, c3⟩ | ⟨rfl, c3⟩⟩ := h9
        · refine x_if_eq (E_X0_find_0 59 rfl) (by decide) (fun c9 => absurd c9 (by decide)) (fun _ => ?_)
          obtain ⟨t', rfl⟩ : ∃ t', t = t' + 1 := ⟨t - 1, by omega⟩
          have pi : (fun w => decide ((Yq σ d kn) 1 w = 1 ∧ (Yq σ d kn) 3 w = x ∧ 0 < (Yq σ d kn) 4 w)) i = true := decide_eq_true (by assumption)
          have eS : ilF (fun w => decide ((Yq σ d kn) 1 w = 1 ∧ (Yq σ d kn) 3 w = x ∧ 0 < (Yq σ d kn) 4 w)) (t' + 1) i = i :: ilF (fun w => decide ((Yq σ d kn) 1 w = 1 ∧ (Yq σ d kn) 3 w = x ∧ 0 < (Yq σ d kn) 4 w)) t' (i + 1) := if_pos pi
          rw [eS] at hfw hA hH
          have ci := hmem i (by rw [eS]; exact List.mem_cons_self)
          have r4 := rd4 ρ i hF (of_decide_eq_true pi).1
          have h4 := hH (ρ 49 i) (by omega) (by omega)
          rw [r4, ctL_cons] at h4
          have h4 : ρ 72 ((Yq σ d kn) 4 i) = ctL ((Yq σ d kn) 4) (ilF (fun w => decide ((Yq σ d kn) 1 w = 1 ∧ (Yq σ d kn) 3 w = x ∧ 0 < (Yq σ d kn) 4 w)) t' (i + 1)) ((Yq σ d kn) 4 i) + 1 := h4.trans (if_pos rfl)
          obtain ⟨k, rfl⟩ : ∃ k', k = k' + 1 := ⟨k - 1, by omega⟩
          have st := db_step ci hfw
          have ov0 : 0 < ov := Classical.byContradiction (fun h => by rw [fwO_0 (by omega)] at hfw; exact absurd (Option.some.inj hfw) (by omega))
          have hA : A ++ (if k + 1 = 0 then [] else if fwO (dsL ((Yq σ d kn) 4) (ilF (fun w => decide ((Yq σ d kn) 1 w = 1 ∧ (Yq σ d kn) 3 w = x ∧ 0 < (Yq σ d kn) 4 w)) t' (i + 1))) (ov - (Yq σ d kn) 4 i) = some (k + 1 - 1) then i :: dbS ((Yq σ d kn) 4) (ilF (fun w => decide ((Yq σ d kn) 1 w = 1 ∧ (Yq σ d kn) 3 w = x ∧ 0 < (Yq σ d kn) 4 w)) t' (i + 1)) (ov - (Yq σ d kn) 4 i) (k + 1 - 1) else dbS ((Yq σ d kn) 4) (ilF (fun w => decide ((Yq σ d kn) 1 w = 1 ∧ (Yq σ d kn) 3 w = x ∧ 0 < (Yq σ d kn) 4 w)) t' (i + 1)) ov (k + 1)) = (dbS ((Yq σ d kn) 4) (ilF (fun w => decide ((Yq σ d kn) 1 w = 1 ∧ (Yq σ d kn) 3 w = x ∧ 0 < (Yq σ d kn) 4 w)) (nq σ) 0) (max 0 (onS (Yq σ d kn) (nq σ) x - thS (σ 3) (Yq σ d kn) x)) k0) := hA
          rw [if_neg (by omega), Nat.add_sub_cancel] at hA
          refine x_aload_n (E_X0_find_1 0 rfl) rfl ?_
          refine x_getR (E_X0_find_1 1 rfl) fl_X0_9 rfl (by decide) rfl ?_
          refine x_aload_n (E_X0_find_1 2 rfl) rfl ?_
          refine x_getR (E_X0_find_1 3 rfl) fl_X0_32 rfl (by decide) rfl ?_
          refine x_iload (E_X0_find_1 4 rfl) rfl ?_
          refine x_ialde (f := ρ 49) (E_X0_find_1 5 rfl) rfl (by decide) (by omega) rfl ?_
          refine x_dup2 (E_X0_find_1 6 rfl) ?_
          refine x_ialde (f := ρ 72) (E_X0_find_1 7 rfl) rfl (by decide) (by omega) rfl ?_
          refine x_iconst (E_X0_find_1 8 rfl) ?_
          refine x_isub (E_X0_find_1 9 rfl) ?_
          refine x_iast (E_X0_find_1 10 rfl) rfl (by decide) (by omega) ?_
          rw [r4]
          have nH : ∀ m, 1 ≤ m → m ≤ 200 → upq ρ 72 ((Yq σ d kn) 4 i) (ρ 72 ((Yq σ d kn) 4 i) - 1) 72 m = ctL ((Yq σ d kn) 4) (ilF (fun w => decide ((Yq σ d kn) 1 w = 1 ∧ (Yq σ d kn) 3 w = x ∧ 0 < (Yq σ d kn) 4 w)) t' (i + 1)) m := fun m a b => by
            rw [upq_eq]
            by_cases e : m = (Yq σ d kn) 4 i
            · rw [if_pos e, h4, e]; omega
            · rw [if_neg e, hH m a b, ctL_cons]; exact if_neg e
          have nF : Fr [71, 72, 73] τ (upq ρ 72 ((Yq σ d kn) 4 i) (ρ 72 ((Yq σ d kn) 4 i) - 1)) := hF.up (by decide)
          have ll : (ilF (fun w => decide ((Yq σ d kn) 1 w = 1 ∧ (Yq σ d kn) 3 w = x ∧ 0 < (Yq σ d kn) 4 w)) t' (i + 1)).length ≤ t' := ilF_len
          have fe0 := c_X0_fewest (l := l) (G := G) (σ := upq ρ 72 ((Yq σ d kn) 4 i) (ρ 72 ((Yq σ d kn) 4 i) - 1)) (v := ov - (Yq σ d kn) 4 i) (by omega) (fun m a b => by rw [nH m a b]; have := ctL_0 (c := ((Yq σ d kn) 4)) (S := ilF (fun w => decide ((Yq σ d kn) 1 w = 1 ∧ (Yq σ d kn) 3 w = x ∧ 0 < (Yq σ d kn) 4 w)) t' (i + 1)) m; have := ctL_le (c := ((Yq σ d kn) 4)) (L := ilF (fun w => decide ((Yq σ d kn) 1 w = 1 ∧ (Yq σ d kn) 3 w = x ∧ 0 < (Yq σ d kn) 4 w)) t' (i + 1)) m; omega)
          rw [cnL_cong (g := ctL ((Yq σ d kn) 4) (ilF (fun w => decide ((Yq σ d kn) 1 w = 1 ∧ (Yq σ d kn) 3 w = x ∧ 0 < (Yq σ d kn) 4 w)) t' (i + 1))) (fun m a b => nH m a b)] at fe0
          have fe : CI l G M_X0_fewest 1 [vr 71, vi (ov - ρ 49 i)] (upq ρ 72 ((Yq σ d kn) 4 i) (ρ 72 ((Yq σ d kn) 4 i) - 1)) (IP (ofD (fwO (dsL ((Yq σ d kn) 4) (ilF (fun w => decide ((Yq σ d kn) 1 w = 1 ∧ (Yq σ d kn) 3 w = x ∧ 0 < (Yq σ d kn) 4 w)) t' (i + 1))) (ov - (Yq σ d kn) 4 i))) (upq ρ 72 ((Yq σ d kn) 4 i) (ρ 72 ((Yq σ d kn) 4 i) - 1))) := by rw [r4]; exact fe0
          have zr : 0 ≤ ofD (fwO (dsL ((Yq σ d kn) 4) (ilF (fun w => decide ((Yq σ d kn) 1 w = 1 ∧ (Yq σ d kn) 3 w = x ∧ 0 < (Yq σ d kn) 4 w)) t' (i + 1))) (ov - (Yq σ d kn) 4 i)) ∧ ofD (fwO (dsL ((Yq σ d kn) 4) (ilF (fun w => decide ((Yq σ d kn) 1 w = 1 ∧ (Yq σ d kn) 3 w = x ∧ 0 < (Yq σ d kn) 4 w)) t' (i + 1))) (ov - (Yq σ d kn) 4 i)) ≤ 200 := by
            cases q : fwO (dsL ((Yq σ d kn) 4) (ilF (fun w => decide ((Yq σ d kn) 1 w = 1 ∧ (Yq σ d kn) 3 w = x ∧ 0 < (Yq σ d kn) 4 w)) t' (i + 1))) (ov - (Yq σ d kn) 4 i) with
            | none => exact ⟨by decide, by decide⟩
            | some j =>
              have : j ≤ (dsL ((Yq σ d kn) 4) (ilF (fun w => decide ((Yq σ d kn) 1 w = 1 ∧ (Yq σ d kn) 3 w = x ∧ 0 < (Yq σ d kn) 4 w)) t' (i + 1))).length := ((fwO_iff (fun x hx => (cnL_mem hx).1)).mp q).1
              have s2 := (dsL_sum (c := ((Yq σ d kn) 4)) (S := ilF (fun w => decide ((Yq σ d kn) 1 w = 1 ∧ (Yq σ d kn) 3 w = x ∧ 0 < (Yq σ d kn) 4 w)) t' (i + 1)) (fun w hw => hmem w (by rw [eS]; exact List.mem_cons_of_mem _ hw))).2
              show 0 ≤ (j : Int) ∧ (j : Int) ≤ 200
              omega
          refine x_aload_n (E_X0_find_1 11 rfl) rfl ?_
          refine x_iload (E_X0_find_1 12 rfl) rfl ?_
          refine x_aload_n (E_X0_find_1 13 rfl) rfl ?_
          refine x_getR (E_X0_find_1 14 rfl) fl_X0_32 rfl (by decide) rfl ?_
          refine x_iload (E_X0_find_1 15 rfl) rfl ?_
          refine x_ialde (f := ρ 49) (E_X0_find_1 16 rfl) rfl (by decide) (by omega) rfl ?_
          refine x_isub (E_X0_find_1 17 rfl) ?_
          refine z_callVi (E_X0_find_1 18 rfl) ml_X0_35 mv_X0_fewest rfl (by decide) (by decide) fe (by decide) rfl rfl (Nat.le_of_ble_eq_true rfl) (fun z9 τ9 k9 => ?_)
          obtain ⟨z9, rfl⟩ := k9
          refine x_iload (E_X0_find_1 19 rfl) rfl ?_
          refine x_icmp_ge (E_X0_find_1 20 rfl) (by omega) (by omega) (fun c4 => ?_) (fun c4 => ?_)
          · have ne : ¬ fwO (dsL ((Yq σ d kn) 4) (ilF (fun w => decide ((Yq σ d kn) 1 w = 1 ∧ (Yq σ d kn) 3 w = x ∧ 0 < (Yq σ d kn) 4 w)) t' (i + 1))) (ov - (Yq σ d kn) 4 i) = some k := fun e => by
              rw [e] at z9
              have z9 : _ = (k : Int) := z9
              omega
            rw [if_neg ne] at hA
            refine x_iinc (E_X0_find_1 41 rfl) rfl rfl ?_
            refine x_goto (E_X0_find_1 42 rfl) ?_
            exact ih t' (by omega) _ ov (k + 1) A _ _ (by omega) (by omega) hlf hk hov (st.2.resolve_left ne) hA (by omega) nH hcnt hrep nF
          · refine x_iload (E_X0_find_1 21 rfl) rfl ?_
            refine x_aload_n (E_X0_find_1 22 rfl) rfl ?_
            refine x_getR (E_X0_find_1 23 rfl) fl_X0_32 rfl (by decide) rfl ?_
            refine x_iload (E_X0_find_1 24 rfl) rfl ?_
            refine x_ialde (f := ρ 49) (E_X0_find_1 25 rfl) rfl (by decide) (by omega) rfl ?_
            refine x_isub (E_X0_find_1 26 rfl) ?_
            refine x_istore (E_X0_find_1 27 rfl) rfl ?_
            refine x_iinc (E_X0_find_1 28 rfl) rfl rfl ?_
            refine x_aload_n (E_X0_find_1 29 rfl) rfl ?_
            refine x_getR (E_X0_find_1 30 rfl) fl_X0_15 rfl (by decide) rfl ?_
            refine x_aload_n (E_X0_find_1 31 rfl) rfl ?_
            refine x_getIe (v := ρ 71 2) (E_X0_find_1 32 rfl) fl_X0_18 rfl (by decide) rfl ?_
            refine x_iload (E_X0_find_1 33 rfl) rfl ?_
            refine x_iast (E_X0_find_1 34 rfl) rfl (by decide) (by omega) ?_
            refine x_aload_n (E_X0_find_1 35 rfl) rfl ?_
            refine x_dupr (E_X0_find_1 36 rfl) ?_
            refine x_getIe (v := ρ 71 2) (E_X0_find_1 37 rfl) fl_X0_18 rfl (by decide) rfl ?_
            refine x_iconst (E_X0_find_1 38 rfl) ?_
            refine x_iadd (E_X0_find_1 39 rfl) ?_
            refine x_putI (E_X0_find_1 40 rfl) fl_X0_18 rfl (by decide) ?_
            have eq : fwO (dsL ((Yq σ d kn) 4) (ilF (fun w => decide ((Yq σ d kn) 1 w = 1 ∧ (Yq σ d kn) 3 w = x ∧ 0 < (Yq σ d kn) 4 w)) t' (i + 1))) (ov - (Yq σ d kn) 4 i) = some k := by
              cases q : fwO (dsL ((Yq σ d kn) 4) (ilF (fun w => decide ((Yq σ d kn) 1 w = 1 ∧ (Yq σ d kn) 3 w = x ∧ 0 < (Yq σ d kn) 4 w)) t' (i + 1))) (ov - (Yq σ d kn) 4 i) with
              | none =>
                rw [q] at z9
                have z9 : _ = (121 : Int) := z9
                omega
              | some j =>
                have := st.1 j q
                rw [q] at z9
                have z9 : _ = (j : Int) := z9
                rw [show j = k by omega]
            rw [if_pos eq] at hA
            rw [r4]
            refine x_iinc (E_X0_find_1 41 rfl) rfl rfl ?_
            refine x_goto (E_X0_find_1 42 rfl) ?_
            refine ih t' (by omega) _ _ k (A ++ [i]) _ _ (by omega) (by omega) (by omega) (by omega) (by omega) eq (by rw [List.append_assoc]; exact hA) (by rw [List.length_append]; simp; omega) nH ?_ ?_ (Fr.up (Fr.up nF (by decide)) (by decide))
            · rw [List.length_append]
              show ρ 71 2 + 1 = _
              rw [hcnt]; simp
            · intro q y hq
              show (if (q : Int) = ρ 71 2 then i else ρ 73 q) = y
              by_cases e : q < A.length
              · rw [if_neg (by omega)]
                rw [List.getElem?_append_left e] at hq
                exact hrep q y hq
              · have eq : q = A.length := by
                  have := (List.getElem?_eq_some_iff.mp hq).1
                  rw [List.length_append] at this
                  simp at this
                  omega
                rw [if_pos (by omega)]
                rw [eq] at hq
                simpa using hq
        · refine x_if_eq (E_X0_find_0 59 rfl) (by decide) (fun _ => ?_) (fun c9 => absurd (by decide) c9)
          obtain ⟨t', rfl⟩ : ∃ t', t = t' + 1 := ⟨t - 1, by omega⟩
          have eS : ilF (fun w => decide ((Yq σ d kn) 1 w = 1 ∧ (Yq σ d kn) 3 w = x ∧ 0 < (Yq σ d kn) 4 w)) (t' + 1) i = ilF (fun w => decide ((Yq σ d kn) 1 w = 1 ∧ (Yq σ d kn) 3 w = x ∧ 0 < (Yq σ d kn) 4 w)) t' (i + 1) := if_neg (fun h => absurd (of_decide_eq_true h) (by assumption))
          rw [eS] at hfw hA hH
          refine x_iinc (E_X0_find_1 41 rfl) rfl rfl ?_
          refine x_goto (E_X0_find_1 42 rfl) ?_
          exact ih t' (by omega) _ ov k A _ ρ (by omega) (by omega) hlf hk hov hfw hA (by omega) hH hcnt hrep hF
  have loop2 : ∀ (t : Nat) (i : Int) (ρ : Nat → Int → Int), i = σ 7 9 - t → t ≤ (σ 7 9).toNat → (∀ m, 1 ≤ m → m ≤ 200 → ρ 72 m = ctL ((Yq σ d kn) 4) (ilF (fun w => decide ((Yq σ d kn) 1 w = 1 ∧ (Yq σ d kn) 3 w = x ∧ 0 < (Yq σ d kn) 4 w)) i.toNat 0) m) → ρ 71 2 = 0 → Fr [71, 72, 73] τ ρ → XV l G M_X0_find 2 40 [some (vr 71), some (vr 45), some (vi (σ 7 9)), some (vi x), some (vi (max 0 (onS (Yq σ d kn) (nq σ) x - thS (σ 3) (Yq σ d kn) x))), some (vi i), none] [] ρ (fun τ' => τ' 71 2 = ((dbS ((Yq σ d kn) 4) (ilF (fun w => decide ((Yq σ d kn) 1 w = 1 ∧ (Yq σ d kn) 3 w = x ∧ 0 < (Yq σ d kn) 4 w)) (nq σ) 0) (max 0 (onS (Yq σ d kn) (nq σ) x - thS (σ 3) (Yq σ d kn) x)) k0).length : Nat) ∧ RepL (τ' 73) (dbS ((Yq σ d kn) 4) (ilF (fun w => decide ((Yq σ d kn) 1 w = 1 ∧ (Yq σ d kn) 3 w = x ∧ 0 < (Yq σ d kn) 4 w)) (nq σ) 0) (max 0 (onS (Yq σ d kn) (nq σ) x - thS (σ 3) (Yq σ d kn) x)) k0) ∧ Fr [71, 72, 73] τ τ') := by
    intro t
    induction t using Nat.strongRecOn with
    | _ t ih =>
    intro i ρ hi ht hH hcnt hF
    refine x_iload (E_X0_find_0 21 rfl) rfl ?_
    refine x_iload_n (E_X0_find_0 22 rfl) rfl ?_
    refine x_icmp_ge (E_X0_find_0 23 rfl) (by omega) (by omega) (fun c1 => ?_) (fun c1 => ?_)
    · have ei : i.toNat = nq σ := by unfold nq; omega
      rw [ei] at hH
      have ll : ((ilF (fun w => decide ((Yq σ d kn) 1 w = 1 ∧ (Yq σ d kn) 3 w = x ∧ 0 < (Yq σ d kn) 4 w)) (nq σ) 0)).length ≤ nq σ := ilF_len
      have fe := c_X0_fewest (l := l) (G := G) (σ := ρ) (v := (max 0 (onS (Yq σ d kn) (nq σ) x - thS (σ 3) (Yq σ d kn) x))) (by omega) (fun m a b => by rw [hH m a b]; have := ctL_0 (c := ((Yq σ d kn) 4)) (S := (ilF (fun w => decide ((Yq σ d kn) 1 w = 1 ∧ (Yq σ d kn) 3 w = x ∧ 0 < (Yq σ d kn) 4 w)) (nq σ) 0)) m; have := ctL_le (c := ((Yq σ d kn) 4)) (L := (ilF (fun w => decide ((Yq σ d kn) 1 w = 1 ∧ (Yq σ d kn) 3 w = x ∧ 0 < (Yq σ d kn) 4 w)) (nq σ) 0)) m; omega)
      rw [cnL_cong (g := ctL ((Yq σ d kn) 4) (ilF (fun w => decide ((Yq σ d kn) 1 w = 1 ∧ (Yq σ d kn) 3 w = x ∧ 0 < (Yq σ d kn) 4 w)) (nq σ) 0)) (fun m a b => hH m a b)] at fe
      refine x_aload_n (E_X0_find_0 43 rfl) rfl ?_
      refine x_iload (E_X0_find_0 44 rfl) rfl ?_
      refine z_callVi (E_X0_find_0 45 rfl) ml_X0_35 mv_X0_fewest rfl (by decide) (by decide) fe (by decide) rfl rfl (Nat.le_of_ble_eq_true rfl) (fun v9 τ9 k9 => ?_)
      obtain ⟨z9, rfl⟩ := k9
      refine x_istore (E_X0_find_0 46 rfl) rfl ?_
      refine x_iconst (E_X0_find_0 47 rfl) ?_
      refine x_istore (E_X0_find_0 48 rfl) rfl ?_
      have z9 : v9 = (k0 : Int) := by
        rw [z9]
        have := hk0.1
        unfold dsL at this
        rw [this]
        rfl
      rw [z9]
      refine loop3 (nq σ) 0 _ k0 [] _ ρ (by omega) (by unfold nq; omega) rfl hk0.2 (by omega) hk0.1 (by rw [List.nil_append]) (by simp) hH hcnt (fun q x h => by cases h) hF
    · refine x_aload_n (E_X0_find_0 24 rfl) rfl ?_
      refine x_aload_n (E_X0_find_0 25 rfl) rfl ?_
      refine x_iload (E_X0_find_0 26 rfl) rfl ?_
      refine x_iload_n (E_X0_find_0 27 rfl) rfl ?_
      refine z_callVi (E_X0_find_0 28 rfl) ml_X0_28 mv_X0_isOf rfl (by decide) (by decide) (isO ρ i hF (by omega) (by omega)) (by decide) rfl rfl (Nat.le_of_ble_eq_true rfl) (fun z9 τ9 h9 => ?_)
      obtain ⟨rfl, ⟨rfl, c2⟩ | ⟨rfl, c2⟩⟩ := h9
      · refine x_if_eq (E_X0_find_0 29 rfl) (by decide) (fun c9 => absurd c9 (by decide)) (fun _ => ?_)
        have pi : (fun w => decide ((Yq σ d kn) 1 w = 1 ∧ (Yq σ d kn) 3 w = x ∧ 0 < (Yq σ d kn) 4 w)) i = true := decide_eq_true (by assumption)
        have r4 := rd4 ρ i hF (of_decide_eq_true pi).1
        have yi := hy.2.1 i (of_decide_eq_true pi).1
        have pp := (of_decide_eq_true pi).2.2
        refine x_aload_n (E_X0_find_0 30 rfl) rfl ?_
        refine x_getR (E_X0_find_0 31 rfl) fl_X0_9 rfl (by decide) rfl ?_
        refine x_aload_n (E_X0_find_0 32 rfl) rfl ?_
        refine x_getR (E_X0_find_0 33 rfl) fl_X0_32 rfl (by decide) rfl ?_
        refine x_iload (E_X0_find_0 34 rfl) rfl ?_
        refine x_ialde (f := ρ 49) (E_X0_find_0 35 rfl) rfl (by decide) (by omega) rfl ?_
        refine x_dup2 (E_X0_find_0 36 rfl) ?_
        refine x_ialde (f := ρ 72) (E_X0_find_0 37 rfl) rfl (by decide) (by omega) rfl ?_
        refine x_iconst (E_X0_find_0 38 rfl) ?_
        refine x_iadd (E_X0_find_0 39 rfl) ?_
        refine x_iast (E_X0_find_0 40 rfl) rfl (by decide) (by omega) ?_
        refine x_iinc (E_X0_find_0 41 rfl) rfl rfl ?_
        refine x_goto (E_X0_find_0 42 rfl) ?_
        refine ih (t - 1) (by omega) _ _ (by omega) (by omega) (fun m a b => ?_) hcnt (hF.up (by decide))
        rw [show (i + 1).toNat = i.toNat + 1 by omega, ilF_snoc, show (0 : Int) + ((i.toNat : Nat) : Int) = i by omega, if_pos pi, ctL_snoc, ← r4]
        show (if m = ρ 49 i then ρ 72 (ρ 49 i) + 1 else ρ 72 m) = (if m = ρ 49 i then ctL ((Yq σ d kn) 4) (ilF (fun w => decide ((Yq σ d kn) 1 w = 1 ∧ (Yq σ d kn) 3 w = x ∧ 0 < (Yq σ d kn) 4 w)) i.toNat 0) (ρ 49 i) + 1 else ctL ((Yq σ d kn) 4) (ilF (fun w => decide ((Yq σ d kn) 1 w = 1 ∧ (Yq σ d kn) 3 w = x ∧ 0 < (Yq σ d kn) 4 w)) i.toNat 0) m)
        rw [← hH m a b, ← hH (ρ 49 i) (by omega) (by omega)]
      · refine x_if_eq (E_X0_find_0 29 rfl) (by decide) (fun _ => ?_) (fun c9 => absurd (by decide) c9)
        refine x_iinc (E_X0_find_0 41 rfl) rfl rfl ?_
        refine x_goto (E_X0_find_0 42 rfl) ?_
        refine ih (t - 1) (by omega) _ _ (by omega) (by omega) (fun m a b => ?_) hcnt hF
        rw [show (i + 1).toNat = i.toNat + 1 by omega, ilF_snoc, show (0 : Int) + ((i.toNat : Nat) : Int) = i by omega, if_neg (fun h => absurd (of_decide_eq_true h) (by assumption)), List.append_nil]
        exact hH m a b
  have loop1 : ∀ (t : Nat) (i : Int) (ρ : Nat → Int → Int), i = 201 - t → t ≤ 201 → (∀ m, 0 ≤ m → m < i → ρ 72 m = 0) → ρ 71 2 = 0 → Fr [71, 72, 73] τ ρ → XV l G M_X0_find 2 15 [some (vr 71), some (vr 45), some (vi (σ 7 9)), some (vi x), some (vi (max 0 (onS (Yq σ d kn) (nq σ) x - thS (σ 3) (Yq σ d kn) x))), some (vi i), none] [] ρ (fun τ' => τ' 71 2 = ((dbS ((Yq σ d kn) 4) (ilF (fun w => decide ((Yq σ d kn) 1 w = 1 ∧ (Yq σ d kn) 3 w = x ∧ 0 < (Yq σ d kn) 4 w)) (nq σ) 0) (max 0 (onS (Yq σ d kn) (nq σ) x - thS (σ 3) (Yq σ d kn) x)) k0).length : Nat) ∧ RepL (τ' 73) (dbS ((Yq σ d kn) 4) (ilF (fun w => decide ((Yq σ d kn) 1 w = 1 ∧ (Yq σ d kn) 3 w = x ∧ 0 < (Yq σ d kn) 4 w)) (nq σ) 0) (max 0 (onS (Yq σ d kn) (nq σ) x - thS (σ 3) (Yq σ d kn) x)) k0) ∧ Fr [71, 72, 73] τ τ') := by
    intro t
    induction t using Nat.strongRecOn with
    | _ t ih =>
    intro i ρ hi ht hH hcnt hF
    refine x_iload (E_X0_find_0 9 rfl) rfl ?_
    refine x_sipush (z := 200) (E_X0_find_0 10 rfl) (by decide) ?_
    refine x_icmp_gt (E_X0_find_0 11 rfl) (by omega) (by decide) (fun c1 => ?_) (fun c1 => ?_)
    · refine x_iconst (E_X0_find_0 19 rfl) ?_
      refine x_istore (E_X0_find_0 20 rfl) rfl ?_
      refine loop2 (σ 7 9).toNat 0 ρ (by omega) (Nat.le_refl _) (fun m a b => ?_) hcnt hF
      rw [hH m (by omega) (by omega)]
      rfl
    · refine x_aload_n (E_X0_find_0 12 rfl) rfl ?_
      refine x_getR (E_X0_find_0 13 rfl) fl_X0_9 rfl (by decide) rfl ?_
      refine x_iload (E_X0_find_0 14 rfl) rfl ?_
      refine x_iconst (E_X0_find_0 15 rfl) ?_
      refine x_iast (E_X0_find_0 16 rfl) rfl (by decide) (by omega) ?_
      refine x_iinc (E_X0_find_0 17 rfl) rfl rfl ?_
      refine x_goto (E_X0_find_0 18 rfl) ?_
      refine ih (t - 1) (by omega) _ _ (by omega) (by omega) (fun m a b => ?_) hcnt (hF.up (by decide))
      show (if m = i then 0 else ρ 72 m) = 0
      by_cases e : m = i
      · rw [if_pos e]
      · rw [if_neg e]; exact hH m a (by omega)
  refine x_aload_n (E_X0_find_0 0 rfl) rfl ?_
  refine x_iconst (E_X0_find_0 1 rfl) ?_
  refine x_putI (E_X0_find_0 2 rfl) fl_X0_18 rfl (by decide) ?_
  refine x_aload_n (E_X0_find_0 3 rfl) rfl ?_
  refine x_iload_n (E_X0_find_0 4 rfl) rfl ?_
  have ov := c_X7_overOf_45 (l := l) (G := G) (σ := upq τ 71 2 0) (dt := dtq σ) (hd := hdq σ) (n := nq σ) (nl := σ 1 5) hx (h9.2.2.1.low (fun k hk => upq_ne (by omega))) hR.dok (by rw [sfr _ (Fr.rf.up (by decide))]; exact hR.yok) (by rw [sfr _ (Fr.rf.up (by decide))]; exact h9.2.1)
  rw [sfr _ (Fr.rf.up (by decide))] at ov
  refine z_callVi (E_X0_find_0 5 rfl) ml_X0_22 mv_X7_overOf rfl (by decide) (by decide) ov (by decide) rfl rfl (Nat.le_of_ble_eq_true rfl) (fun v8 τ8 k8 => ?_)
  obtain ⟨z8, rfl⟩ := k8
  have z8 : v8 = (max 0 (onS (Yq σ d kn) (nq σ) x - thS (σ 3) (Yq σ d kn) x)) := z8
  rw [z8]
  refine x_istore (E_X0_find_0 6 rfl) rfl ?_
  refine x_iconst (E_X0_find_0 7 rfl) ?_
  refine x_istore (E_X0_find_0 8 rfl) rfl ?_
  exact loop1 201 0 _ (by omega) (Nat.le_refl _) (fun m a b => absurd a (by omega)) rfl (Fr.rf.up (by decide))

