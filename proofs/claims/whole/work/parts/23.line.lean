/-! line -/
variable {l : Launch} {G : GC} {σ : Nat → Int → Int}

theorem lt_of_eq_of_lt' {a b c : Int} (h : a = b) (h2 : b < c) : a < c := by omega
theorem getD_take {L : List Int} {m k : Nat} (h : k < m) : (L.take m).getD k 0 = L.getD k 0 := by
  rw [List.getD_eq_getElem?_getD, List.getD_eq_getElem?_getD, List.getElem?_take, if_pos h]
/-- what an insertion from behind leaves -/
theorem ins_rep {key : Int → Int} {x : Int} {L : List Int} {f : Int → Int} {m : Nat} (hm : m ≤ L.length) (h1 : ∀ k : Nat, k < m → f k = L.getD k 0) (hx : f m = x) (h2 : ∀ k : Nat, m ≤ k → k < L.length → f ((k : Int) + 1) = L.getD k 0) (h3 : ∀ k : Nat, m ≤ k → k < L.length → key x < key (L.getD k 0)) (h4 : m = 0 ∨ key (L.getD (m - 1) 0) ≤ key x) (hs : L.Pairwise (fun a b => key a ≤ key b)) : RepL f (insL key x L) := by
  have e : insL key x L = L.take m ++ x :: L.drop m := by
    have := insL_split (key := key) (x := x) (l1 := L.take m) (l2 := L.drop m) (fun y hy => ?_) (fun y hy => ?_)
    · rw [List.take_append_drop] at this
      exact this
    · rcases h4 with h4 | h4
      · subst h4; simp at hy
      · obtain ⟨k, hk⟩ := List.mem_iff_getElem?.mp hy
        rw [List.getElem?_take] at hk
        split at hk
        · rename_i hkm
          have hkl : k < L.length := (List.getElem?_eq_some_iff.mp hk).1
          have hy2 : y = L.getD k 0 := by rw [List.getD_eq_getElem?_getD, hk]; rfl
          by_cases ek : k = m - 1
          · rw [hy2, ek]; exact h4
          · have hp := List.pairwise_iff_getElem.mp hs k (m - 1) hkl (by omega) (by omega)
            have e1 : L.getD k 0 = L[k] := by simp [List.getD_eq_getElem?_getD, hkl]
            have e2 : L.getD (m - 1) 0 = L[m - 1]'(by omega) := by simp [List.getD_eq_getElem?_getD, show m - 1 < L.length by omega]
            rw [hy2, e1]
            rw [e2] at h4
            omega
        · cases hk
    · obtain ⟨k, hk⟩ := List.mem_iff_getElem?.mp hy
      rw [List.getElem?_drop] at hk
      have hkl : m + k < L.length := (List.getElem?_eq_some_iff.mp hk).1
      have := h3 (m + k) (by omega) hkl
      rw [List.getD_eq_getElem?_getD, hk] at this
      exact this
  rw [e]
  intro k y hy
  by_cases a : k < m
  · rw [List.getElem?_append_left (by rw [List.length_take]; omega), List.getElem?_take, if_pos a] at hy
    rw [h1 k a, List.getD_eq_getElem?_getD, hy]; rfl
  · rw [List.getElem?_append_right (by rw [List.length_take]; omega), List.length_take, Nat.min_eq_left hm] at hy
    by_cases b : k = m
    · subst b
      rw [Nat.sub_self] at hy
      cases hy
      exact hx
    · obtain ⟨j, hj⟩ : ∃ j, k - m = j + 1 := ⟨k - m - 1, by omega⟩
      rw [hj, List.getElem?_cons_succ, List.getElem?_drop] at hy
      have hl2 : m + j < L.length := (List.getElem?_eq_some_iff.mp hy).1
      have := h2 (m + j) (by omega) hl2
      rw [List.getD_eq_getElem?_getD, hy] at this
      rw [show (k : Int) = ((m + j : Nat) : Int) + 1 by omega, this]; rfl
theorem RepL.at {f : Int → Int} {L : List Int} (h : RepL f L) {k : Nat} (hk : k < L.length) : f k = L.getD k 0 := by
  refine h k _ ?_
  rw [List.getD_eq_getElem?_getD, List.getElem?_eq_getElem hk]; rfl
theorem getD_mem {L : List Int} {k : Nat} (hk : k < L.length) : L.getD k 0 ∈ L := by
  rw [List.getD_eq_getElem?_getD, List.getElem?_eq_getElem hk]
  exact List.getElem_mem hk
/-- a target of a kind -/
def tgtQ (nl n : Int) (kd : Int → Int) (k t : Int) : Prop := ((k = 0 ∨ k = 8) ∧ 0 ≤ t ∧ t < nl) ∨ (k = 10 ∧ 0 ≤ t ∧ t < n) ∨ (¬ (k = 0 ∨ k = 8 ∨ k = 10) ∧ (0 ≤ t ∧ t < n) ∧ (kd t = 0 ∨ kd t = 2))
def HNq (k : Int) : Prop := k ≤ 3 ∨ k = 7 ∨ k = 8
def leastQ (k : Int) : Int := if k = 1 then 0 else 1
def mostNQ (k : Int) : Int := if k = 1 then 1 else if k = 3 then 9999 else 200
/-- line's answer by its four tests -/
def LnP (A0 A1 A2 A3 : Prop) (n : Int) (same post : Prop) (z : Int) : Prop := (¬ A0 ∧ z = -1002 ∧ same) ∨ (A0 ∧ ¬ A1 ∧ z = -1001 ∧ same) ∨ (A0 ∧ A1 ∧ ¬ A2 ∧ z = -1002 ∧ same) ∨ (A0 ∧ A1 ∧ A2 ∧ ¬ A3 ∧ z = -1004 ∧ same) ∨ (A0 ∧ A1 ∧ A2 ∧ A3 ∧ z = n ∧ post)
theorem LnP.two {A0 A1 A2 A3 : Prop} {n z z' : Int} {s s' p p' : Prop} (h : LnP A0 A1 A2 A3 n s p z) (h' : LnP A0 A1 A2 A3 n s' p' z') : z' = z ∧ ((s ∧ s') ∨ (A0 ∧ A1 ∧ A2 ∧ A3 ∧ p ∧ p')) := by
  rcases h with ⟨a, b, c⟩ | ⟨a, b, c, d⟩ | ⟨a, b, c, d, e⟩ | ⟨a, b, c, d, e, f⟩ | ⟨a, b, c, d, e, f⟩ <;> rcases h' with ⟨a', b', c'⟩ | ⟨a', b', c', d'⟩ | ⟨a', b', c', d', e'⟩ | ⟨a', b', c', d', e', f'⟩ | ⟨a', b', c', d', e', f'⟩
  all_goals first
    | exact ⟨by omega, Or.inl ⟨by assumption, by assumption⟩⟩
    | exact ⟨by omega, Or.inr ⟨by assumption, by assumption, by assumption, by assumption, by assumption, by assumption⟩⟩
    | contradiction
theorem c_X2_isPaper {v : Int} (hv : rgi v) (hn : 0 ≤ σ 7 9 ∧ σ 7 9 ≤ 120) (hk : ∀ i, 0 ≤ i → i < σ 7 9 → 0 ≤ σ 8 i ∧ σ 8 i ≤ 10) : CI l G M_X2_isPaper 1 [vr 7, vi v] σ (BP ((0 ≤ v ∧ v < σ 7 9) ∧ (σ 8 v = 0 ∨ σ 8 v = 2)) σ) := by
  refine Ct.of rfl (Nat.le_of_ble_eq_true rfl) ?_
  refine x_aload_n (E_X2_isPaper_0 0 rfl) rfl ?_
  refine x_iload_n (E_X2_isPaper_0 1 rfl) rfl ?_
  refine z_callVi (E_X2_isPaper_0 2 rfl) ml_X2_44 mv_X2_has rfl (by decide) (by decide) (c_X2_has (by omega) (by omega)) (by decide) rfl rfl (Nat.le_of_ble_eq_true rfl) (fun z9 τ9 h9 => ?_)
  obtain ⟨rfl, ⟨rfl, c1⟩ | ⟨rfl, c1⟩⟩ := h9
  · refine x_if_eq (E_X2_isPaper_0 3 rfl) (by decide) (fun c9 => absurd c9 (by decide)) (fun _ => ?_)
    have o9 := hk v (by omega) (by omega)
    refine x_aload_n (E_X2_isPaper_0 4 rfl) rfl ?_
    refine x_getR (E_X2_isPaper_0 5 rfl) fl_X2_9 rfl (by decide) rfl ?_
    refine x_iload_n (E_X2_isPaper_0 6 rfl) rfl ?_
    refine x_ialde (f := σ 8) (E_X2_isPaper_0 7 rfl) rfl (by decide) (by omega) rfl ?_
    refine x_if_eq (E_X2_isPaper_0 8 rfl) (by omega) (fun c2 => ?_) (fun c2 => ?_)
    · refine x_iconst (E_X2_isPaper_0 15 rfl) ?_
      refine x_goto (E_X2_isPaper_0 16 rfl) ?_
      refine z_iret (E_X2_isPaper_0 18 rfl) (Or.inr rfl) ?_
      exact ⟨rfl, by first | exact Or.inl ⟨rfl, by omega⟩ | exact Or.inr ⟨rfl, by omega⟩⟩
    · refine x_aload_n (E_X2_isPaper_0 9 rfl) rfl ?_
      refine x_getR (E_X2_isPaper_0 10 rfl) fl_X2_9 rfl (by decide) rfl ?_
      refine x_iload_n (E_X2_isPaper_0 11 rfl) rfl ?_
      refine x_ialde (f := σ 8) (E_X2_isPaper_0 12 rfl) rfl (by decide) (by omega) rfl ?_
      refine x_iconst (E_X2_isPaper_0 13 rfl) ?_
      refine x_icmp_ne (E_X2_isPaper_0 14 rfl) (by omega) (by decide) (fun c3 => ?_) (fun c3 => ?_)
      · refine x_iconst (E_X2_isPaper_0 17 rfl) ?_
        refine z_iret (E_X2_isPaper_0 18 rfl) (Or.inl rfl) ?_
        exact ⟨rfl, by first | exact Or.inl ⟨rfl, by omega⟩ | exact Or.inr ⟨rfl, by omega⟩⟩
      · refine x_iconst (E_X2_isPaper_0 15 rfl) ?_
        refine x_goto (E_X2_isPaper_0 16 rfl) ?_
        refine z_iret (E_X2_isPaper_0 18 rfl) (Or.inr rfl) ?_
        exact ⟨rfl, by first | exact Or.inl ⟨rfl, by omega⟩ | exact Or.inr ⟨rfl, by omega⟩⟩
  · refine x_if_eq (E_X2_isPaper_0 3 rfl) (by decide) (fun _ => ?_) (fun c9 => absurd (by decide) c9)
    refine x_iconst (E_X2_isPaper_0 17 rfl) ?_
    refine z_iret (E_X2_isPaper_0 18 rfl) (Or.inl rfl) ?_
    exact ⟨rfl, by first | exact Or.inl ⟨rfl, by omega⟩ | exact Or.inr ⟨rfl, by omega⟩⟩
theorem c_X11_isPaper {v : Int} (hv : rgi v) (hn : 0 ≤ σ 114 9 ∧ σ 114 9 ≤ 120) (hk : ∀ i, 0 ≤ i → i < σ 114 9 → 0 ≤ σ 122 i ∧ σ 122 i ≤ 10) : CI l G M_X11_isPaper 1 [vr 114, vi v] σ (BP ((0 ≤ v ∧ v < σ 114 9) ∧ (σ 122 v = 0 ∨ σ 122 v = 2)) σ) := by
  refine Ct.of rfl (Nat.le_of_ble_eq_true rfl) ?_
  refine x_iload_n (E_X11_isPaper_0 0 rfl) rfl ?_
  refine x_i2l (E_X11_isPaper_0 1 rfl) (by omega) ?_
  refine x_lconst (z := 0) (E_X11_isPaper_0 2 rfl) rfl ?_
  refine x_aload_n (E_X11_isPaper_0 3 rfl) rfl ?_
  refine x_getIe (v := σ 114 9) (E_X11_isPaper_0 4 rfl) fl_X11_227 rfl (by decide) rfl ?_
  refine x_iconst (E_X11_isPaper_0 5 rfl) ?_
  refine x_isub (E_X11_isPaper_0 6 rfl) ?_
  refine x_i2l (E_X11_isPaper_0 7 rfl) (by omega) ?_
  refine z_callSi (E_X11_isPaper_0 8 rfl) ml_X11_197 ms_X11_in (c_X11_in (by omega) (by omega) (by omega)) (by decide) rfl rfl (Nat.le_of_ble_eq_true rfl) (fun z9 τ9 h9 => ?_)
  obtain ⟨rfl, ⟨rfl, c1⟩ | ⟨rfl, c1⟩⟩ := h9
  · refine x_if_eq (E_X11_isPaper_0 9 rfl) (by decide) (fun c9 => absurd c9 (by decide)) (fun _ => ?_)
    have o9 := hk v (by omega) (by omega)
    refine x_aload_n (E_X11_isPaper_0 10 rfl) rfl ?_
    refine x_getR (E_X11_isPaper_0 11 rfl) fl_X11_31 rfl (by decide) rfl ?_
    refine x_iload_n (E_X11_isPaper_0 12 rfl) rfl ?_
    refine x_ialde (f := σ 122) (E_X11_isPaper_0 13 rfl) rfl (by decide) (by omega) rfl ?_
    refine x_if_eq (E_X11_isPaper_0 14 rfl) (by omega) (fun c2 => ?_) (fun c2 => ?_)
    · refine x_iconst (E_X11_isPaper_0 21 rfl) ?_
      refine x_goto (E_X11_isPaper_0 22 rfl) ?_
      refine z_iret (E_X11_isPaper_0 24 rfl) (Or.inr rfl) ?_
      exact ⟨rfl, by first | exact Or.inl ⟨rfl, by omega⟩ | exact Or.inr ⟨rfl, by omega⟩⟩
    · refine x_aload_n (E_X11_isPaper_0 15 rfl) rfl ?_
      refine x_getR (E_X11_isPaper_0 16 rfl) fl_X11_31 rfl (by decide) rfl ?_
      refine x_iload_n (E_X11_isPaper_0 17 rfl) rfl ?_
      refine x_ialde (f := σ 122) (E_X11_isPaper_0 18 rfl) rfl (by decide) (by omega) rfl ?_
      refine x_iconst (E_X11_isPaper_0 19 rfl) ?_
      refine x_icmp_ne (E_X11_isPaper_0 20 rfl) (by omega) (by decide) (fun c3 => ?_) (fun c3 => ?_)
      · refine x_iconst (E_X11_isPaper_0 23 rfl) ?_
        refine z_iret (E_X11_isPaper_0 24 rfl) (Or.inl rfl) ?_
        exact ⟨rfl, by first | exact Or.inl ⟨rfl, by omega⟩ | exact Or.inr ⟨rfl, by omega⟩⟩
      · refine x_iconst (E_X11_isPaper_0 21 rfl) ?_
        refine x_goto (E_X11_isPaper_0 22 rfl) ?_
        refine z_iret (E_X11_isPaper_0 24 rfl) (Or.inr rfl) ?_
        exact ⟨rfl, by first | exact Or.inl ⟨rfl, by omega⟩ | exact Or.inr ⟨rfl, by omega⟩⟩
  · refine x_if_eq (E_X11_isPaper_0 9 rfl) (by decide) (fun _ => ?_) (fun c9 => absurd (by decide) c9)
    refine x_iconst (E_X11_isPaper_0 23 rfl) ?_
    refine z_iret (E_X11_isPaper_0 24 rfl) (Or.inl rfl) ?_
    exact ⟨rfl, by first | exact Or.inl ⟨rfl, by omega⟩ | exact Or.inr ⟨rfl, by omega⟩⟩

theorem c_X11_hasP {v : Int} (hv : rgi v) : CI l G M_X11_hasP 0 [vi v] σ (BP (v = 0 ∨ v = 1 ∨ v = 3 ∨ v = 5 ∨ v = 9) σ) := by
  refine Ct.of rfl (Nat.le_of_ble_eq_true rfl) ?_
  refine x_iload_n (E_X11_hasP_0 0 rfl) rfl ?_
  refine x_if_eq (E_X11_hasP_0 1 rfl) (by omega) (fun c1 => ?_) (fun c1 => ?_)
  · refine x_iconst (E_X11_hasP_0 14 rfl) ?_
    refine x_goto (E_X11_hasP_0 15 rfl) ?_
    refine z_iret (E_X11_hasP_0 17 rfl) (Or.inr rfl) ?_
    exact ⟨rfl, by first | exact Or.inl ⟨rfl, by omega⟩ | exact Or.inr ⟨rfl, by omega⟩⟩
  · refine x_iload_n (E_X11_hasP_0 2 rfl) rfl ?_
    refine x_iconst (E_X11_hasP_0 3 rfl) ?_
    refine x_icmp_eq (E_X11_hasP_0 4 rfl) (by omega) (by decide) (fun c2 => ?_) (fun c2 => ?_)
    · refine x_iconst (E_X11_hasP_0 14 rfl) ?_
      refine x_goto (E_X11_hasP_0 15 rfl) ?_
      refine z_iret (E_X11_hasP_0 17 rfl) (Or.inr rfl) ?_
      exact ⟨rfl, by first | exact Or.inl ⟨rfl, by omega⟩ | exact Or.inr ⟨rfl, by omega⟩⟩
    · refine x_iload_n (E_X11_hasP_0 5 rfl) rfl ?_
      refine x_iconst (E_X11_hasP_0 6 rfl) ?_
      refine x_icmp_eq (E_X11_hasP_0 7 rfl) (by omega) (by decide) (fun c3 => ?_) (fun c3 => ?_)
      · refine x_iconst (E_X11_hasP_0 14 rfl) ?_
        refine x_goto (E_X11_hasP_0 15 rfl) ?_
        refine z_iret (E_X11_hasP_0 17 rfl) (Or.inr rfl) ?_
        exact ⟨rfl, by first | exact Or.inl ⟨rfl, by omega⟩ | exact Or.inr ⟨rfl, by omega⟩⟩
      · refine x_iload_n (E_X11_hasP_0 8 rfl) rfl ?_
        refine x_iconst (E_X11_hasP_0 9 rfl) ?_
        refine x_icmp_eq (E_X11_hasP_0 10 rfl) (by omega) (by decide) (fun c4 => ?_) (fun c4 => ?_)
        · refine x_iconst (E_X11_hasP_0 14 rfl) ?_
          refine x_goto (E_X11_hasP_0 15 rfl) ?_
          refine z_iret (E_X11_hasP_0 17 rfl) (Or.inr rfl) ?_
          exact ⟨rfl, by first | exact Or.inl ⟨rfl, by omega⟩ | exact Or.inr ⟨rfl, by omega⟩⟩
        · refine x_iload_n (E_X11_hasP_0 11 rfl) rfl ?_
          refine x_bipush (z := 9) (E_X11_hasP_0 12 rfl) (by decide) ?_
          refine x_icmp_ne (E_X11_hasP_0 13 rfl) (by omega) (by decide) (fun c5 => ?_) (fun c5 => ?_)
          · refine x_iconst (E_X11_hasP_0 16 rfl) ?_
            refine z_iret (E_X11_hasP_0 17 rfl) (Or.inl rfl) ?_
            exact ⟨rfl, by first | exact Or.inl ⟨rfl, by omega⟩ | exact Or.inr ⟨rfl, by omega⟩⟩
          · refine x_iconst (E_X11_hasP_0 14 rfl) ?_
            refine x_goto (E_X11_hasP_0 15 rfl) ?_
            refine z_iret (E_X11_hasP_0 17 rfl) (Or.inr rfl) ?_
            exact ⟨rfl, by first | exact Or.inl ⟨rfl, by omega⟩ | exact Or.inr ⟨rfl, by omega⟩⟩

theorem c_X11_isOfLot {v : Int} (hv : rgi v) : CI l G M_X11_isOfLot 0 [vi v] σ (BP (v = 0 ∨ v = 8) σ) := by
  refine Ct.of rfl (Nat.le_of_ble_eq_true rfl) ?_
  refine x_iload_n (E_X11_isOfLot_0 0 rfl) rfl ?_
  refine x_if_eq (E_X11_isOfLot_0 1 rfl) (by omega) (fun c1 => ?_) (fun c1 => ?_)
  · refine x_iconst (E_X11_isOfLot_0 5 rfl) ?_
    refine x_goto (E_X11_isOfLot_0 6 rfl) ?_
    refine z_iret (E_X11_isOfLot_0 8 rfl) (Or.inr rfl) ?_
    exact ⟨rfl, by first | exact Or.inl ⟨rfl, by omega⟩ | exact Or.inr ⟨rfl, by omega⟩⟩
  · refine x_iload_n (E_X11_isOfLot_0 2 rfl) rfl ?_
    refine x_bipush (z := 8) (E_X11_isOfLot_0 3 rfl) (by decide) ?_
    refine x_icmp_ne (E_X11_isOfLot_0 4 rfl) (by omega) (by decide) (fun c2 => ?_) (fun c2 => ?_)
    · refine x_iconst (E_X11_isOfLot_0 7 rfl) ?_
      refine z_iret (E_X11_isOfLot_0 8 rfl) (Or.inl rfl) ?_
      exact ⟨rfl, by first | exact Or.inl ⟨rfl, by omega⟩ | exact Or.inr ⟨rfl, by omega⟩⟩
    · refine x_iconst (E_X11_isOfLot_0 5 rfl) ?_
      refine x_goto (E_X11_isOfLot_0 6 rfl) ?_
      refine z_iret (E_X11_isOfLot_0 8 rfl) (Or.inr rfl) ?_
      exact ⟨rfl, by first | exact Or.inl ⟨rfl, by omega⟩ | exact Or.inr ⟨rfl, by omega⟩⟩

theorem c_X11_hasMany {v : Int} (hv : rgi v) : CI l G M_X11_hasMany 0 [vi v] σ (BP (v ≤ 3 ∨ v = 7 ∨ v = 8) σ) := by
  refine Ct.of rfl (Nat.le_of_ble_eq_true rfl) ?_
  refine x_iload_n (E_X11_hasMany_0 0 rfl) rfl ?_
  refine x_iconst (E_X11_hasMany_0 1 rfl) ?_
  refine x_icmp_le (E_X11_hasMany_0 2 rfl) (by omega) (by decide) (fun c1 => ?_) (fun c1 => ?_)
  · refine x_iconst (E_X11_hasMany_0 9 rfl) ?_
    refine x_goto (E_X11_hasMany_0 10 rfl) ?_
    refine z_iret (E_X11_hasMany_0 12 rfl) (Or.inr rfl) ?_
    exact ⟨rfl, by first | exact Or.inl ⟨rfl, by omega⟩ | exact Or.inr ⟨rfl, by omega⟩⟩
  · refine x_iload_n (E_X11_hasMany_0 3 rfl) rfl ?_
    refine x_bipush (z := 7) (E_X11_hasMany_0 4 rfl) (by decide) ?_
    refine x_icmp_eq (E_X11_hasMany_0 5 rfl) (by omega) (by decide) (fun c2 => ?_) (fun c2 => ?_)
    · refine x_iconst (E_X11_hasMany_0 9 rfl) ?_
      refine x_goto (E_X11_hasMany_0 10 rfl) ?_
      refine z_iret (E_X11_hasMany_0 12 rfl) (Or.inr rfl) ?_
      exact ⟨rfl, by first | exact Or.inl ⟨rfl, by omega⟩ | exact Or.inr ⟨rfl, by omega⟩⟩
    · refine x_iload_n (E_X11_hasMany_0 6 rfl) rfl ?_
      refine x_bipush (z := 8) (E_X11_hasMany_0 7 rfl) (by decide) ?_
      refine x_icmp_ne (E_X11_hasMany_0 8 rfl) (by omega) (by decide) (fun c3 => ?_) (fun c3 => ?_)
      · refine x_iconst (E_X11_hasMany_0 11 rfl) ?_
        refine z_iret (E_X11_hasMany_0 12 rfl) (Or.inl rfl) ?_
        exact ⟨rfl, by first | exact Or.inl ⟨rfl, by omega⟩ | exact Or.inr ⟨rfl, by omega⟩⟩
      · refine x_iconst (E_X11_hasMany_0 9 rfl) ?_
        refine x_goto (E_X11_hasMany_0 10 rfl) ?_
        refine z_iret (E_X11_hasMany_0 12 rfl) (Or.inr rfl) ?_
        exact ⟨rfl, by first | exact Or.inl ⟨rfl, by omega⟩ | exact Or.inr ⟨rfl, by omega⟩⟩

theorem c_X11_mostOf {v : Int} (hv : rgi v) : CI l G M_X11_mostOf 0 [vi v] σ (IP (mostNQ v) σ) := by
  refine Ct.of rfl (Nat.le_of_ble_eq_true rfl) ?_
  refine x_iload_n (E_X11_mostOf_0 0 rfl) rfl ?_
  refine x_iconst (E_X11_mostOf_0 1 rfl) ?_
  refine x_icmp_ne (E_X11_mostOf_0 2 rfl) (by omega) (by decide) (fun c1 => ?_) (fun c1 => ?_)
  · refine x_iload_n (E_X11_mostOf_0 5 rfl) rfl ?_
    refine x_iconst (E_X11_mostOf_0 6 rfl) ?_
    refine x_icmp_ne (E_X11_mostOf_0 7 rfl) (by omega) (by decide) (fun c2 => ?_) (fun c2 => ?_)
    · refine x_sipush (z := 200) (E_X11_mostOf_0 10 rfl) (by decide) ?_
      refine z_iret (E_X11_mostOf_0 11 rfl) trivial ?_
      exact ⟨by unfold mostNQ; omega, rfl⟩
    · refine x_sipush (z := 9999) (E_X11_mostOf_0 8 rfl) (by decide) ?_
      refine x_goto (E_X11_mostOf_0 9 rfl) ?_
      refine z_iret (E_X11_mostOf_0 11 rfl) trivial ?_
      exact ⟨by unfold mostNQ; omega, rfl⟩
  · refine x_iconst (E_X11_mostOf_0 3 rfl) ?_
    refine x_goto (E_X11_mostOf_0 4 rfl) ?_
    refine z_iret (E_X11_mostOf_0 11 rfl) trivial ?_
    exact ⟨by unfold mostNQ; omega, rfl⟩

theorem c_X10_isTarget {k t : Int} (hk1 : rgi k) (ht : rgi t) (h0 : 0 ≤ σ 1 5 ∧ σ 1 5 ≤ 12) (hn : 0 ≤ σ 7 9 ∧ σ 7 9 ≤ 120) (hk : ∀ i, 0 ≤ i → i < σ 7 9 → 0 ≤ σ 8 i ∧ σ 8 i ≤ 10) : CI l G M_X10_isTarget 2 [vr 0, vi k, vi t] σ (BP (tgtQ (σ 1 5) (σ 7 9) (σ 8) k t) σ) := by
  refine Ct.of rfl (Nat.le_of_ble_eq_true rfl) ?_
  refine x_iload_n (E_X10_isTarget_0 0 rfl) rfl ?_
  refine x_if_eq (E_X10_isTarget_0 1 rfl) (by omega) (fun c1 => ?_) (fun c1 => ?_)
  · refine x_aload_n (E_X10_isTarget_0 5 rfl) rfl ?_
    refine x_getR (E_X10_isTarget_0 6 rfl) fl_X10_16 rfl (by decide) rfl ?_
    refine x_iload_n (E_X10_isTarget_0 7 rfl) rfl ?_
    refine z_callVi (E_X10_isTarget_0 8 rfl) ml_X10_121 mv_X3_has rfl (by decide) (by decide) (c_X3_has (by omega) (by omega)) (by decide) rfl rfl (Nat.le_of_ble_eq_true rfl) (fun z9 τ9 h9 => ?_)
    obtain ⟨rfl, ⟨rfl, c2⟩ | ⟨rfl, c2⟩⟩ := h9
    · refine z_iret (E_X10_isTarget_0 9 rfl) (Or.inr rfl) ?_
      exact ⟨rfl, by unfold tgtQ; first | exact Or.inl ⟨rfl, by omega⟩ | exact Or.inr ⟨rfl, by omega⟩⟩
    · refine z_iret (E_X10_isTarget_0 9 rfl) (Or.inl rfl) ?_
      exact ⟨rfl, by unfold tgtQ; first | exact Or.inl ⟨rfl, by omega⟩ | exact Or.inr ⟨rfl, by omega⟩⟩
  · refine x_iload_n (E_X10_isTarget_0 2 rfl) rfl ?_
    refine x_bipush (z := 8) (E_X10_isTarget_0 3 rfl) (by decide) ?_
    refine x_icmp_ne (E_X10_isTarget_0 4 rfl) (by omega) (by decide) (fun c3 => ?_) (fun c3 => ?_)
    · refine x_iload_n (E_X10_isTarget_0 10 rfl) rfl ?_
      refine x_bipush (z := 10) (E_X10_isTarget_0 11 rfl) (by decide) ?_
      refine x_icmp_ne (E_X10_isTarget_0 12 rfl) (by omega) (by decide) (fun c4 => ?_) (fun c4 => ?_)
      · refine x_aload_n (E_X10_isTarget_0 18 rfl) rfl ?_
        refine x_getR (E_X10_isTarget_0 19 rfl) fl_X10_23 rfl (by decide) rfl ?_
        refine x_iload_n (E_X10_isTarget_0 20 rfl) rfl ?_
        refine z_callVi (E_X10_isTarget_0 21 rfl) ml_X10_232 mv_X2_isPaper rfl (by decide) (by decide) (c_X2_isPaper (by omega) (by omega) hk) (by decide) rfl rfl (Nat.le_of_ble_eq_true rfl) (fun z9 τ9 h9 => ?_)
        obtain ⟨rfl, ⟨rfl, c5⟩ | ⟨rfl, c5⟩⟩ := h9
        · refine z_iret (E_X10_isTarget_0 22 rfl) (Or.inr rfl) ?_
          exact ⟨rfl, by unfold tgtQ; first | exact Or.inl ⟨rfl, by omega⟩ | exact Or.inr ⟨rfl, by omega⟩⟩
        · refine z_iret (E_X10_isTarget_0 22 rfl) (Or.inl rfl) ?_
          exact ⟨rfl, by unfold tgtQ; first | exact Or.inl ⟨rfl, by omega⟩ | exact Or.inr ⟨rfl, by omega⟩⟩
      · refine x_aload_n (E_X10_isTarget_0 13 rfl) rfl ?_
        refine x_getR (E_X10_isTarget_0 14 rfl) fl_X10_23 rfl (by decide) rfl ?_
        refine x_iload_n (E_X10_isTarget_0 15 rfl) rfl ?_
        refine z_callVi (E_X10_isTarget_0 16 rfl) ml_X10_144 mv_X2_has rfl (by decide) (by decide) (c_X2_has (by omega) (by omega)) (by decide) rfl rfl (Nat.le_of_ble_eq_true rfl) (fun z9 τ9 h9 => ?_)
        obtain ⟨rfl, ⟨rfl, c6⟩ | ⟨rfl, c6⟩⟩ := h9
        · refine x_goto (E_X10_isTarget_0 17 rfl) ?_
          refine z_iret (E_X10_isTarget_0 22 rfl) (Or.inr rfl) ?_
          exact ⟨rfl, by unfold tgtQ; first | exact Or.inl ⟨rfl, by omega⟩ | exact Or.inr ⟨rfl, by omega⟩⟩
        · refine x_goto (E_X10_isTarget_0 17 rfl) ?_
          refine z_iret (E_X10_isTarget_0 22 rfl) (Or.inl rfl) ?_
          exact ⟨rfl, by unfold tgtQ; first | exact Or.inl ⟨rfl, by omega⟩ | exact Or.inr ⟨rfl, by omega⟩⟩
    · refine x_aload_n (E_X10_isTarget_0 5 rfl) rfl ?_
      refine x_getR (E_X10_isTarget_0 6 rfl) fl_X10_16 rfl (by decide) rfl ?_
      refine x_iload_n (E_X10_isTarget_0 7 rfl) rfl ?_
      refine z_callVi (E_X10_isTarget_0 8 rfl) ml_X10_121 mv_X3_has rfl (by decide) (by decide) (c_X3_has (by omega) (by omega)) (by decide) rfl rfl (Nat.le_of_ble_eq_true rfl) (fun z9 τ9 h9 => ?_)
      obtain ⟨rfl, ⟨rfl, c7⟩ | ⟨rfl, c7⟩⟩ := h9
      · refine z_iret (E_X10_isTarget_0 9 rfl) (Or.inr rfl) ?_
        exact ⟨rfl, by unfold tgtQ; first | exact Or.inl ⟨rfl, by omega⟩ | exact Or.inr ⟨rfl, by omega⟩⟩
      · refine z_iret (E_X10_isTarget_0 9 rfl) (Or.inl rfl) ?_
        exact ⟨rfl, by unfold tgtQ; first | exact Or.inl ⟨rfl, by omega⟩ | exact Or.inr ⟨rfl, by omega⟩⟩

theorem c_X11_noTarget {k t : Int} (hk1 : rgi k) (ht : rgi t) (h0 : 0 ≤ σ 114 1 ∧ σ 114 1 ≤ 12) (hn : 0 ≤ σ 114 9 ∧ σ 114 9 ≤ 120) (hk : ∀ i, 0 ≤ i → i < σ 114 9 → 0 ≤ σ 122 i ∧ σ 122 i ≤ 10) : CI l G M_X11_noTarget 2 [vr 114, vi k, vi t] σ (BP (¬ tgtQ (σ 114 1) (σ 114 9) (σ 122) k t) σ) := by
  refine Ct.of rfl (Nat.le_of_ble_eq_true rfl) ?_
  refine x_iload_n (E_X11_noTarget_0 0 rfl) rfl ?_
  refine z_callSi (E_X11_noTarget_0 1 rfl) ml_X11_230 ms_X11_isOfLot (c_X11_isOfLot (by omega)) (by decide) rfl rfl (Nat.le_of_ble_eq_true rfl) (fun z9 τ9 h9 => ?_)
  obtain ⟨rfl, ⟨rfl, c1⟩ | ⟨rfl, c1⟩⟩ := h9
  · refine x_if_eq (E_X11_noTarget_0 2 rfl) (by decide) (fun c9 => absurd c9 (by decide)) (fun _ => ?_)
    refine x_aload_n (E_X11_noTarget_0 3 rfl) rfl ?_
    refine x_iload_n (E_X11_noTarget_0 4 rfl) rfl ?_
    refine z_callVi (E_X11_noTarget_0 5 rfl) ml_X11_224 mv_X11_noLot rfl (by decide) (by decide) (c_X11_noLot (by omega) (by omega)) (by decide) rfl rfl (Nat.le_of_ble_eq_true rfl) (fun z9 τ9 h9 => ?_)
    obtain ⟨rfl, ⟨rfl, c2⟩ | ⟨rfl, c2⟩⟩ := h9
    · refine x_goto (E_X11_noTarget_0 6 rfl) ?_
      refine z_iret (E_X11_noTarget_0 31 rfl) (Or.inr rfl) ?_
      exact ⟨rfl, by unfold tgtQ; first | exact Or.inl ⟨rfl, by omega⟩ | exact Or.inr ⟨rfl, by omega⟩⟩
    · refine x_goto (E_X11_noTarget_0 6 rfl) ?_
      refine z_iret (E_X11_noTarget_0 31 rfl) (Or.inl rfl) ?_
      exact ⟨rfl, by unfold tgtQ; first | exact Or.inl ⟨rfl, by omega⟩ | exact Or.inr ⟨rfl, by omega⟩⟩
  · refine x_if_eq (E_X11_noTarget_0 2 rfl) (by decide) (fun _ => ?_) (fun c9 => absurd (by decide) c9)
    refine x_iload_n (E_X11_noTarget_0 7 rfl) rfl ?_
    refine x_bipush (z := 10) (E_X11_noTarget_0 8 rfl) (by decide) ?_
    refine x_icmp_ne (E_X11_noTarget_0 9 rfl) (by omega) (by decide) (fun c3 => ?_) (fun c3 => ?_)
    · refine x_aload_n (E_X11_noTarget_0 24 rfl) rfl ?_
      refine x_iload_n (E_X11_noTarget_0 25 rfl) rfl ?_
      refine z_callVi (E_X11_noTarget_0 26 rfl) ml_X11_233 mv_X11_isPaper rfl (by decide) (by decide) (c_X11_isPaper (by omega) (by omega) hk) (by decide) rfl rfl (Nat.le_of_ble_eq_true rfl) (fun z9 τ9 h9 => ?_)
      obtain ⟨rfl, ⟨rfl, c4⟩ | ⟨rfl, c4⟩⟩ := h9
      · refine x_if_ne (E_X11_noTarget_0 27 rfl) (by decide) (fun _ => ?_) (fun c9 => absurd c9 (by decide))
        refine x_iconst (E_X11_noTarget_0 30 rfl) ?_
        refine z_iret (E_X11_noTarget_0 31 rfl) (Or.inl rfl) ?_
        exact ⟨rfl, by unfold tgtQ; first | exact Or.inl ⟨rfl, by omega⟩ | exact Or.inr ⟨rfl, by omega⟩⟩
      · refine x_if_ne (E_X11_noTarget_0 27 rfl) (by decide) (fun c9 => absurd c9 (by decide)) (fun _ => ?_)
        refine x_iconst (E_X11_noTarget_0 28 rfl) ?_
        refine x_goto (E_X11_noTarget_0 29 rfl) ?_
        refine z_iret (E_X11_noTarget_0 31 rfl) (Or.inr rfl) ?_
        exact ⟨rfl, by unfold tgtQ; first | exact Or.inl ⟨rfl, by omega⟩ | exact Or.inr ⟨rfl, by omega⟩⟩
    · refine x_iload_n (E_X11_noTarget_0 10 rfl) rfl ?_
      refine x_i2l (E_X11_noTarget_0 11 rfl) (by omega) ?_
      refine x_lconst (z := 0) (E_X11_noTarget_0 12 rfl) rfl ?_
      refine x_aload_n (E_X11_noTarget_0 13 rfl) rfl ?_
      refine x_getIe (v := σ 114 9) (E_X11_noTarget_0 14 rfl) fl_X11_227 rfl (by decide) rfl ?_
      refine x_iconst (E_X11_noTarget_0 15 rfl) ?_
      refine x_isub (E_X11_noTarget_0 16 rfl) ?_
      refine x_i2l (E_X11_noTarget_0 17 rfl) (by omega) ?_
      refine z_callSi (E_X11_noTarget_0 18 rfl) ml_X11_197 ms_X11_in (c_X11_in (by omega) (by omega) (by omega)) (by decide) rfl rfl (Nat.le_of_ble_eq_true rfl) (fun z9 τ9 h9 => ?_)
      obtain ⟨rfl, ⟨rfl, c5⟩ | ⟨rfl, c5⟩⟩ := h9
      · refine x_if_ne (E_X11_noTarget_0 19 rfl) (by decide) (fun _ => ?_) (fun c9 => absurd c9 (by decide))
        refine x_iconst (E_X11_noTarget_0 22 rfl) ?_
        refine x_goto (E_X11_noTarget_0 23 rfl) ?_
        refine z_iret (E_X11_noTarget_0 31 rfl) (Or.inl rfl) ?_
        exact ⟨rfl, by unfold tgtQ; first | exact Or.inl ⟨rfl, by omega⟩ | exact Or.inr ⟨rfl, by omega⟩⟩
      · refine x_if_ne (E_X11_noTarget_0 19 rfl) (by decide) (fun c9 => absurd c9 (by decide)) (fun _ => ?_)
        refine x_iconst (E_X11_noTarget_0 20 rfl) ?_
        refine x_goto (E_X11_noTarget_0 21 rfl) ?_
        refine z_iret (E_X11_noTarget_0 31 rfl) (Or.inr rfl) ?_
        exact ⟨rfl, by unfold tgtQ; first | exact Or.inl ⟨rfl, by omega⟩ | exact Or.inr ⟨rfl, by omega⟩⟩

set_option maxHeartbeats 4000000 in
theorem c_X2_add {a1 a2 a3 a4 a5 a6 a7 : Int} (h2 : rgi a2) (hn : 0 ≤ σ 7 9 ∧ σ 7 9 < 120) (hdy : ∀ i, 0 ≤ i → i < σ 7 9 → 0 ≤ σ 9 i ∧ σ 9 i ≤ 2000) (ho : RepL (σ 15) (srtL (σ 9) (fun _ => true) (σ 7 9).toNat)) : CI l G M_X2_add 0 [vr 7, vi a1, vi a2, vi a3, vi a4, vi a5, vi a6, vi a7] σ (fun z τ => z = σ 7 9 ∧ (τ 8 = (fun k => if k = σ 7 9 then a1 else σ 8 k) ∧ τ 9 = (fun k => if k = σ 7 9 then a2 else σ 9 k) ∧ τ 10 = (fun k => if k = σ 7 9 then a3 else σ 10 k) ∧ τ 11 = (fun k => if k = σ 7 9 then a4 else σ 11 k) ∧ τ 12 = (fun k => if k = σ 7 9 then a5 else σ 12 k) ∧ τ 13 = (fun k => if k = σ 7 9 then a6 else σ 13 k) ∧ τ 14 = (fun k => if k = σ 7 9 then a7 else σ 14 k)) ∧ τ 7 9 = σ 7 9 + 1 ∧ RepL (τ 15) (srtL (τ 9) (fun _ => true) (σ 7 9 + 1).toNat) ∧ Fr [7, 8, 9, 10, 11, 12, 13, 14, 15] σ τ ∧ Fo 7 [9] σ τ) := by
  have hlen : (srtL (σ 9) (fun _ => true) (σ 7 9).toNat).length = (σ 7 9).toNat := srtL_len
  have hmem : ∀ k : Nat, k < (σ 7 9).toNat → 0 ≤ (srtL (σ 9) (fun _ => true) (σ 7 9).toNat).getD k 0 ∧ (srtL (σ 9) (fun _ => true) (σ 7 9).toNat).getD k 0 < σ 7 9 := fun k hk => by
    have := srtL_mem.mp (getD_mem (L := srtL (σ 9) (fun _ => true) (σ 7 9).toNat) (k := k) (by omega))
    omega
  refine Ct.of rfl (Nat.le_of_ble_eq_true rfl) ?_
  have loop : ∀ (m : Nat) (pl : Int) (τ : Nat → Int → Int), pl = m → m ≤ (σ 7 9).toNat → Fr [15] (upq (upq (upq (upq (upq (upq (upq σ 8 (σ 7 9) a1) 9 (σ 7 9) a2) 10 (σ 7 9) a3) 11 (σ 7 9) a4) 12 (σ 7 9) a5) 13 (σ 7 9) a6) 14 (σ 7 9) a7) τ → (∀ k : Nat, k < m → τ 15 k = (srtL (σ 9) (fun _ => true) (σ 7 9).toNat).getD k 0) → (∀ k : Nat, m ≤ k → k < (σ 7 9).toNat → τ 15 ((k : Int) + 1) = (srtL (σ 9) (fun _ => true) (σ 7 9).toNat).getD k 0 ∧ a2 < σ 9 ((srtL (σ 9) (fun _ => true) (σ 7 9).toNat).getD k 0)) → XI l G M_X2_add 0 70 [some (vr 7), some (vi a1), some (vi a2), some (vi a3), some (vi a4), some (vi a5), some (vi a6), some (vi a7), some (vi (σ 7 9)), some (vi pl)] [] τ (fun z τ => z = σ 7 9 ∧ (τ 8 = (fun k => if k = σ 7 9 then a1 else σ 8 k) ∧ τ 9 = (fun k => if k = σ 7 9 then a2 else σ 9 k) ∧ τ 10 = (fun k => if k = σ 7 9 then a3 else σ 10 k) ∧ τ 11 = (fun k => if k = σ 7 9 then a4 else σ 11 k) ∧ τ 12 = (fun k => if k = σ 7 9 then a5 else σ 12 k) ∧ τ 13 = (fun k => if k = σ 7 9 then a6 else σ 13 k) ∧ τ 14 = (fun k => if k = σ 7 9 then a7 else σ 14 k)) ∧ τ 7 9 = σ 7 9 + 1 ∧ RepL (τ 15) (srtL (τ 9) (fun _ => true) (σ 7 9 + 1).toNat) ∧ Fr [7, 8, 9, 10, 11, 12, 13, 14, 15] σ τ ∧ Fo 7 [9] σ τ) := by
    intro m
    induction m using Nat.strongRecOn with
    | _ m ih =>
    intro pl τ hpl hm hF hI1 hI2
    have e7 : τ 7 = σ 7 := hF 7 (by decide)
    have e9 : τ 9 = fun k => if k = σ 7 9 then a2 else σ 9 k := hF 9 (by decide)
    have exit : (m = 0 ∨ τ 9 (τ 15 (pl - 1)) ≤ a2) → XI l G M_X2_add 0 115 [some (vr 7), some (vi a1), some (vi a2), some (vi a3), some (vi a4), some (vi a5), some (vi a6), some (vi a7), some (vi (σ 7 9)), some (vi pl)] [] τ (fun z τ => z = σ 7 9 ∧ (τ 8 = (fun k => if k = σ 7 9 then a1 else σ 8 k) ∧ τ 9 = (fun k => if k = σ 7 9 then a2 else σ 9 k) ∧ τ 10 = (fun k => if k = σ 7 9 then a3 else σ 10 k) ∧ τ 11 = (fun k => if k = σ 7 9 then a4 else σ 11 k) ∧ τ 12 = (fun k => if k = σ 7 9 then a5 else σ 12 k) ∧ τ 13 = (fun k => if k = σ 7 9 then a6 else σ 13 k) ∧ τ 14 = (fun k => if k = σ 7 9 then a7 else σ 14 k)) ∧ τ 7 9 = σ 7 9 + 1 ∧ RepL (τ 15) (srtL (τ 9) (fun _ => true) (σ 7 9 + 1).toNat) ∧ Fr [7, 8, 9, 10, 11, 12, 13, 14, 15] σ τ ∧ Fo 7 [9] σ τ) := by
      intro hx
      refine x_aload_n (E_X2_add_1 5 rfl) rfl ?_
      refine x_getR (E_X2_add_1 6 rfl) fl_X2_33 rfl (by decide) rfl ?_
      refine x_iload (E_X2_add_1 7 rfl) rfl ?_
      refine x_iload (E_X2_add_1 8 rfl) rfl ?_
      refine x_iast (E_X2_add_1 9 rfl) rfl (by decide) (by omega) ?_
      refine x_aload_n (E_X2_add_1 10 rfl) rfl ?_
      refine x_dupr (E_X2_add_1 11 rfl) ?_
      refine x_getIe (v := τ 7 9) (E_X2_add_1 12 rfl) fl_X2_40 rfl (by decide) rfl ?_
      refine x_iconst (E_X2_add_1 13 rfl) ?_
      refine x_iadd (E_X2_add_1 14 rfl) ?_
      refine x_putI (E_X2_add_1 15 rfl) fl_X2_40 rfl (by decide) ?_
      refine x_iload (E_X2_add_1 16 rfl) rfl ?_
      refine z_iret (E_X2_add_1 17 rfl) trivial ?_
      refine ⟨rfl, ⟨hF 8 (by decide), e9, hF 10 (by decide), hF 11 (by decide), hF 12 (by decide), hF 13 (by decide), hF 14 (by decide)⟩, ?_, ?_, ?_, ?_⟩
      · show τ 7 9 + 1 = σ 7 9 + 1
        rw [e7]
      · have es : srtL (fun k => if k = σ 7 9 then a2 else σ 9 k) (fun _ => true) (σ 7 9).toNat = srtL (σ 9) (fun _ => true) (σ 7 9).toNat := srtL_cong (fun i q1 q2 => ⟨if_neg (by omega), rfl⟩)
        show RepL (fun k => if k = pl then σ 7 9 else τ 15 k) (srtL (τ 9) (fun _ => true) (σ 7 9 + 1).toNat)
        rw [e9, show (σ 7 9 + 1).toNat = (σ 7 9).toNat + 1 by omega]
        show RepL _ (if true = true then insL _ _ (srtL (fun k => if k = σ 7 9 then a2 else σ 9 k) (fun _ => true) (σ 7 9).toNat) else _)
        rw [if_pos rfl, es, show (((σ 7 9).toNat : Nat) : Int) = σ 7 9 by omega]
        have hkx : ∀ k : Nat, k < (σ 7 9).toNat → (fun k => if k = σ 7 9 then a2 else σ 9 k) ((srtL (σ 9) (fun _ => true) (σ 7 9).toNat).getD k 0) = σ 9 ((srtL (σ 9) (fun _ => true) (σ 7 9).toNat).getD k 0) := fun k hk => if_neg (by have := hmem k hk; omega)
        refine ins_rep (m := m) (by omega) (fun k hk => ?_) (if_pos (by omega)) (fun k h3 h4 => ?_) (fun k h3 h4 => ?_) ?_ ?_
        · rw [if_neg (by omega)]; exact hI1 k hk
        · rw [if_neg (by omega)]; exact (hI2 k h3 (by omega)).1
        · have w := hkx k (by omega)
          have w2 := (hI2 k h3 (by omega)).2
          rw [← w] at w2
          exact lt_of_eq_of_lt' (if_pos rfl) w2
        · rcases hx with hx | hx
          · exact Or.inl hx
          · by_cases em : m = 0
            · exact Or.inl em
            · refine Or.inr ?_
              have q1 := hI1 (m - 1) (by omega)
              rw [show ((m - 1 : Nat) : Int) = pl - 1 by omega] at q1
              rw [e9, q1] at hx
              show _ ≤ (if σ 7 9 = σ 7 9 then a2 else _)
              rw [if_pos rfl]; exact hx
        · rw [← es]; exact srtL_sorted
      · refine (Fr.up (Fr.up ?_ (by decide)) (by decide))
        exact Fr.trans (cs := [8, 9, 10, 11, 12, 13, 14]) (((((((Fr.rf.up (by decide)).up (by decide)).up (by decide)).up (by decide)).up (by decide)).up (by decide)).up (by decide)) hF (by decide) (by decide)
      · refine Fo.up (Fo.un ?_ (by decide)) (by decide)
        exact fun j _ => by rw [e7]
    refine x_iload (E_X2_add_0 40 rfl) rfl ?_
    refine x_if_le (E_X2_add_0 41 rfl) (by omega) (fun c1 => ?_) (fun c1 => ?_)
    · exact exit (by omega)
    · have q9 := hI1 (m - 1) (by omega)
      rw [show ((m - 1 : Nat) : Int) = pl - 1 by omega] at q9
      have w9 := hmem (m - 1) (by omega)
      have w8 := hdy _ w9.1 w9.2
      have w7 : τ 9 (τ 15 (pl - 1)) = σ 9 (τ 15 (pl - 1)) := by rw [e9]; exact if_neg (by rw [q9]; omega)
      rw [← q9] at w9 w8
      refine x_aload_n (E_X2_add_0 42 rfl) rfl ?_
      refine x_getR (E_X2_add_0 43 rfl) fl_X2_15 rfl (by decide) rfl ?_
      refine x_aload_n (E_X2_add_0 44 rfl) rfl ?_
      refine x_getR (E_X2_add_0 45 rfl) fl_X2_33 rfl (by decide) rfl ?_
      refine x_iload (E_X2_add_0 46 rfl) rfl ?_
      refine x_iconst (E_X2_add_0 47 rfl) ?_
      refine x_isub (E_X2_add_0 48 rfl) ?_
      refine x_ialde (f := τ 15) (E_X2_add_0 49 rfl) rfl (by decide) (by omega) rfl ?_
      refine x_ialde (f := τ 9) (E_X2_add_0 50 rfl) rfl (by decide) (by omega) rfl ?_
      refine x_iload_n (E_X2_add_0 51 rfl) rfl ?_
      refine x_icmp_le (E_X2_add_0 52 rfl) (by rw [w7]; omega) (by omega) (fun c2 => ?_) (fun c2 => ?_)
      · exact exit (by omega)
      · refine x_aload_n (E_X2_add_0 53 rfl) rfl ?_
        refine x_getR (E_X2_add_0 54 rfl) fl_X2_33 rfl (by decide) rfl ?_
        refine x_iload (E_X2_add_0 55 rfl) rfl ?_
        refine x_aload_n (E_X2_add_0 56 rfl) rfl ?_
        refine x_getR (E_X2_add_0 57 rfl) fl_X2_33 rfl (by decide) rfl ?_
        refine x_iload (E_X2_add_0 58 rfl) rfl ?_
        refine x_iconst (E_X2_add_0 59 rfl) ?_
        refine x_isub (E_X2_add_1 0 rfl) ?_
        refine x_ialde (f := τ 15) (E_X2_add_1 1 rfl) rfl (by decide) (by omega) rfl ?_
        refine x_iast (E_X2_add_1 2 rfl) rfl (by decide) (by omega) ?_
        refine x_iinc (E_X2_add_1 3 rfl) rfl rfl ?_
        refine x_goto (E_X2_add_1 4 rfl) ?_
        refine ih (m - 1) (by omega) _ _ (by omega) (by omega) (hF.up (by decide)) (fun k hk => ?_) (fun k h3 h4 => ?_)
        · show (if (k : Int) = pl then _ else τ 15 k) = _
          rw [if_neg (by omega)]; exact hI1 k (by omega)
        · show (if (k : Int) + 1 = pl then τ 15 (pl - 1) else τ 15 ((k : Int) + 1)) = _ ∧ _
          by_cases ek : k = m - 1
          · subst ek
            rw [if_pos (by omega), q9]
            refine ⟨rfl, ?_⟩
            rw [← q9, ← w7]; omega
          · rw [if_neg (by omega)]; exact hI2 k (by omega) h4
  refine x_aload_n (E_X2_add_0 0 rfl) rfl ?_
  refine x_getIe (v := σ 7 9) (E_X2_add_0 1 rfl) fl_X2_40 rfl (by decide) rfl ?_
  refine x_istore (E_X2_add_0 2 rfl) rfl ?_
  refine x_aload_n (E_X2_add_0 3 rfl) rfl ?_
  refine x_getR (E_X2_add_0 4 rfl) fl_X2_9 rfl (by decide) rfl ?_
  refine x_iload (E_X2_add_0 5 rfl) rfl ?_
  refine x_iload_n (E_X2_add_0 6 rfl) rfl ?_
  refine x_iast (E_X2_add_0 7 rfl) rfl (by decide) (by omega) ?_
  refine x_aload_n (E_X2_add_0 8 rfl) rfl ?_
  refine x_getR (E_X2_add_0 9 rfl) fl_X2_15 rfl (by decide) rfl ?_
  refine x_iload (E_X2_add_0 10 rfl) rfl ?_
  refine x_iload_n (E_X2_add_0 11 rfl) rfl ?_
  refine x_iast (E_X2_add_0 12 rfl) rfl (by decide) (by omega) ?_
  refine x_aload_n (E_X2_add_0 13 rfl) rfl ?_
  refine x_getR (E_X2_add_0 14 rfl) fl_X2_18 rfl (by decide) rfl ?_
  refine x_iload (E_X2_add_0 15 rfl) rfl ?_
  refine x_iload_n (E_X2_add_0 16 rfl) rfl ?_
  refine x_iast (E_X2_add_0 17 rfl) rfl (by decide) (by omega) ?_
  refine x_aload_n (E_X2_add_0 18 rfl) rfl ?_
  refine x_getR (E_X2_add_0 19 rfl) fl_X2_21 rfl (by decide) rfl ?_
  refine x_iload (E_X2_add_0 20 rfl) rfl ?_
  refine x_iload (E_X2_add_0 21 rfl) rfl ?_
  refine x_iast (E_X2_add_0 22 rfl) rfl (by decide) (by omega) ?_
  refine x_aload_n (E_X2_add_0 23 rfl) rfl ?_
  refine x_getR (E_X2_add_0 24 rfl) fl_X2_24 rfl (by decide) rfl ?_
  refine x_iload (E_X2_add_0 25 rfl) rfl ?_
  refine x_iload (E_X2_add_0 26 rfl) rfl ?_
  refine x_iast (E_X2_add_0 27 rfl) rfl (by decide) (by omega) ?_
  refine x_aload_n (E_X2_add_0 28 rfl) rfl ?_
  refine x_getR (E_X2_add_0 29 rfl) fl_X2_27 rfl (by decide) rfl ?_
  refine x_iload (E_X2_add_0 30 rfl) rfl ?_
  refine x_iload (E_X2_add_0 31 rfl) rfl ?_
  refine x_iast (E_X2_add_0 32 rfl) rfl (by decide) (by omega) ?_
  refine x_aload_n (E_X2_add_0 33 rfl) rfl ?_
  refine x_getR (E_X2_add_0 34 rfl) fl_X2_30 rfl (by decide) rfl ?_
  refine x_iload (E_X2_add_0 35 rfl) rfl ?_
  refine x_iload (E_X2_add_0 36 rfl) rfl ?_
  refine x_iast (E_X2_add_0 37 rfl) rfl (by decide) (by omega) ?_
  refine x_iload (E_X2_add_0 38 rfl) rfl ?_
  refine x_istore (E_X2_add_0 39 rfl) rfl ?_
  exact loop (σ 7 9).toNat _ _ (by omega) (Nat.le_refl _) Fr.rf (fun k hk => ho.at (by omega)) (fun k q1 q2 => absurd q2 (by omega))

theorem x_ialdSe {M : MI} {R : Room} {pc nx tg : Nat} {L : List (Option AV)} {st : List AV} {S : WS} {ca sl : Nat} {Q : Option AV → WS → Prop} {i : Nat} {z v : Int} {q : String × String × List Int} (hd : dok M.2.1 (pc, .iaload, 1, nx, tg)) (hq : stq[i]? = some q) (hz : 0 ≤ z ∧ z < q.2.2.length) (hln : q.2.2.length < 100) (hv : v = q.2.2.getD z.toNat 0) (kk : RunX l G M R nx L (vi v :: st) S ca sl Q) : RunX l G M R pc L (vi z :: vr (1000 + i) :: st) S ca sl Q := by
  subst hv
  exact x_ialdS hd hq hz hln kk
theorem tabP {k : Int} (h : 0 ≤ k ∧ k ≤ 10) : ∃ v, v = ([1, 1, 0, 1, 0, 1, 0, 0, 0, 1, 0] : List Int).getD k.toNat 0 ∧ ((v = 1 ∧ (k = 0 ∨ k = 1 ∨ k = 3 ∨ k = 5 ∨ k = 9)) ∨ (v = 0 ∧ ¬ (k = 0 ∨ k = 1 ∨ k = 3 ∨ k = 5 ∨ k = 9))) := by
  rcases (by omega : k = 0 ∨ k = 1 ∨ k = 2 ∨ k = 3 ∨ k = 4 ∨ k = 5 ∨ k = 6 ∨ k = 7 ∨ k = 8 ∨ k = 9 ∨ k = 10) with rfl | rfl | rfl | rfl | rfl | rfl | rfl | rfl | rfl | rfl | rfl <;> exact ⟨_, rfl, by decide⟩
theorem tabL {k : Int} (h : 0 ≤ k ∧ k ≤ 10) : ∃ v, v = ([1, 0, 1, 1, -1, -1, -1, 1, 1, -1, -1] : List Int).getD k.toNat 0 ∧ ((v = leastQ k ∧ (k ≤ 3 ∨ k = 7 ∨ k = 8)) ∨ (v = -1 ∧ ¬ (k ≤ 3 ∨ k = 7 ∨ k = 8))) := by
  rcases (by omega : k = 0 ∨ k = 1 ∨ k = 2 ∨ k = 3 ∨ k = 4 ∨ k = 5 ∨ k = 6 ∨ k = 7 ∨ k = 8 ∨ k = 9 ∨ k = 10) with rfl | rfl | rfl | rfl | rfl | rfl | rfl | rfl | rfl | rfl | rfl <;> exact ⟨_, rfl, by decide⟩
theorem tabM {k : Int} (h : 0 ≤ k ∧ k ≤ 10) : ∃ v, v = ([200, 1, 200, 9999, -1, -1, -1, 200, 200, -1, -1] : List Int).getD k.toNat 0 ∧ ((v = mostNQ k ∧ (k ≤ 3 ∨ k = 7 ∨ k = 8)) ∨ (v = -1 ∧ ¬ (k ≤ 3 ∨ k = 7 ∨ k = 8))) := by
  rcases (by omega : k = 0 ∨ k = 1 ∨ k = 2 ∨ k = 3 ∨ k = 4 ∨ k = 5 ∨ k = 6 ∨ k = 7 ∨ k = 8 ∨ k = 9 ∨ k = 10) with rfl | rfl | rfl | rfl | rfl | rfl | rfl | rfl | rfl | rfl | rfl <;> exact ⟨_, rfl, by decide⟩
theorem lm_cs {k : Int} : ((k = 1 ∧ leastQ k = 0) ∨ (k ≠ 1 ∧ leastQ k = 1)) ∧ ((k = 1 ∧ mostNQ k = 1) ∨ (k = 3 ∧ mostNQ k = 9999) ∨ (k ≠ 1 ∧ k ≠ 3 ∧ mostNQ k = 200)) := by
  unfold leastQ mostNQ
  omega

theorem c_X10_line {k d t p q n v5 v6 v7 : Int} (q1 : rgi k) (q2 : rgi d) (q3 : rgi t) (q4 : rgi p) (q5 : rgi q) (q6 : rgi n) (w5 : ((k = 0 ∨ k = 1 ∨ k = 3 ∨ k = 5 ∨ k = 9) ∧ v5 = p) ∨ (¬ (k = 0 ∨ k = 1 ∨ k = 3 ∨ k = 5 ∨ k = 9) ∧ v5 = -1)) (w6 : (k = 1 ∧ v6 = q) ∨ (k ≠ 1 ∧ v6 = -1)) (w7 : ((k ≤ 3 ∨ k = 7 ∨ k = 8) ∧ v7 = n) ∨ (¬ (k ≤ 3 ∨ k = 7 ∨ k = 8) ∧ v7 = -1)) (h1 : 0 ≤ σ 0 0 ∧ σ 0 0 ≤ 2000) (h0 : 0 ≤ σ 1 5 ∧ σ 1 5 ≤ 12) (hn : 0 ≤ σ 7 9 ∧ σ 7 9 ≤ 120) (hk : ∀ i, 0 ≤ i → i < σ 7 9 → 0 ≤ σ 8 i ∧ σ 8 i ≤ 10) (hdy : ∀ i, 0 ≤ i → i < σ 7 9 → 0 ≤ σ 9 i ∧ σ 9 i ≤ 2000) (ho : RepL (σ 15) (srtL (σ 9) (fun _ => true) (σ 7 9).toNat)) : CI l G M_X10_line 3 [vr 0, vi k, vi d, vi t, vi p, vi q, vi n] σ (fun z τ => LnP (0 ≤ k ∧ k ≤ 10) (tgtQ (σ 1 5) (σ 7 9) (σ 8) k t ∧ ((k = 0 ∨ k = 1 ∨ k = 3 ∨ k = 5 ∨ k = 9) → 0 ≤ p ∧ p ≤ 7) ∧ (k = 1 → 0 ≤ q ∧ q ≤ 7)) ((0 ≤ d ∧ d ≤ σ 0 0) ∧ ((k ≤ 3 ∨ k = 7 ∨ k = 8) → leastQ k ≤ n ∧ n ≤ mostNQ k)) (σ 7 9 < 120) (σ 7 9) (τ = σ) ((τ 8 = (fun i => if i = σ 7 9 then k else σ 8 i) ∧ τ 9 = (fun i => if i = σ 7 9 then d else σ 9 i) ∧ τ 10 = (fun i => if i = σ 7 9 then σ 0 0 else σ 10 i) ∧ τ 11 = (fun i => if i = σ 7 9 then t else σ 11 i) ∧ τ 12 = (fun i => if i = σ 7 9 then v5 else σ 12 i) ∧ τ 13 = (fun i => if i = σ 7 9 then v6 else σ 13 i) ∧ τ 14 = (fun i => if i = σ 7 9 then v7 else σ 14 i)) ∧ τ 7 9 = σ 7 9 + 1 ∧ RepL (τ 15) (srtL (τ 9) (fun _ => true) (σ 7 9 + 1).toNat) ∧ Fr [7, 8, 9, 10, 11, 12, 13, 14, 15] σ τ ∧ Fo 7 [9] σ τ) z) := by
  have hlm := lm_cs (k := k)
  refine Ct.of rfl (Nat.le_of_ble_eq_true rfl) ?_
  have j152 : ∀ (hp hq hn : Int), ((hp = 1 ∧ (k = 0 ∨ k = 1 ∨ k = 3 ∨ k = 5 ∨ k = 9)) ∨ (hp = 0 ∧ ¬ (k = 0 ∨ k = 1 ∨ k = 3 ∨ k = 5 ∨ k = 9))) → ((hq = 1 ∧ k = 1) ∨ (hq = 0 ∧ k ≠ 1)) → ((hn = 1 ∧ (k ≤ 3 ∨ k = 7 ∨ k = 8)) ∨ (hn = 0 ∧ ¬ (k ≤ 3 ∨ k = 7 ∨ k = 8))) → (0 ≤ k ∧ k ≤ 10) → (tgtQ (σ 1 5) (σ 7 9) (σ 8) k t ∧ ((k = 0 ∨ k = 1 ∨ k = 3 ∨ k = 5 ∨ k = 9) → 0 ≤ p ∧ p ≤ 7) ∧ (k = 1 → 0 ≤ q ∧ q ≤ 7)) → ((0 ≤ d ∧ d ≤ σ 0 0) ∧ ((k ≤ 3 ∨ k = 7 ∨ k = 8) → leastQ k ≤ n ∧ n ≤ mostNQ k)) → σ 7 9 < 120 → XI l G M_X10_line 3 152 [some (vr 0), some (vi k), some (vi d), some (vi t), some (vi p), some (vi q), some (vi n), some (vi hp), some (vi hq), some (vi hn)] [] σ (fun z τ => LnP (0 ≤ k ∧ k ≤ 10) (tgtQ (σ 1 5) (σ 7 9) (σ 8) k t ∧ ((k = 0 ∨ k = 1 ∨ k = 3 ∨ k = 5 ∨ k = 9) → 0 ≤ p ∧ p ≤ 7) ∧ (k = 1 → 0 ≤ q ∧ q ≤ 7)) ((0 ≤ d ∧ d ≤ σ 0 0) ∧ ((k ≤ 3 ∨ k = 7 ∨ k = 8) → leastQ k ≤ n ∧ n ≤ mostNQ k)) (σ 7 9 < 120) (σ 7 9) (τ = σ) ((τ 8 = (fun i => if i = σ 7 9 then k else σ 8 i) ∧ τ 9 = (fun i => if i = σ 7 9 then d else σ 9 i) ∧ τ 10 = (fun i => if i = σ 7 9 then σ 0 0 else σ 10 i) ∧ τ 11 = (fun i => if i = σ 7 9 then t else σ 11 i) ∧ τ 12 = (fun i => if i = σ 7 9 then v5 else σ 12 i) ∧ τ 13 = (fun i => if i = σ 7 9 then v6 else σ 13 i) ∧ τ 14 = (fun i => if i = σ 7 9 then v7 else σ 14 i)) ∧ τ 7 9 = σ 7 9 + 1 ∧ RepL (τ 15) (srtL (τ 9) (fun _ => true) (σ 7 9 + 1).toNat) ∧ Fr [7, 8, 9, 10, 11, 12, 13, 14, 15] σ τ ∧ Fo 7 [9] σ τ) z) := by
    intro hp hq hn9 ehp ehq ehn a0 a1 a2 a3
    refine x_aload_n (E_X10_line_1 15 rfl) rfl ?_
    refine x_getR (E_X10_line_1 16 rfl) fl_X10_23 rfl (by decide) rfl ?_
    refine x_iload_n (E_X10_line_1 17 rfl) rfl ?_
    refine x_iload_n (E_X10_line_1 18 rfl) rfl ?_
    refine x_aload_n (E_X10_line_1 19 rfl) rfl ?_
    refine x_getIe (v := σ 0 0) (E_X10_line_1 20 rfl) fl_X10_7 rfl (by decide) rfl ?_
    refine x_iload_n (E_X10_line_1 21 rfl) rfl ?_
    refine x_iload (E_X10_line_1 22 rfl) rfl ?_
    refine x_if_eq (E_X10_line_1 23 rfl) (by omega) (fun c1 => ?_) (fun c1 => ?_)
    · obtain rfl : v5 = -1 := by omega
      refine x_iconst (E_X10_line_1 26 rfl) ?_
      refine x_iload (E_X10_line_1 27 rfl) rfl ?_
      refine x_if_eq (E_X10_line_1 28 rfl) (by omega) (fun c2 => ?_) (fun c2 => ?_)
      · obtain rfl : v6 = -1 := by omega
        refine x_iconst (E_X10_line_1 31 rfl) ?_
        refine x_iload (E_X10_line_1 32 rfl) rfl ?_
        refine x_if_eq (E_X10_line_1 33 rfl) (by omega) (fun c3 => ?_) (fun c3 => ?_)
        · obtain rfl : v7 = -1 := by omega
          refine x_iconst (E_X10_line_1 36 rfl) ?_
          refine z_callVi (E_X10_line_1 37 rfl) ml_X10_141 mv_X2_add rfl (by decide) (by decide) (c_X2_add (by omega) (by omega) hdy ho) (by decide) rfl rfl (Nat.le_of_ble_eq_true rfl) (fun z9 τ9 h9 => ?_)
          refine z_iret (E_X10_line_1 38 rfl) trivial ?_
          exact Or.inr (Or.inr (Or.inr (Or.inr ⟨a0, a1, a2, a3, h9⟩)))
        · obtain rfl : v7 = n := by omega
          refine x_iload (E_X10_line_1 34 rfl) rfl ?_
          refine x_goto (E_X10_line_1 35 rfl) ?_
          refine z_callVi (E_X10_line_1 37 rfl) ml_X10_141 mv_X2_add rfl (by decide) (by decide) (c_X2_add (by omega) (by omega) hdy ho) (by decide) rfl rfl (Nat.le_of_ble_eq_true rfl) (fun z9 τ9 h9 => ?_)
          refine z_iret (E_X10_line_1 38 rfl) trivial ?_
          exact Or.inr (Or.inr (Or.inr (Or.inr ⟨a0, a1, a2, a3, h9⟩)))
      · obtain rfl : v6 = q := by omega
        refine x_iload (E_X10_line_1 29 rfl) rfl ?_
        refine x_goto (E_X10_line_1 30 rfl) ?_
        refine x_iload (E_X10_line_1 32 rfl) rfl ?_
        refine x_if_eq (E_X10_line_1 33 rfl) (by omega) (fun c4 => ?_) (fun c4 => ?_)
        · obtain rfl : v7 = -1 := by omega
          refine x_iconst (E_X10_line_1 36 rfl) ?_
          refine z_callVi (E_X10_line_1 37 rfl) ml_X10_141 mv_X2_add rfl (by decide) (by decide) (c_X2_add (by omega) (by omega) hdy ho) (by decide) rfl rfl (Nat.le_of_ble_eq_true rfl) (fun z9 τ9 h9 => ?_)
          refine z_iret (E_X10_line_1 38 rfl) trivial ?_
          exact Or.inr (Or.inr (Or.inr (Or.inr ⟨a0, a1, a2, a3, h9⟩)))
        · obtain rfl : v7 = n := by omega
          refine x_iload (E_X10_line_1 34 rfl) rfl ?_
          refine x_goto (E_X10_line_1 35 rfl) ?_
          refine z_callVi (E_X10_line_1 37 rfl) ml_X10_141 mv_X2_add rfl (by decide) (by decide) (c_X2_add (by omega) (by omega) hdy ho) (by decide) rfl rfl (Nat.le_of_ble_eq_true rfl) (fun z9 τ9 h9 => ?_)
          refine z_iret (E_X10_line_1 38 rfl) trivial ?_
          exact Or.inr (Or.inr (Or.inr (Or.inr ⟨a0, a1, a2, a3, h9⟩)))
    · obtain rfl : v5 = p := by omega
      refine x_iload (E_X10_line_1 24 rfl) rfl ?_
      refine x_goto (E_X10_line_1 25 rfl) ?_
      refine x_iload (E_X10_line_1 27 rfl) rfl ?_
      refine x_if_eq (E_X10_line_1 28 rfl) (by omega) (fun c5 => ?_) (fun c5 => ?_)
      · obtain rfl : v6 = -1 := by omega
        refine x_iconst (E_X10_line_1 31 rfl) ?_
        refine x_iload (E_X10_line_1 32 rfl) rfl ?_
        refine x_if_eq (E_X10_line_1 33 rfl) (by omega) (fun c6 => ?_) (fun c6 => ?_)
        · obtain rfl : v7 = -1 := by omega
          refine x_iconst (E_X10_line_1 36 rfl) ?_
          refine z_callVi (E_X10_line_1 37 rfl) ml_X10_141 mv_X2_add rfl (by decide) (by decide) (c_X2_add (by omega) (by omega) hdy ho) (by decide) rfl rfl (Nat.le_of_ble_eq_true rfl) (fun z9 τ9 h9 => ?_)
          refine z_iret (E_X10_line_1 38 rfl) trivial ?_
          exact Or.inr (Or.inr (Or.inr (Or.inr ⟨a0, a1, a2, a3, h9⟩)))
        · obtain rfl : v7 = n := by omega
          refine x_iload (E_X10_line_1 34 rfl) rfl ?_
          refine x_goto (E_X10_line_1 35 rfl) ?_
          refine z_callVi (E_X10_line_1 37 rfl) ml_X10_141 mv_X2_add rfl (by decide) (by decide) (c_X2_add (by omega) (by omega) hdy ho) (by decide) rfl rfl (Nat.le_of_ble_eq_true rfl) (fun z9 τ9 h9 => ?_)
          refine z_iret (E_X10_line_1 38 rfl) trivial ?_
          exact Or.inr (Or.inr (Or.inr (Or.inr ⟨a0, a1, a2, a3, h9⟩)))
      · obtain rfl : v6 = q := by omega
        refine x_iload (E_X10_line_1 29 rfl) rfl ?_
        refine x_goto (E_X10_line_1 30 rfl) ?_
        refine x_iload (E_X10_line_1 32 rfl) rfl ?_
        refine x_if_eq (E_X10_line_1 33 rfl) (by omega) (fun c7 => ?_) (fun c7 => ?_)
        · obtain rfl : v7 = -1 := by omega
          refine x_iconst (E_X10_line_1 36 rfl) ?_
          refine z_callVi (E_X10_line_1 37 rfl) ml_X10_141 mv_X2_add rfl (by decide) (by decide) (c_X2_add (by omega) (by omega) hdy ho) (by decide) rfl rfl (Nat.le_of_ble_eq_true rfl) (fun z9 τ9 h9 => ?_)
          refine z_iret (E_X10_line_1 38 rfl) trivial ?_
          exact Or.inr (Or.inr (Or.inr (Or.inr ⟨a0, a1, a2, a3, h9⟩)))
        · obtain rfl : v7 = n := by omega
          refine x_iload (E_X10_line_1 34 rfl) rfl ?_
          refine x_goto (E_X10_line_1 35 rfl) ?_
          refine z_callVi (E_X10_line_1 37 rfl) ml_X10_141 mv_X2_add rfl (by decide) (by decide) (c_X2_add (by omega) (by omega) hdy ho) (by decide) rfl rfl (Nat.le_of_ble_eq_true rfl) (fun z9 τ9 h9 => ?_)
          refine z_iret (E_X10_line_1 38 rfl) trivial ?_
          exact Or.inr (Or.inr (Or.inr (Or.inr ⟨a0, a1, a2, a3, h9⟩)))
  have j97 : ∀ (hp hq hn : Int), ((hp = 1 ∧ (k = 0 ∨ k = 1 ∨ k = 3 ∨ k = 5 ∨ k = 9)) ∨ (hp = 0 ∧ ¬ (k = 0 ∨ k = 1 ∨ k = 3 ∨ k = 5 ∨ k = 9))) → ((hq = 1 ∧ k = 1) ∨ (hq = 0 ∧ k ≠ 1)) → ((hn = 1 ∧ (k ≤ 3 ∨ k = 7 ∨ k = 8)) ∨ (hn = 0 ∧ ¬ (k ≤ 3 ∨ k = 7 ∨ k = 8))) → (0 ≤ k ∧ k ≤ 10) → (tgtQ (σ 1 5) (σ 7 9) (σ 8) k t ∧ ((k = 0 ∨ k = 1 ∨ k = 3 ∨ k = 5 ∨ k = 9) → 0 ≤ p ∧ p ≤ 7) ∧ (k = 1 → 0 ≤ q ∧ q ≤ 7)) → XI l G M_X10_line 3 97 [some (vr 0), some (vi k), some (vi d), some (vi t), some (vi p), some (vi q), some (vi n), some (vi hp), some (vi hq), some (vi hn)] [] σ (fun z τ => LnP (0 ≤ k ∧ k ≤ 10) (tgtQ (σ 1 5) (σ 7 9) (σ 8) k t ∧ ((k = 0 ∨ k = 1 ∨ k = 3 ∨ k = 5 ∨ k = 9) → 0 ≤ p ∧ p ≤ 7) ∧ (k = 1 → 0 ≤ q ∧ q ≤ 7)) ((0 ≤ d ∧ d ≤ σ 0 0) ∧ ((k ≤ 3 ∨ k = 7 ∨ k = 8) → leastQ k ≤ n ∧ n ≤ mostNQ k)) (σ 7 9 < 120) (σ 7 9) (τ = σ) ((τ 8 = (fun i => if i = σ 7 9 then k else σ 8 i) ∧ τ 9 = (fun i => if i = σ 7 9 then d else σ 9 i) ∧ τ 10 = (fun i => if i = σ 7 9 then σ 0 0 else σ 10 i) ∧ τ 11 = (fun i => if i = σ 7 9 then t else σ 11 i) ∧ τ 12 = (fun i => if i = σ 7 9 then v5 else σ 12 i) ∧ τ 13 = (fun i => if i = σ 7 9 then v6 else σ 13 i) ∧ τ 14 = (fun i => if i = σ 7 9 then v7 else σ 14 i)) ∧ τ 7 9 = σ 7 9 + 1 ∧ RepL (τ 15) (srtL (τ 9) (fun _ => true) (σ 7 9 + 1).toNat) ∧ Fr [7, 8, 9, 10, 11, 12, 13, 14, 15] σ τ ∧ Fo 7 [9] σ τ) z) := by
    intro hp hq hn9 ehp ehq ehn a0 a1
    obtain ⟨vL, eL, fL⟩ := tabL a0
    obtain ⟨vM, eM, fM⟩ := tabM a0
    refine x_iload_n (E_X10_line_0 49 rfl) rfl ?_
    refine x_iconst (E_X10_line_0 50 rfl) ?_
    refine x_aload_n (E_X10_line_0 51 rfl) rfl ?_
    refine x_getIe (v := σ 0 0) (E_X10_line_0 52 rfl) fl_X10_7 rfl (by decide) rfl ?_
    refine z_callSi (E_X10_line_0 53 rfl) ml_X10_100 ms_X10_within (c_X10_within (by omega) (by omega) (by omega)) (by decide) rfl rfl (Nat.le_of_ble_eq_true rfl) (fun z9 τ9 h9 => ?_)
    obtain ⟨rfl, ⟨rfl, c1⟩ | ⟨rfl, c1⟩⟩ := h9
    · refine x_if_eq (E_X10_line_0 54 rfl) (by decide) (fun c9 => absurd c9 (by decide)) (fun _ => ?_)
      refine x_iload (E_X10_line_0 55 rfl) rfl ?_
      refine x_if_eq (E_X10_line_0 56 rfl) (by omega) (fun c2 => ?_) (fun c2 => ?_)
      · have a2 : (0 ≤ d ∧ d ≤ σ 0 0) ∧ ((k ≤ 3 ∨ k = 7 ∨ k = 8) → leastQ k ≤ n ∧ n ≤ mostNQ k) := ⟨by omega, by omega⟩
        refine x_aload_n (E_X10_line_1 8 rfl) rfl ?_
        refine x_getR (E_X10_line_1 9 rfl) fl_X10_23 rfl (by decide) rfl ?_
        refine x_getIe (v := σ 7 9) (E_X10_line_1 10 rfl) fl_X10_140 rfl (by decide) rfl ?_
        refine x_bipush (z := 120) (E_X10_line_1 11 rfl) (by decide) ?_
        refine x_icmp_lt (E_X10_line_1 12 rfl) (by omega) (by decide) (fun c1 => ?_) (fun c1 => ?_)
        · exact j152 _ _ _ ehp ehq ehn a0 a1 a2 (by omega)
        · refine x_sipush (z := (-1004)) (E_X10_line_1 13 rfl) (by decide) ?_
          refine z_iret (E_X10_line_1 14 rfl) trivial ?_
          exact Or.inr (Or.inr (Or.inr (Or.inl ⟨a0, a1, a2, by omega, rfl, rfl⟩)))
      · refine x_iload (E_X10_line_0 57 rfl) rfl ?_
        refine x_gets (i := 1) (E_X10_line_0 58 rfl) rfl sl_X10_130 ?_
        refine x_iload_n (E_X10_line_0 59 rfl) rfl ?_
        refine x_ialdSe (E_X10_line_1 0 rfl) rfl ⟨a0.1, show k < 11 by omega⟩ (by decide) eL ?_
        refine x_gets (i := 2) (E_X10_line_1 1 rfl) rfl sl_X10_137 ?_
        refine x_iload_n (E_X10_line_1 2 rfl) rfl ?_
        refine x_ialdSe (E_X10_line_1 3 rfl) rfl ⟨a0.1, show k < 11 by omega⟩ (by decide) eM ?_
        refine z_callSi (E_X10_line_1 4 rfl) ml_X10_100 ms_X10_within (c_X10_within (by omega) (by omega) (by omega)) (by decide) rfl rfl (Nat.le_of_ble_eq_true rfl) (fun z9 τ9 h9 => ?_)
        obtain ⟨rfl, ⟨rfl, c3⟩ | ⟨rfl, c3⟩⟩ := h9
        · refine x_if_ne (E_X10_line_1 5 rfl) (by decide) (fun _ => ?_) (fun c9 => absurd c9 (by decide))
          have a2 : (0 ≤ d ∧ d ≤ σ 0 0) ∧ ((k ≤ 3 ∨ k = 7 ∨ k = 8) → leastQ k ≤ n ∧ n ≤ mostNQ k) := ⟨by omega, by omega⟩
          refine x_aload_n (E_X10_line_1 8 rfl) rfl ?_
          refine x_getR (E_X10_line_1 9 rfl) fl_X10_23 rfl (by decide) rfl ?_
          refine x_getIe (v := σ 7 9) (E_X10_line_1 10 rfl) fl_X10_140 rfl (by decide) rfl ?_
          refine x_bipush (z := 120) (E_X10_line_1 11 rfl) (by decide) ?_
          refine x_icmp_lt (E_X10_line_1 12 rfl) (by omega) (by decide) (fun c1 => ?_) (fun c1 => ?_)
          · exact j152 _ _ _ ehp ehq ehn a0 a1 a2 (by omega)
          · refine x_sipush (z := (-1004)) (E_X10_line_1 13 rfl) (by decide) ?_
            refine z_iret (E_X10_line_1 14 rfl) trivial ?_
            exact Or.inr (Or.inr (Or.inr (Or.inl ⟨a0, a1, a2, by omega, rfl, rfl⟩)))
        · refine x_if_ne (E_X10_line_1 5 rfl) (by decide) (fun c9 => absurd c9 (by decide)) (fun _ => ?_)
          refine x_sipush (z := (-1002)) (E_X10_line_1 6 rfl) (by decide) ?_
          refine z_iret (E_X10_line_1 7 rfl) trivial ?_
          exact Or.inr (Or.inr (Or.inl ⟨a0, a1, fun h => by have h2 := h.1; have h3 := h.2; omega, rfl, rfl⟩))
    · refine x_if_eq (E_X10_line_0 54 rfl) (by decide) (fun _ => ?_) (fun c9 => absurd (by decide) c9)
      refine x_sipush (z := (-1002)) (E_X10_line_1 6 rfl) (by decide) ?_
      refine z_iret (E_X10_line_1 7 rfl) trivial ?_
      exact Or.inr (Or.inr (Or.inl ⟨a0, a1, fun h => by have h2 := h.1; have h3 := h.2; omega, rfl, rfl⟩))
  have j58 : ∀ (hp hq hn : Int), ((hp = 1 ∧ (k = 0 ∨ k = 1 ∨ k = 3 ∨ k = 5 ∨ k = 9)) ∨ (hp = 0 ∧ ¬ (k = 0 ∨ k = 1 ∨ k = 3 ∨ k = 5 ∨ k = 9))) → ((hq = 1 ∧ k = 1) ∨ (hq = 0 ∧ k ≠ 1)) → ((hn = 1 ∧ (k ≤ 3 ∨ k = 7 ∨ k = 8)) ∨ (hn = 0 ∧ ¬ (k ≤ 3 ∨ k = 7 ∨ k = 8))) → (0 ≤ k ∧ k ≤ 10) → XI l G M_X10_line 3 58 [some (vr 0), some (vi k), some (vi d), some (vi t), some (vi p), some (vi q), some (vi n), some (vi hp), some (vi hq), some (vi hn)] [] σ (fun z τ => LnP (0 ≤ k ∧ k ≤ 10) (tgtQ (σ 1 5) (σ 7 9) (σ 8) k t ∧ ((k = 0 ∨ k = 1 ∨ k = 3 ∨ k = 5 ∨ k = 9) → 0 ≤ p ∧ p ≤ 7) ∧ (k = 1 → 0 ≤ q ∧ q ≤ 7)) ((0 ≤ d ∧ d ≤ σ 0 0) ∧ ((k ≤ 3 ∨ k = 7 ∨ k = 8) → leastQ k ≤ n ∧ n ≤ mostNQ k)) (σ 7 9 < 120) (σ 7 9) (τ = σ) ((τ 8 = (fun i => if i = σ 7 9 then k else σ 8 i) ∧ τ 9 = (fun i => if i = σ 7 9 then d else σ 9 i) ∧ τ 10 = (fun i => if i = σ 7 9 then σ 0 0 else σ 10 i) ∧ τ 11 = (fun i => if i = σ 7 9 then t else σ 11 i) ∧ τ 12 = (fun i => if i = σ 7 9 then v5 else σ 12 i) ∧ τ 13 = (fun i => if i = σ 7 9 then v6 else σ 13 i) ∧ τ 14 = (fun i => if i = σ 7 9 then v7 else σ 14 i)) ∧ τ 7 9 = σ 7 9 + 1 ∧ RepL (τ 15) (srtL (τ 9) (fun _ => true) (σ 7 9 + 1).toNat) ∧ Fr [7, 8, 9, 10, 11, 12, 13, 14, 15] σ τ ∧ Fo 7 [9] σ τ) z) := by
    intro hp hq hn9 ehp ehq ehn a0
    refine x_aload_n (E_X10_line_0 32 rfl) rfl ?_
    refine x_iload_n (E_X10_line_0 33 rfl) rfl ?_
    refine x_iload_n (E_X10_line_0 34 rfl) rfl ?_
    refine z_callVi (E_X10_line_0 35 rfl) ml_X10_133 mv_X10_isTarget rfl (by decide) (by decide) (c_X10_isTarget (by omega) (by omega) h0 hn hk) (by decide) rfl rfl (Nat.le_of_ble_eq_true rfl) (fun z9 τ9 h9 => ?_)
    obtain ⟨rfl, ⟨rfl, c1⟩ | ⟨rfl, c1⟩⟩ := h9
    · refine x_if_eq (E_X10_line_0 36 rfl) (by decide) (fun c9 => absurd c9 (by decide)) (fun _ => ?_)
      refine x_iload (E_X10_line_0 37 rfl) rfl ?_
      refine x_if_eq (E_X10_line_0 38 rfl) (by omega) (fun c2 => ?_) (fun c2 => ?_)
      · refine x_iload (E_X10_line_0 42 rfl) rfl ?_
        refine x_if_eq (E_X10_line_0 43 rfl) (by omega) (fun c3 => ?_) (fun c3 => ?_)
        · exact j97 _ _ _ ehp ehq ehn a0 ⟨by assumption, by omega, by omega⟩
        · refine x_iload (E_X10_line_0 44 rfl) rfl ?_
          refine z_callSi (E_X10_line_0 45 rfl) ml_X10_104 ms_X10_isHouse (c_X10_isHouse (by omega)) (by decide) rfl rfl (Nat.le_of_ble_eq_true rfl) (fun z9 τ9 h9 => ?_)
          obtain ⟨rfl, ⟨rfl, c4⟩ | ⟨rfl, c4⟩⟩ := h9
          · refine x_if_ne (E_X10_line_0 46 rfl) (by decide) (fun _ => ?_) (fun c9 => absurd c9 (by decide))
            exact j97 _ _ _ ehp ehq ehn a0 ⟨by assumption, by omega, by omega⟩
          · refine x_if_ne (E_X10_line_0 46 rfl) (by decide) (fun c9 => absurd c9 (by decide)) (fun _ => ?_)
            refine x_sipush (z := (-1001)) (E_X10_line_0 47 rfl) (by decide) ?_
            refine z_iret (E_X10_line_0 48 rfl) trivial ?_
            exact Or.inr (Or.inl ⟨a0, fun h => by first | exact absurd h.1 (by assumption) | (have h2 := h.2.1; have h3 := h.2.2; omega), rfl, rfl⟩)
      · refine x_iload (E_X10_line_0 39 rfl) rfl ?_
        refine z_callSi (E_X10_line_0 40 rfl) ml_X10_104 ms_X10_isHouse (c_X10_isHouse (by omega)) (by decide) rfl rfl (Nat.le_of_ble_eq_true rfl) (fun z9 τ9 h9 => ?_)
        obtain ⟨rfl, ⟨rfl, c5⟩ | ⟨rfl, c5⟩⟩ := h9
        · refine x_if_eq (E_X10_line_0 41 rfl) (by decide) (fun c9 => absurd c9 (by decide)) (fun _ => ?_)
          refine x_iload (E_X10_line_0 42 rfl) rfl ?_
          refine x_if_eq (E_X10_line_0 43 rfl) (by omega) (fun c6 => ?_) (fun c6 => ?_)
          · exact j97 _ _ _ ehp ehq ehn a0 ⟨by assumption, by omega, by omega⟩
          · refine x_iload (E_X10_line_0 44 rfl) rfl ?_
            refine z_callSi (E_X10_line_0 45 rfl) ml_X10_104 ms_X10_isHouse (c_X10_isHouse (by omega)) (by decide) rfl rfl (Nat.le_of_ble_eq_true rfl) (fun z9 τ9 h9 => ?_)
            obtain ⟨rfl, ⟨rfl, c7⟩ | ⟨rfl, c7⟩⟩ := h9
            · refine x_if_ne (E_X10_line_0 46 rfl) (by decide) (fun _ => ?_) (fun c9 => absurd c9 (by decide))
              exact j97 _ _ _ ehp ehq ehn a0 ⟨by assumption, by omega, by omega⟩
            · refine x_if_ne (E_X10_line_0 46 rfl) (by decide) (fun c9 => absurd c9 (by decide)) (fun _ => ?_)
              refine x_sipush (z := (-1001)) (E_X10_line_0 47 rfl) (by decide) ?_
              refine z_iret (E_X10_line_0 48 rfl) trivial ?_
              exact Or.inr (Or.inl ⟨a0, fun h => by first | exact absurd h.1 (by assumption) | (have h2 := h.2.1; have h3 := h.2.2; omega), rfl, rfl⟩)
        · refine x_if_eq (E_X10_line_0 41 rfl) (by decide) (fun _ => ?_) (fun c9 => absurd (by decide) c9)
          refine x_sipush (z := (-1001)) (E_X10_line_0 47 rfl) (by decide) ?_
          refine z_iret (E_X10_line_0 48 rfl) trivial ?_
          exact Or.inr (Or.inl ⟨a0, fun h => by first | exact absurd h.1 (by assumption) | (have h2 := h.2.1; have h3 := h.2.2; omega), rfl, rfl⟩)
    · refine x_if_eq (E_X10_line_0 36 rfl) (by decide) (fun _ => ?_) (fun c9 => absurd (by decide) c9)
      refine x_sipush (z := (-1001)) (E_X10_line_0 47 rfl) (by decide) ?_
      refine z_iret (E_X10_line_0 48 rfl) trivial ?_
      exact Or.inr (Or.inl ⟨a0, fun h => by first | exact absurd h.1 (by assumption) | (have h2 := h.2.1; have h3 := h.2.2; omega), rfl, rfl⟩)
  refine x_iload_n (E_X10_line_0 0 rfl) rfl ?_
  refine x_iconst (E_X10_line_0 1 rfl) ?_
  refine x_bipush (z := 10) (E_X10_line_0 2 rfl) (by decide) ?_
  refine z_callSi (E_X10_line_0 3 rfl) ml_X10_100 ms_X10_within (c_X10_within (by omega) (by omega) (by omega)) (by decide) rfl rfl (Nat.le_of_ble_eq_true rfl) (fun z9 τ9 h9 => ?_)
  obtain ⟨rfl, ⟨rfl, c1⟩ | ⟨rfl, c1⟩⟩ := h9
  · refine x_if_ne (E_X10_line_0 4 rfl) (by decide) (fun _ => ?_) (fun c9 => absurd c9 (by decide))
    have a0 : 0 ≤ k ∧ k ≤ 10 := by omega
    obtain ⟨vP, eP, fP⟩ := tabP a0
    obtain ⟨vL, eL, fL⟩ := tabL a0
    refine x_gets (i := 0) (E_X10_line_0 7 rfl) rfl sl_X10_127 ?_
    refine x_iload_n (E_X10_line_0 8 rfl) rfl ?_
    refine x_ialdSe (E_X10_line_0 9 rfl) rfl ⟨a0.1, show k < 11 by omega⟩ (by decide) eP ?_
    refine x_iconst (E_X10_line_0 10 rfl) ?_
    refine x_icmp_ne (E_X10_line_0 11 rfl) (by omega) (by decide) (fun c2 => ?_) (fun c2 => ?_)
    · refine x_iconst (E_X10_line_0 14 rfl) ?_
      refine x_istore (E_X10_line_0 15 rfl) rfl ?_
      refine x_iload_n (E_X10_line_0 16 rfl) rfl ?_
      refine x_iconst (E_X10_line_0 17 rfl) ?_
      refine x_icmp_ne (E_X10_line_0 18 rfl) (by omega) (by decide) (fun c3 => ?_) (fun c3 => ?_)
      · refine x_iconst (E_X10_line_0 21 rfl) ?_
        refine x_istore (E_X10_line_0 22 rfl) rfl ?_
        refine x_gets (i := 1) (E_X10_line_0 23 rfl) rfl sl_X10_130 ?_
        refine x_iload_n (E_X10_line_0 24 rfl) rfl ?_
        refine x_ialdSe (E_X10_line_0 25 rfl) rfl ⟨a0.1, show k < 11 by omega⟩ (by decide) eL ?_
        refine x_iconst (E_X10_line_0 26 rfl) ?_
        refine x_icmp_eq (E_X10_line_0 27 rfl) (by omega) (by decide) (fun c4 => ?_) (fun c4 => ?_)
        · refine x_iconst (E_X10_line_0 30 rfl) ?_
          refine x_istore (E_X10_line_0 31 rfl) rfl ?_
          exact j58 _ _ _ (by omega) (by omega) (by omega) a0
        · refine x_iconst (E_X10_line_0 28 rfl) ?_
          refine x_goto (E_X10_line_0 29 rfl) ?_
          refine x_istore (E_X10_line_0 31 rfl) rfl ?_
          exact j58 _ _ _ (by omega) (by omega) (by omega) a0
      · refine x_iconst (E_X10_line_0 19 rfl) ?_
        refine x_goto (E_X10_line_0 20 rfl) ?_
        refine x_istore (E_X10_line_0 22 rfl) rfl ?_
        refine x_gets (i := 1) (E_X10_line_0 23 rfl) rfl sl_X10_130 ?_
        refine x_iload_n (E_X10_line_0 24 rfl) rfl ?_
        refine x_ialdSe (E_X10_line_0 25 rfl) rfl ⟨a0.1, show k < 11 by omega⟩ (by decide) eL ?_
        refine x_iconst (E_X10_line_0 26 rfl) ?_
        refine x_icmp_eq (E_X10_line_0 27 rfl) (by omega) (by decide) (fun c5 => ?_) (fun c5 => ?_)
        · refine x_iconst (E_X10_line_0 30 rfl) ?_
          refine x_istore (E_X10_line_0 31 rfl) rfl ?_
          exact j58 _ _ _ (by omega) (by omega) (by omega) a0
        · refine x_iconst (E_X10_line_0 28 rfl) ?_
          refine x_goto (E_X10_line_0 29 rfl) ?_
          refine x_istore (E_X10_line_0 31 rfl) rfl ?_
          exact j58 _ _ _ (by omega) (by omega) (by omega) a0
    · refine x_iconst (E_X10_line_0 12 rfl) ?_
      refine x_goto (E_X10_line_0 13 rfl) ?_
      refine x_istore (E_X10_line_0 15 rfl) rfl ?_
      refine x_iload_n (E_X10_line_0 16 rfl) rfl ?_
      refine x_iconst (E_X10_line_0 17 rfl) ?_
      refine x_icmp_ne (E_X10_line_0 18 rfl) (by omega) (by decide) (fun c6 => ?_) (fun c6 => ?_)
      · refine x_iconst (E_X10_line_0 21 rfl) ?_
        refine x_istore (E_X10_line_0 22 rfl) rfl ?_
        refine x_gets (i := 1) (E_X10_line_0 23 rfl) rfl sl_X10_130 ?_
        refine x_iload_n (E_X10_line_0 24 rfl) rfl ?_
        refine x_ialdSe (E_X10_line_0 25 rfl) rfl ⟨a0.1, show k < 11 by omega⟩ (by decide) eL ?_
        refine x_iconst (E_X10_line_0 26 rfl) ?_
        refine x_icmp_eq (E_X10_line_0 27 rfl) (by omega) (by decide) (fun c7 => ?_) (fun c7 => ?_)
        · refine x_iconst (E_X10_line_0 30 rfl) ?_
          refine x_istore (E_X10_line_0 31 rfl) rfl ?_
          exact j58 _ _ _ (by omega) (by omega) (by omega) a0
        · refine x_iconst (E_X10_line_0 28 rfl) ?_
          refine x_goto (E_X10_line_0 29 rfl) ?_
          refine x_istore (E_X10_line_0 31 rfl) rfl ?_
          exact j58 _ _ _ (by omega) (by omega) (by omega) a0
      · refine x_iconst (E_X10_line_0 19 rfl) ?_
        refine x_goto (E_X10_line_0 20 rfl) ?_
        refine x_istore (E_X10_line_0 22 rfl) rfl ?_
        refine x_gets (i := 1) (E_X10_line_0 23 rfl) rfl sl_X10_130 ?_
        refine x_iload_n (E_X10_line_0 24 rfl) rfl ?_
        refine x_ialdSe (E_X10_line_0 25 rfl) rfl ⟨a0.1, show k < 11 by omega⟩ (by decide) eL ?_
        refine x_iconst (E_X10_line_0 26 rfl) ?_
        refine x_icmp_eq (E_X10_line_0 27 rfl) (by omega) (by decide) (fun c8 => ?_) (fun c8 => ?_)
        · refine x_iconst (E_X10_line_0 30 rfl) ?_
          refine x_istore (E_X10_line_0 31 rfl) rfl ?_
          exact j58 _ _ _ (by omega) (by omega) (by omega) a0
        · refine x_iconst (E_X10_line_0 28 rfl) ?_
          refine x_goto (E_X10_line_0 29 rfl) ?_
          refine x_istore (E_X10_line_0 31 rfl) rfl ?_
          exact j58 _ _ _ (by omega) (by omega) (by omega) a0
  · refine x_if_ne (E_X10_line_0 4 rfl) (by decide) (fun c9 => absurd c9 (by decide)) (fun _ => ?_)
    refine x_sipush (z := (-1002)) (E_X10_line_0 5 rfl) (by decide) ?_
    refine z_iret (E_X10_line_0 6 rfl) trivial ?_
    exact Or.inl ⟨by omega, rfl, rfl⟩

theorem c_X11_line {k d t p q n v5 v6 v7 : Int} (q1 : rgi k) (q2 : rgi d) (q3 : rgi t) (q4 : rgi p) (q5 : rgi q) (q6 : rgi n) (w5 : ((k = 0 ∨ k = 1 ∨ k = 3 ∨ k = 5 ∨ k = 9) ∧ v5 = p) ∨ (¬ (k = 0 ∨ k = 1 ∨ k = 3 ∨ k = 5 ∨ k = 9) ∧ v5 = -1)) (w6 : (k = 1 ∧ v6 = q) ∨ (k ≠ 1 ∧ v6 = -1)) (w7 : ((k ≤ 3 ∨ k = 7 ∨ k = 8) ∧ v7 = n) ∨ (¬ (k ≤ 3 ∨ k = 7 ∨ k = 8) ∧ v7 = -1)) (h1 : 0 ≤ σ 114 0 ∧ σ 114 0 ≤ 2000) (h0 : 0 ≤ σ 114 1 ∧ σ 114 1 ≤ 12) (hn : 0 ≤ σ 114 9 ∧ σ 114 9 ≤ 120) (hk : ∀ i, 0 ≤ i → i < σ 114 9 → 0 ≤ σ 122 i ∧ σ 122 i ≤ 10) : CI l G M_X11_line 3 [vr 114, vi k, vi d, vi t, vi p, vi q, vi n] σ (fun z τ => LnP (0 ≤ k ∧ k ≤ 10) (tgtQ (σ 114 1) (σ 114 9) (σ 122) k t ∧ ((k = 0 ∨ k = 1 ∨ k = 3 ∨ k = 5 ∨ k = 9) → 0 ≤ p ∧ p ≤ 7) ∧ (k = 1 → 0 ≤ q ∧ q ≤ 7)) ((0 ≤ d ∧ d ≤ σ 114 0) ∧ ((k ≤ 3 ∨ k = 7 ∨ k = 8) → leastQ k ≤ n ∧ n ≤ mostNQ k)) (σ 114 9 < 120) (σ 114 9) (τ = σ) ((τ 122 = (fun i => if i = σ 114 9 then k else σ 122 i) ∧ τ 123 = (fun i => if i = σ 114 9 then d else σ 123 i) ∧ τ 124 = (fun i => if i = σ 114 9 then σ 114 0 else σ 124 i) ∧ τ 125 = (fun i => if i = σ 114 9 then t else σ 125 i) ∧ τ 126 = (fun i => if i = σ 114 9 then v5 else σ 126 i) ∧ τ 127 = (fun i => if i = σ 114 9 then v6 else σ 127 i) ∧ τ 128 = (fun i => if i = σ 114 9 then v7 else σ 128 i)) ∧ τ 114 9 = σ 114 9 + 1 ∧ Fr [114, 122, 123, 124, 125, 126, 127, 128] σ τ ∧ Fo 114 [9] σ τ) z) := by
  have hlm := lm_cs (k := k)
  refine Ct.of rfl (Nat.le_of_ble_eq_true rfl) ?_
  have j113 : (0 ≤ k ∧ k ≤ 10) → (tgtQ (σ 114 1) (σ 114 9) (σ 122) k t ∧ ((k = 0 ∨ k = 1 ∨ k = 3 ∨ k = 5 ∨ k = 9) → 0 ≤ p ∧ p ≤ 7) ∧ (k = 1 → 0 ≤ q ∧ q ≤ 7)) → ((0 ≤ d ∧ d ≤ σ 114 0) ∧ ((k ≤ 3 ∨ k = 7 ∨ k = 8) → leastQ k ≤ n ∧ n ≤ mostNQ k)) → σ 114 9 < 120 → XI l G M_X11_line 3 113 [some (vr 114), some (vi k), some (vi d), some (vi t), some (vi p), some (vi q), some (vi n)] [] σ (fun z τ => LnP (0 ≤ k ∧ k ≤ 10) (tgtQ (σ 114 1) (σ 114 9) (σ 122) k t ∧ ((k = 0 ∨ k = 1 ∨ k = 3 ∨ k = 5 ∨ k = 9) → 0 ≤ p ∧ p ≤ 7) ∧ (k = 1 → 0 ≤ q ∧ q ≤ 7)) ((0 ≤ d ∧ d ≤ σ 114 0) ∧ ((k ≤ 3 ∨ k = 7 ∨ k = 8) → leastQ k ≤ n ∧ n ≤ mostNQ k)) (σ 114 9 < 120) (σ 114 9) (τ = σ) ((τ 122 = (fun i => if i = σ 114 9 then k else σ 122 i) ∧ τ 123 = (fun i => if i = σ 114 9 then d else σ 123 i) ∧ τ 124 = (fun i => if i = σ 114 9 then σ 114 0 else σ 124 i) ∧ τ 125 = (fun i => if i = σ 114 9 then t else σ 125 i) ∧ τ 126 = (fun i => if i = σ 114 9 then v5 else σ 126 i) ∧ τ 127 = (fun i => if i = σ 114 9 then v6 else σ 127 i) ∧ τ 128 = (fun i => if i = σ 114 9 then v7 else σ 128 i)) ∧ τ 114 9 = σ 114 9 + 1 ∧ Fr [114, 122, 123, 124, 125, 126, 127, 128] σ τ ∧ Fo 114 [9] σ τ) z) := by
    intro a0 a1 a2 a3
    refine x_aload_n (E_X11_line_0 55 rfl) rfl ?_
    refine x_getR (E_X11_line_0 56 rfl) fl_X11_31 rfl (by decide) rfl ?_
    refine x_aload_n (E_X11_line_0 57 rfl) rfl ?_
    refine x_getIe (v := σ 114 9) (E_X11_line_0 58 rfl) fl_X11_227 rfl (by decide) rfl ?_
    refine x_iload_n (E_X11_line_0 59 rfl) rfl ?_
    refine x_iast (E_X11_line_1 0 rfl) rfl (by decide) (by omega) ?_
    refine x_aload_n (E_X11_line_1 1 rfl) rfl ?_
    refine x_getR (E_X11_line_1 2 rfl) fl_X11_34 rfl (by decide) rfl ?_
    refine x_aload_n (E_X11_line_1 3 rfl) rfl ?_
    refine x_getIe (v := σ 114 9) (E_X11_line_1 4 rfl) fl_X11_227 rfl (by decide) rfl ?_
    refine x_iload_n (E_X11_line_1 5 rfl) rfl ?_
    refine x_iast (E_X11_line_1 6 rfl) rfl (by decide) (by omega) ?_
    refine x_aload_n (E_X11_line_1 7 rfl) rfl ?_
    refine x_getR (E_X11_line_1 8 rfl) fl_X11_37 rfl (by decide) rfl ?_
    refine x_aload_n (E_X11_line_1 9 rfl) rfl ?_
    refine x_getIe (v := σ 114 9) (E_X11_line_1 10 rfl) fl_X11_227 rfl (by decide) rfl ?_
    refine x_aload_n (E_X11_line_1 11 rfl) rfl ?_
    refine x_getIe (v := σ 114 0) (E_X11_line_1 12 rfl) fl_X11_205 rfl (by decide) rfl ?_
    refine x_iast (E_X11_line_1 13 rfl) rfl (by decide) (by omega) ?_
    refine x_aload_n (E_X11_line_1 14 rfl) rfl ?_
    refine x_getR (E_X11_line_1 15 rfl) fl_X11_40 rfl (by decide) rfl ?_
    refine x_aload_n (E_X11_line_1 16 rfl) rfl ?_
    refine x_getIe (v := σ 114 9) (E_X11_line_1 17 rfl) fl_X11_227 rfl (by decide) rfl ?_
    refine x_iload_n (E_X11_line_1 18 rfl) rfl ?_
    refine x_iast (E_X11_line_1 19 rfl) rfl (by decide) (by omega) ?_
    refine x_aload_n (E_X11_line_1 20 rfl) rfl ?_
    refine x_getR (E_X11_line_1 21 rfl) fl_X11_43 rfl (by decide) rfl ?_
    refine x_aload_n (E_X11_line_1 22 rfl) rfl ?_
    refine x_getIe (v := σ 114 9) (E_X11_line_1 23 rfl) fl_X11_227 rfl (by decide) rfl ?_
    refine x_iload_n (E_X11_line_1 24 rfl) rfl ?_
    refine z_callSi (E_X11_line_1 25 rfl) ml_X11_242 ms_X11_hasP (c_X11_hasP (by omega)) (by decide) rfl rfl (Nat.le_of_ble_eq_true rfl) (fun z9 τ9 h9 => ?_)
    obtain ⟨rfl, ⟨rfl, c1⟩ | ⟨rfl, c1⟩⟩ := h9
    · refine x_if_eq (E_X11_line_1 26 rfl) (by decide) (fun c9 => absurd c9 (by decide)) (fun _ => ?_)
      obtain rfl : v5 = p := by omega
      refine x_iload (E_X11_line_1 27 rfl) rfl ?_
      refine x_goto (E_X11_line_1 28 rfl) ?_
      refine x_iast (E_X11_line_1 30 rfl) rfl (by decide) (by omega) ?_
      refine x_aload_n (E_X11_line_1 31 rfl) rfl ?_
      refine x_getR (E_X11_line_1 32 rfl) fl_X11_46 rfl (by decide) rfl ?_
      refine x_aload_n (E_X11_line_1 33 rfl) rfl ?_
      refine x_getIe (v := σ 114 9) (E_X11_line_1 34 rfl) fl_X11_227 rfl (by decide) rfl ?_
      refine x_iload_n (E_X11_line_1 35 rfl) rfl ?_
      refine x_iconst (E_X11_line_1 36 rfl) ?_
      refine x_icmp_ne (E_X11_line_1 37 rfl) (by omega) (by decide) (fun c2 => ?_) (fun c2 => ?_)
      · obtain rfl : v6 = -1 := by omega
        refine x_iconst (E_X11_line_1 40 rfl) ?_
        refine x_iast (E_X11_line_1 41 rfl) rfl (by decide) (by omega) ?_
        refine x_aload_n (E_X11_line_1 42 rfl) rfl ?_
        refine x_getR (E_X11_line_1 43 rfl) fl_X11_49 rfl (by decide) rfl ?_
        refine x_aload_n (E_X11_line_1 44 rfl) rfl ?_
        refine x_getIe (v := σ 114 9) (E_X11_line_1 45 rfl) fl_X11_227 rfl (by decide) rfl ?_
        refine x_iload_n (E_X11_line_1 46 rfl) rfl ?_
        refine z_callSi (E_X11_line_1 47 rfl) ml_X11_248 ms_X11_hasMany (c_X11_hasMany (by omega)) (by decide) rfl rfl (Nat.le_of_ble_eq_true rfl) (fun z9 τ9 h9 => ?_)
        obtain ⟨rfl, ⟨rfl, c3⟩ | ⟨rfl, c3⟩⟩ := h9
        · refine x_if_eq (E_X11_line_1 48 rfl) (by decide) (fun c9 => absurd c9 (by decide)) (fun _ => ?_)
          obtain rfl : v7 = n := by omega
          refine x_iload (E_X11_line_1 49 rfl) rfl ?_
          refine x_goto (E_X11_line_1 50 rfl) ?_
          refine x_iast (E_X11_line_1 52 rfl) rfl (by decide) (by omega) ?_
          refine x_aload_n (E_X11_line_1 53 rfl) rfl ?_
          refine x_dupr (E_X11_line_1 54 rfl) ?_
          refine x_getIe (v := σ 114 9) (E_X11_line_1 55 rfl) fl_X11_227 rfl (by decide) rfl ?_
          refine x_iconst (E_X11_line_1 56 rfl) ?_
          refine x_iadd (E_X11_line_1 57 rfl) ?_
          refine x_putI (E_X11_line_1 58 rfl) fl_X11_227 rfl (by decide) ?_
          refine x_aload_n (E_X11_line_1 59 rfl) rfl ?_
          refine x_getI (E_X11_line_2 0 rfl) fl_X11_227 rfl (by decide) ?_
          refine x_iconst (E_X11_line_2 1 rfl) ?_
          refine x_isub (E_X11_line_2 2 rfl) ?_
          refine z_iret (E_X11_line_2 3 rfl) trivial ?_
          exact Or.inr (Or.inr (Or.inr (Or.inr ⟨a0, a1, a2, a3, show σ 114 9 + 1 - 1 = _ by omega, ⟨rfl, rfl, rfl, rfl, rfl, rfl, rfl⟩, rfl, (((((((Fr.rf.up (by decide)).up (by decide)).up (by decide)).up (by decide)).up (by decide)).up (by decide)).up (by decide)).up (by decide), Fo.up (((((((Fo.rf.un (by decide)).un (by decide)).un (by decide)).un (by decide)).un (by decide)).un (by decide)).un (by decide)) (by decide)⟩)))
        · refine x_if_eq (E_X11_line_1 48 rfl) (by decide) (fun _ => ?_) (fun c9 => absurd (by decide) c9)
          obtain rfl : v7 = -1 := by omega
          refine x_iconst (E_X11_line_1 51 rfl) ?_
          refine x_iast (E_X11_line_1 52 rfl) rfl (by decide) (by omega) ?_
          refine x_aload_n (E_X11_line_1 53 rfl) rfl ?_
          refine x_dupr (E_X11_line_1 54 rfl) ?_
          refine x_getIe (v := σ 114 9) (E_X11_line_1 55 rfl) fl_X11_227 rfl (by decide) rfl ?_
          refine x_iconst (E_X11_line_1 56 rfl) ?_
          refine x_iadd (E_X11_line_1 57 rfl) ?_
          refine x_putI (E_X11_line_1 58 rfl) fl_X11_227 rfl (by decide) ?_
          refine x_aload_n (E_X11_line_1 59 rfl) rfl ?_
          refine x_getI (E_X11_line_2 0 rfl) fl_X11_227 rfl (by decide) ?_
          refine x_iconst (E_X11_line_2 1 rfl) ?_
          refine x_isub (E_X11_line_2 2 rfl) ?_
          refine z_iret (E_X11_line_2 3 rfl) trivial ?_
          exact Or.inr (Or.inr (Or.inr (Or.inr ⟨a0, a1, a2, a3, show σ 114 9 + 1 - 1 = _ by omega, ⟨rfl, rfl, rfl, rfl, rfl, rfl, rfl⟩, rfl, (((((((Fr.rf.up (by decide)).up (by decide)).up (by decide)).up (by decide)).up (by decide)).up (by decide)).up (by decide)).up (by decide), Fo.up (((((((Fo.rf.un (by decide)).un (by decide)).un (by decide)).un (by decide)).un (by decide)).un (by decide)).un (by decide)) (by decide)⟩)))
      · obtain rfl : v6 = q := by omega
        refine x_iload (E_X11_line_1 38 rfl) rfl ?_
        refine x_goto (E_X11_line_1 39 rfl) ?_
        refine x_iast (E_X11_line_1 41 rfl) rfl (by decide) (by omega) ?_
        refine x_aload_n (E_X11_line_1 42 rfl) rfl ?_
        refine x_getR (E_X11_line_1 43 rfl) fl_X11_49 rfl (by decide) rfl ?_
        refine x_aload_n (E_X11_line_1 44 rfl) rfl ?_
        refine x_getIe (v := σ 114 9) (E_X11_line_1 45 rfl) fl_X11_227 rfl (by decide) rfl ?_
        refine x_iload_n (E_X11_line_1 46 rfl) rfl ?_
        refine z_callSi (E_X11_line_1 47 rfl) ml_X11_248 ms_X11_hasMany (c_X11_hasMany (by omega)) (by decide) rfl rfl (Nat.le_of_ble_eq_true rfl) (fun z9 τ9 h9 => ?_)
        obtain ⟨rfl, ⟨rfl, c4⟩ | ⟨rfl, c4⟩⟩ := h9
        · refine x_if_eq (E_X11_line_1 48 rfl) (by decide) (fun c9 => absurd c9 (by decide)) (fun _ => ?_)
          obtain rfl : v7 = n := by omega
          refine x_iload (E_X11_line_1 49 rfl) rfl ?_
          refine x_goto (E_X11_line_1 50 rfl) ?_
          refine x_iast (E_X11_line_1 52 rfl) rfl (by decide) (by omega) ?_
          refine x_aload_n (E_X11_line_1 53 rfl) rfl ?_
          refine x_dupr (E_X11_line_1 54 rfl) ?_
          refine x_getIe (v := σ 114 9) (E_X11_line_1 55 rfl) fl_X11_227 rfl (by decide) rfl ?_
          refine x_iconst (E_X11_line_1 56 rfl) ?_
          refine x_iadd (E_X11_line_1 57 rfl) ?_
          refine x_putI (E_X11_line_1 58 rfl) fl_X11_227 rfl (by decide) ?_
          refine x_aload_n (E_X11_line_1 59 rfl) rfl ?_
          refine x_getI (E_X11_line_2 0 rfl) fl_X11_227 rfl (by decide) ?_
          refine x_iconst (E_X11_line_2 1 rfl) ?_
          refine x_isub (E_X11_line_2 2 rfl) ?_
          refine z_iret (E_X11_line_2 3 rfl) trivial ?_
          exact Or.inr (Or.inr (Or.inr (Or.inr ⟨a0, a1, a2, a3, show σ 114 9 + 1 - 1 = _ by omega, ⟨rfl, rfl, rfl, rfl, rfl, rfl, rfl⟩, rfl, (((((((Fr.rf.up (by decide)).up (by decide)).up (by decide)).up (by decide)).up (by decide)).up (by decide)).up (by decide)).up (by decide), Fo.up (((((((Fo.rf.un (by decide)).un (by decide)).un (by decide)).un (by decide)).un (by decide)).un (by decide)).un (by decide)) (by decide)⟩)))
        · refine x_if_eq (E_X11_line_1 48 rfl) (by decide) (fun _ => ?_) (fun c9 => absurd (by decide) c9)
          obtain rfl : v7 = -1 := by omega
          refine x_iconst (E_X11_line_1 51 rfl) ?_
          refine x_iast (E_X11_line_1 52 rfl) rfl (by decide) (by omega) ?_
          refine x_aload_n (E_X11_line_1 53 rfl) rfl ?_
          refine x_dupr (E_X11_line_1 54 rfl) ?_
          refine x_getIe (v := σ 114 9) (E_X11_line_1 55 rfl) fl_X11_227 rfl (by decide) rfl ?_
          refine x_iconst (E_X11_line_1 56 rfl) ?_
          refine x_iadd (E_X11_line_1 57 rfl) ?_
          refine x_putI (E_X11_line_1 58 rfl) fl_X11_227 rfl (by decide) ?_
          refine x_aload_n (E_X11_line_1 59 rfl) rfl ?_
          refine x_getI (E_X11_line_2 0 rfl) fl_X11_227 rfl (by decide) ?_
          refine x_iconst (E_X11_line_2 1 rfl) ?_
          refine x_isub (E_X11_line_2 2 rfl) ?_
          refine z_iret (E_X11_line_2 3 rfl) trivial ?_
          exact Or.inr (Or.inr (Or.inr (Or.inr ⟨a0, a1, a2, a3, show σ 114 9 + 1 - 1 = _ by omega, ⟨rfl, rfl, rfl, rfl, rfl, rfl, rfl⟩, rfl, (((((((Fr.rf.up (by decide)).up (by decide)).up (by decide)).up (by decide)).up (by decide)).up (by decide)).up (by decide)).up (by decide), Fo.up (((((((Fo.rf.un (by decide)).un (by decide)).un (by decide)).un (by decide)).un (by decide)).un (by decide)).un (by decide)) (by decide)⟩)))
    · refine x_if_eq (E_X11_line_1 26 rfl) (by decide) (fun _ => ?_) (fun c9 => absurd (by decide) c9)
      obtain rfl : v5 = -1 := by omega
      refine x_iconst (E_X11_line_1 29 rfl) ?_
      refine x_iast (E_X11_line_1 30 rfl) rfl (by decide) (by omega) ?_
      refine x_aload_n (E_X11_line_1 31 rfl) rfl ?_
      refine x_getR (E_X11_line_1 32 rfl) fl_X11_46 rfl (by decide) rfl ?_
      refine x_aload_n (E_X11_line_1 33 rfl) rfl ?_
      refine x_getIe (v := σ 114 9) (E_X11_line_1 34 rfl) fl_X11_227 rfl (by decide) rfl ?_
      refine x_iload_n (E_X11_line_1 35 rfl) rfl ?_
      refine x_iconst (E_X11_line_1 36 rfl) ?_
      refine x_icmp_ne (E_X11_line_1 37 rfl) (by omega) (by decide) (fun c5 => ?_) (fun c5 => ?_)
      · obtain rfl : v6 = -1 := by omega
        refine x_iconst (E_X11_line_1 40 rfl) ?_
        refine x_iast (E_X11_line_1 41 rfl) rfl (by decide) (by omega) ?_
        refine x_aload_n (E_X11_line_1 42 rfl) rfl ?_
        refine x_getR (E_X11_line_1 43 rfl) fl_X11_49 rfl (by decide) rfl ?_
        refine x_aload_n (E_X11_line_1 44 rfl) rfl ?_
        refine x_getIe (v := σ 114 9) (E_X11_line_1 45 rfl) fl_X11_227 rfl (by decide) rfl ?_
        refine x_iload_n (E_X11_line_1 46 rfl) rfl ?_
        refine z_callSi (E_X11_line_1 47 rfl) ml_X11_248 ms_X11_hasMany (c_X11_hasMany (by omega)) (by decide) rfl rfl (Nat.le_of_ble_eq_true rfl) (fun z9 τ9 h9 => ?_)
        obtain ⟨rfl, ⟨rfl, c6⟩ | ⟨rfl, c6⟩⟩ := h9
        · refine x_if_eq (E_X11_line_1 48 rfl) (by decide) (fun c9 => absurd c9 (by decide)) (fun _ => ?_)
          obtain rfl : v7 = n := by omega
          refine x_iload (E_X11_line_1 49 rfl) rfl ?_
          refine x_goto (E_X11_line_1 50 rfl) ?_
          refine x_iast (E_X11_line_1 52 rfl) rfl (by decide) (by omega) ?_
          refine x_aload_n (E_X11_line_1 53 rfl) rfl ?_
          refine x_dupr (E_X11_line_1 54 rfl) ?_
          refine x_getIe (v := σ 114 9) (E_X11_line_1 55 rfl) fl_X11_227 rfl (by decide) rfl ?_
          refine x_iconst (E_X11_line_1 56 rfl) ?_
          refine x_iadd (E_X11_line_1 57 rfl) ?_
          refine x_putI (E_X11_line_1 58 rfl) fl_X11_227 rfl (by decide) ?_
          refine x_aload_n (E_X11_line_1 59 rfl) rfl ?_
          refine x_getI (E_X11_line_2 0 rfl) fl_X11_227 rfl (by decide) ?_
          refine x_iconst (E_X11_line_2 1 rfl) ?_
          refine x_isub (E_X11_line_2 2 rfl) ?_
          refine z_iret (E_X11_line_2 3 rfl) trivial ?_
          exact Or.inr (Or.inr (Or.inr (Or.inr ⟨a0, a1, a2, a3, show σ 114 9 + 1 - 1 = _ by omega, ⟨rfl, rfl, rfl, rfl, rfl, rfl, rfl⟩, rfl, (((((((Fr.rf.up (by decide)).up (by decide)).up (by decide)).up (by decide)).up (by decide)).up (by decide)).up (by decide)).up (by decide), Fo.up (((((((Fo.rf.un (by decide)).un (by decide)).un (by decide)).un (by decide)).un (by decide)).un (by decide)).un (by decide)) (by decide)⟩)))
        · refine x_if_eq (E_X11_line_1 48 rfl) (by decide) (fun _ => ?_) (fun c9 => absurd (by decide) c9)
          obtain rfl : v7 = -1 := by omega
          refine x_iconst (E_X11_line_1 51 rfl) ?_
          refine x_iast (E_X11_line_1 52 rfl) rfl (by decide) (by omega) ?_
          refine x_aload_n (E_X11_line_1 53 rfl) rfl ?_
          refine x_dupr (E_X11_line_1 54 rfl) ?_
          refine x_getIe (v := σ 114 9) (E_X11_line_1 55 rfl) fl_X11_227 rfl (by decide) rfl ?_
          refine x_iconst (E_X11_line_1 56 rfl) ?_
          refine x_iadd (E_X11_line_1 57 rfl) ?_
          refine x_putI (E_X11_line_1 58 rfl) fl_X11_227 rfl (by decide) ?_
          refine x_aload_n (E_X11_line_1 59 rfl) rfl ?_
          refine x_getI (E_X11_line_2 0 rfl) fl_X11_227 rfl (by decide) ?_
          refine x_iconst (E_X11_line_2 1 rfl) ?_
          refine x_isub (E_X11_line_2 2 rfl) ?_
          refine z_iret (E_X11_line_2 3 rfl) trivial ?_
          exact Or.inr (Or.inr (Or.inr (Or.inr ⟨a0, a1, a2, a3, show σ 114 9 + 1 - 1 = _ by omega, ⟨rfl, rfl, rfl, rfl, rfl, rfl, rfl⟩, rfl, (((((((Fr.rf.up (by decide)).up (by decide)).up (by decide)).up (by decide)).up (by decide)).up (by decide)).up (by decide)).up (by decide), Fo.up (((((((Fo.rf.un (by decide)).un (by decide)).un (by decide)).un (by decide)).un (by decide)).un (by decide)).un (by decide)) (by decide)⟩)))
      · obtain rfl : v6 = q := by omega
        refine x_iload (E_X11_line_1 38 rfl) rfl ?_
        refine x_goto (E_X11_line_1 39 rfl) ?_
        refine x_iast (E_X11_line_1 41 rfl) rfl (by decide) (by omega) ?_
        refine x_aload_n (E_X11_line_1 42 rfl) rfl ?_
        refine x_getR (E_X11_line_1 43 rfl) fl_X11_49 rfl (by decide) rfl ?_
        refine x_aload_n (E_X11_line_1 44 rfl) rfl ?_
        refine x_getIe (v := σ 114 9) (E_X11_line_1 45 rfl) fl_X11_227 rfl (by decide) rfl ?_
        refine x_iload_n (E_X11_line_1 46 rfl) rfl ?_
        refine z_callSi (E_X11_line_1 47 rfl) ml_X11_248 ms_X11_hasMany (c_X11_hasMany (by omega)) (by decide) rfl rfl (Nat.le_of_ble_eq_true rfl) (fun z9 τ9 h9 => ?_)
        obtain ⟨rfl, ⟨rfl, c7⟩ | ⟨rfl, c7⟩⟩ := h9
        · refine x_if_eq (E_X11_line_1 48 rfl) (by decide) (fun c9 => absurd c9 (by decide)) (fun _ => ?_)
          obtain rfl : v7 = n := by omega
          refine x_iload (E_X11_line_1 49 rfl) rfl ?_
          refine x_goto (E_X11_line_1 50 rfl) ?_
          refine x_iast (E_X11_line_1 52 rfl) rfl (by decide) (by omega) ?_
          refine x_aload_n (E_X11_line_1 53 rfl) rfl ?_
          refine x_dupr (E_X11_line_1 54 rfl) ?_
          refine x_getIe (v := σ 114 9) (E_X11_line_1 55 rfl) fl_X11_227 rfl (by decide) rfl ?_
          refine x_iconst (E_X11_line_1 56 rfl) ?_
          refine x_iadd (E_X11_line_1 57 rfl) ?_
          refine x_putI (E_X11_line_1 58 rfl) fl_X11_227 rfl (by decide) ?_
          refine x_aload_n (E_X11_line_1 59 rfl) rfl ?_
          refine x_getI (E_X11_line_2 0 rfl) fl_X11_227 rfl (by decide) ?_
          refine x_iconst (E_X11_line_2 1 rfl) ?_
          refine x_isub (E_X11_line_2 2 rfl) ?_
          refine z_iret (E_X11_line_2 3 rfl) trivial ?_
          exact Or.inr (Or.inr (Or.inr (Or.inr ⟨a0, a1, a2, a3, show σ 114 9 + 1 - 1 = _ by omega, ⟨rfl, rfl, rfl, rfl, rfl, rfl, rfl⟩, rfl, (((((((Fr.rf.up (by decide)).up (by decide)).up (by decide)).up (by decide)).up (by decide)).up (by decide)).up (by decide)).up (by decide), Fo.up (((((((Fo.rf.un (by decide)).un (by decide)).un (by decide)).un (by decide)).un (by decide)).un (by decide)).un (by decide)) (by decide)⟩)))
        · refine x_if_eq (E_X11_line_1 48 rfl) (by decide) (fun _ => ?_) (fun c9 => absurd (by decide) c9)
          obtain rfl : v7 = -1 := by omega
          refine x_iconst (E_X11_line_1 51 rfl) ?_
          refine x_iast (E_X11_line_1 52 rfl) rfl (by decide) (by omega) ?_
          refine x_aload_n (E_X11_line_1 53 rfl) rfl ?_
          refine x_dupr (E_X11_line_1 54 rfl) ?_
          refine x_getIe (v := σ 114 9) (E_X11_line_1 55 rfl) fl_X11_227 rfl (by decide) rfl ?_
          refine x_iconst (E_X11_line_1 56 rfl) ?_
          refine x_iadd (E_X11_line_1 57 rfl) ?_
          refine x_putI (E_X11_line_1 58 rfl) fl_X11_227 rfl (by decide) ?_
          refine x_aload_n (E_X11_line_1 59 rfl) rfl ?_
          refine x_getI (E_X11_line_2 0 rfl) fl_X11_227 rfl (by decide) ?_
          refine x_iconst (E_X11_line_2 1 rfl) ?_
          refine x_isub (E_X11_line_2 2 rfl) ?_
          refine z_iret (E_X11_line_2 3 rfl) trivial ?_
          exact Or.inr (Or.inr (Or.inr (Or.inr ⟨a0, a1, a2, a3, show σ 114 9 + 1 - 1 = _ by omega, ⟨rfl, rfl, rfl, rfl, rfl, rfl, rfl⟩, rfl, (((((((Fr.rf.up (by decide)).up (by decide)).up (by decide)).up (by decide)).up (by decide)).up (by decide)).up (by decide)).up (by decide), Fo.up (((((((Fo.rf.un (by decide)).un (by decide)).un (by decide)).un (by decide)).un (by decide)).un (by decide)).un (by decide)) (by decide)⟩)))
  have j57 : (0 ≤ k ∧ k ≤ 10) → (tgtQ (σ 114 1) (σ 114 9) (σ 122) k t ∧ ((k = 0 ∨ k = 1 ∨ k = 3 ∨ k = 5 ∨ k = 9) → 0 ≤ p ∧ p ≤ 7) ∧ (k = 1 → 0 ≤ q ∧ q ≤ 7)) → XI l G M_X11_line 3 57 [some (vr 114), some (vi k), some (vi d), some (vi t), some (vi p), some (vi q), some (vi n)] [] σ (fun z τ => LnP (0 ≤ k ∧ k ≤ 10) (tgtQ (σ 114 1) (σ 114 9) (σ 122) k t ∧ ((k = 0 ∨ k = 1 ∨ k = 3 ∨ k = 5 ∨ k = 9) → 0 ≤ p ∧ p ≤ 7) ∧ (k = 1 → 0 ≤ q ∧ q ≤ 7)) ((0 ≤ d ∧ d ≤ σ 114 0) ∧ ((k ≤ 3 ∨ k = 7 ∨ k = 8) → leastQ k ≤ n ∧ n ≤ mostNQ k)) (σ 114 9 < 120) (σ 114 9) (τ = σ) ((τ 122 = (fun i => if i = σ 114 9 then k else σ 122 i) ∧ τ 123 = (fun i => if i = σ 114 9 then d else σ 123 i) ∧ τ 124 = (fun i => if i = σ 114 9 then σ 114 0 else σ 124 i) ∧ τ 125 = (fun i => if i = σ 114 9 then t else σ 125 i) ∧ τ 126 = (fun i => if i = σ 114 9 then v5 else σ 126 i) ∧ τ 127 = (fun i => if i = σ 114 9 then v6 else σ 127 i) ∧ τ 128 = (fun i => if i = σ 114 9 then v7 else σ 128 i)) ∧ τ 114 9 = σ 114 9 + 1 ∧ Fr [114, 122, 123, 124, 125, 126, 127, 128] σ τ ∧ Fo 114 [9] σ τ) z) := by
    intro a0 a1
    refine x_aload_n (E_X11_line_0 27 rfl) rfl ?_
    refine x_iload_n (E_X11_line_0 28 rfl) rfl ?_
    refine z_callVi (E_X11_line_0 29 rfl) ml_X11_245 mv_X11_isKnown rfl (by decide) (by decide) (c_X11_isKnown (by omega) (by omega)) (by decide) rfl rfl (Nat.le_of_ble_eq_true rfl) (fun z9 τ9 h9 => ?_)
    obtain ⟨rfl, ⟨rfl, c1⟩ | ⟨rfl, c1⟩⟩ := h9
    · refine x_if_eq (E_X11_line_0 30 rfl) (by decide) (fun c9 => absurd c9 (by decide)) (fun _ => ?_)
      refine x_iload_n (E_X11_line_0 31 rfl) rfl ?_
      refine z_callSi (E_X11_line_0 32 rfl) ml_X11_248 ms_X11_hasMany (c_X11_hasMany (by omega)) (by decide) rfl rfl (Nat.le_of_ble_eq_true rfl) (fun z9 τ9 h9 => ?_)
      obtain ⟨rfl, ⟨rfl, c2⟩ | ⟨rfl, c2⟩⟩ := h9
      · refine x_if_eq (E_X11_line_0 33 rfl) (by decide) (fun c9 => absurd c9 (by decide)) (fun _ => ?_)
        refine x_iload (E_X11_line_0 34 rfl) rfl ?_
        refine x_i2l (E_X11_line_0 35 rfl) (by omega) ?_
        refine x_iload_n (E_X11_line_0 36 rfl) rfl ?_
        refine x_iconst (E_X11_line_0 37 rfl) ?_
        refine x_icmp_ne (E_X11_line_0 38 rfl) (by omega) (by decide) (fun c3 => ?_) (fun c3 => ?_)
        · refine x_lconst (z := 1) (E_X11_line_0 41 rfl) rfl ?_
          refine x_iload_n (E_X11_line_0 42 rfl) rfl ?_
          refine z_callSi (E_X11_line_0 43 rfl) ml_X11_251 ms_X11_mostOf (c_X11_mostOf (by omega)) (by decide) rfl rfl (Nat.le_of_ble_eq_true rfl) (fun z9 τ9 h9 => ?_)
          obtain ⟨rfl, rfl⟩ := h9
          refine x_i2l (E_X11_line_0 44 rfl) (by omega) ?_
          refine z_callSi (E_X11_line_0 45 rfl) ml_X11_197 ms_X11_in (c_X11_in (by omega) (by omega) (by omega)) (by decide) rfl rfl (Nat.le_of_ble_eq_true rfl) (fun z9 τ9 h9 => ?_)
          obtain ⟨rfl, ⟨rfl, c4⟩ | ⟨rfl, c4⟩⟩ := h9
          · refine x_if_ne (E_X11_line_0 46 rfl) (by decide) (fun _ => ?_) (fun c9 => absurd c9 (by decide))
            have a2 : (0 ≤ d ∧ d ≤ σ 114 0) ∧ ((k ≤ 3 ∨ k = 7 ∨ k = 8) → leastQ k ≤ n ∧ n ≤ mostNQ k) := ⟨by omega, by omega⟩
            refine x_aload_n (E_X11_line_0 49 rfl) rfl ?_
            refine x_getIe (v := σ 114 9) (E_X11_line_0 50 rfl) fl_X11_227 rfl (by decide) rfl ?_
            refine x_bipush (z := 120) (E_X11_line_0 51 rfl) (by decide) ?_
            refine x_icmp_ne (E_X11_line_0 52 rfl) (by omega) (by decide) (fun c1 => ?_) (fun c1 => ?_)
            · exact j113 a0 a1 a2 (by omega)
            · refine x_sipush (z := (-1004)) (E_X11_line_0 53 rfl) (by decide) ?_
              refine z_iret (E_X11_line_0 54 rfl) trivial ?_
              exact Or.inr (Or.inr (Or.inr (Or.inl ⟨a0, a1, a2, by omega, rfl, rfl⟩)))
          · refine x_if_ne (E_X11_line_0 46 rfl) (by decide) (fun c9 => absurd c9 (by decide)) (fun _ => ?_)
            refine x_sipush (z := (-1002)) (E_X11_line_0 47 rfl) (by decide) ?_
            refine z_iret (E_X11_line_0 48 rfl) trivial ?_
            exact Or.inr (Or.inr (Or.inl ⟨a0, a1, fun h => by have h2 := h.1; have h3 := h.2; omega, rfl, rfl⟩))
        · refine x_lconst (z := 0) (E_X11_line_0 39 rfl) rfl ?_
          refine x_goto (E_X11_line_0 40 rfl) ?_
          refine x_iload_n (E_X11_line_0 42 rfl) rfl ?_
          refine z_callSi (E_X11_line_0 43 rfl) ml_X11_251 ms_X11_mostOf (c_X11_mostOf (by omega)) (by decide) rfl rfl (Nat.le_of_ble_eq_true rfl) (fun z9 τ9 h9 => ?_)
          obtain ⟨rfl, rfl⟩ := h9
          refine x_i2l (E_X11_line_0 44 rfl) (by omega) ?_
          refine z_callSi (E_X11_line_0 45 rfl) ml_X11_197 ms_X11_in (c_X11_in (by omega) (by omega) (by omega)) (by decide) rfl rfl (Nat.le_of_ble_eq_true rfl) (fun z9 τ9 h9 => ?_)
          obtain ⟨rfl, ⟨rfl, c5⟩ | ⟨rfl, c5⟩⟩ := h9
          · refine x_if_ne (E_X11_line_0 46 rfl) (by decide) (fun _ => ?_) (fun c9 => absurd c9 (by decide))
            have a2 : (0 ≤ d ∧ d ≤ σ 114 0) ∧ ((k ≤ 3 ∨ k = 7 ∨ k = 8) → leastQ k ≤ n ∧ n ≤ mostNQ k) := ⟨by omega, by omega⟩
            refine x_aload_n (E_X11_line_0 49 rfl) rfl ?_
            refine x_getIe (v := σ 114 9) (E_X11_line_0 50 rfl) fl_X11_227 rfl (by decide) rfl ?_
            refine x_bipush (z := 120) (E_X11_line_0 51 rfl) (by decide) ?_
            refine x_icmp_ne (E_X11_line_0 52 rfl) (by omega) (by decide) (fun c1 => ?_) (fun c1 => ?_)
            · exact j113 a0 a1 a2 (by omega)
            · refine x_sipush (z := (-1004)) (E_X11_line_0 53 rfl) (by decide) ?_
              refine z_iret (E_X11_line_0 54 rfl) trivial ?_
              exact Or.inr (Or.inr (Or.inr (Or.inl ⟨a0, a1, a2, by omega, rfl, rfl⟩)))
          · refine x_if_ne (E_X11_line_0 46 rfl) (by decide) (fun c9 => absurd c9 (by decide)) (fun _ => ?_)
            refine x_sipush (z := (-1002)) (E_X11_line_0 47 rfl) (by decide) ?_
            refine z_iret (E_X11_line_0 48 rfl) trivial ?_
            exact Or.inr (Or.inr (Or.inl ⟨a0, a1, fun h => by have h2 := h.1; have h3 := h.2; omega, rfl, rfl⟩))
      · refine x_if_eq (E_X11_line_0 33 rfl) (by decide) (fun _ => ?_) (fun c9 => absurd (by decide) c9)
        have a2 : (0 ≤ d ∧ d ≤ σ 114 0) ∧ ((k ≤ 3 ∨ k = 7 ∨ k = 8) → leastQ k ≤ n ∧ n ≤ mostNQ k) := ⟨by omega, by omega⟩
        refine x_aload_n (E_X11_line_0 49 rfl) rfl ?_
        refine x_getIe (v := σ 114 9) (E_X11_line_0 50 rfl) fl_X11_227 rfl (by decide) rfl ?_
        refine x_bipush (z := 120) (E_X11_line_0 51 rfl) (by decide) ?_
        refine x_icmp_ne (E_X11_line_0 52 rfl) (by omega) (by decide) (fun c1 => ?_) (fun c1 => ?_)
        · exact j113 a0 a1 a2 (by omega)
        · refine x_sipush (z := (-1004)) (E_X11_line_0 53 rfl) (by decide) ?_
          refine z_iret (E_X11_line_0 54 rfl) trivial ?_
          exact Or.inr (Or.inr (Or.inr (Or.inl ⟨a0, a1, a2, by omega, rfl, rfl⟩)))
    · refine x_if_eq (E_X11_line_0 30 rfl) (by decide) (fun _ => ?_) (fun c9 => absurd (by decide) c9)
      refine x_sipush (z := (-1002)) (E_X11_line_0 47 rfl) (by decide) ?_
      refine z_iret (E_X11_line_0 48 rfl) trivial ?_
      exact Or.inr (Or.inr (Or.inl ⟨a0, a1, fun h => by have h2 := h.1; have h3 := h.2; omega, rfl, rfl⟩))
  refine x_iload_n (E_X11_line_0 0 rfl) rfl ?_
  refine x_i2l (E_X11_line_0 1 rfl) (by omega) ?_
  refine x_lconst (z := 0) (E_X11_line_0 2 rfl) rfl ?_
  refine x_ldc2 (z := 10) (E_X11_line_0 3 rfl) kc_X11_236 (by decide) ?_
  refine z_callSi (E_X11_line_0 4 rfl) ml_X11_197 ms_X11_in (c_X11_in (by omega) (by omega) (by omega)) (by decide) rfl rfl (Nat.le_of_ble_eq_true rfl) (fun z9 τ9 h9 => ?_)
  obtain ⟨rfl, ⟨rfl, c1⟩ | ⟨rfl, c1⟩⟩ := h9
  · refine x_if_ne (E_X11_line_0 5 rfl) (by decide) (fun _ => ?_) (fun c9 => absurd c9 (by decide))
    have a0 : 0 ≤ k ∧ k ≤ 10 := by omega
    refine x_aload_n (E_X11_line_0 8 rfl) rfl ?_
    refine x_iload_n (E_X11_line_0 9 rfl) rfl ?_
    refine x_iload_n (E_X11_line_0 10 rfl) rfl ?_
    refine z_callVi (E_X11_line_0 11 rfl) ml_X11_238 mv_X11_noTarget rfl (by decide) (by decide) (c_X11_noTarget (by omega) (by omega) h0 hn hk) (by decide) rfl rfl (Nat.le_of_ble_eq_true rfl) (fun z9 τ9 h9 => ?_)
    obtain ⟨rfl, ⟨rfl, c2⟩ | ⟨rfl, c2⟩⟩ := h9
    · refine x_if_ne (E_X11_line_0 12 rfl) (by decide) (fun _ => ?_) (fun c9 => absurd c9 (by decide))
      refine x_sipush (z := (-1001)) (E_X11_line_0 25 rfl) (by decide) ?_
      refine z_iret (E_X11_line_0 26 rfl) trivial ?_
      exact Or.inr (Or.inl ⟨a0, fun h => by first | exact absurd h.1 (by assumption) | (have h2 := h.2.1; have h3 := h.2.2; omega), rfl, rfl⟩)
    · refine x_if_ne (E_X11_line_0 12 rfl) (by decide) (fun c9 => absurd c9 (by decide)) (fun _ => ?_)
      refine x_iload_n (E_X11_line_0 13 rfl) rfl ?_
      refine z_callSi (E_X11_line_0 14 rfl) ml_X11_242 ms_X11_hasP (c_X11_hasP (by omega)) (by decide) rfl rfl (Nat.le_of_ble_eq_true rfl) (fun z9 τ9 h9 => ?_)
      obtain ⟨rfl, ⟨rfl, c3⟩ | ⟨rfl, c3⟩⟩ := h9
      · refine x_if_eq (E_X11_line_0 15 rfl) (by decide) (fun c9 => absurd c9 (by decide)) (fun _ => ?_)
        refine x_iload (E_X11_line_0 16 rfl) rfl ?_
        refine z_callSi (E_X11_line_0 17 rfl) ml_X11_213 ms_X11_isHouse (c_X11_isHouse (by omega)) (by decide) rfl rfl (Nat.le_of_ble_eq_true rfl) (fun z9 τ9 h9 => ?_)
        obtain ⟨rfl, ⟨rfl, c4⟩ | ⟨rfl, c4⟩⟩ := h9
        · refine x_if_eq (E_X11_line_0 18 rfl) (by decide) (fun c9 => absurd c9 (by decide)) (fun _ => ?_)
          refine x_iload_n (E_X11_line_0 19 rfl) rfl ?_
          refine x_iconst (E_X11_line_0 20 rfl) ?_
          refine x_icmp_ne (E_X11_line_0 21 rfl) (by omega) (by decide) (fun c5 => ?_) (fun c5 => ?_)
          · exact j57 a0 ⟨Classical.byContradiction (by assumption), by omega, by omega⟩
          · refine x_iload (E_X11_line_0 22 rfl) rfl ?_
            refine z_callSi (E_X11_line_0 23 rfl) ml_X11_213 ms_X11_isHouse (c_X11_isHouse (by omega)) (by decide) rfl rfl (Nat.le_of_ble_eq_true rfl) (fun z9 τ9 h9 => ?_)
            obtain ⟨rfl, ⟨rfl, c6⟩ | ⟨rfl, c6⟩⟩ := h9
            · refine x_if_ne (E_X11_line_0 24 rfl) (by decide) (fun _ => ?_) (fun c9 => absurd c9 (by decide))
              exact j57 a0 ⟨Classical.byContradiction (by assumption), by omega, by omega⟩
            · refine x_if_ne (E_X11_line_0 24 rfl) (by decide) (fun c9 => absurd c9 (by decide)) (fun _ => ?_)
              refine x_sipush (z := (-1001)) (E_X11_line_0 25 rfl) (by decide) ?_
              refine z_iret (E_X11_line_0 26 rfl) trivial ?_
              exact Or.inr (Or.inl ⟨a0, fun h => by first | exact absurd h.1 (by assumption) | (have h2 := h.2.1; have h3 := h.2.2; omega), rfl, rfl⟩)
        · refine x_if_eq (E_X11_line_0 18 rfl) (by decide) (fun _ => ?_) (fun c9 => absurd (by decide) c9)
          refine x_sipush (z := (-1001)) (E_X11_line_0 25 rfl) (by decide) ?_
          refine z_iret (E_X11_line_0 26 rfl) trivial ?_
          exact Or.inr (Or.inl ⟨a0, fun h => by first | exact absurd h.1 (by assumption) | (have h2 := h.2.1; have h3 := h.2.2; omega), rfl, rfl⟩)
      · refine x_if_eq (E_X11_line_0 15 rfl) (by decide) (fun _ => ?_) (fun c9 => absurd (by decide) c9)
        refine x_iload_n (E_X11_line_0 19 rfl) rfl ?_
        refine x_iconst (E_X11_line_0 20 rfl) ?_
        refine x_icmp_ne (E_X11_line_0 21 rfl) (by omega) (by decide) (fun c7 => ?_) (fun c7 => ?_)
        · exact j57 a0 ⟨Classical.byContradiction (by assumption), by omega, by omega⟩
        · refine x_iload (E_X11_line_0 22 rfl) rfl ?_
          refine z_callSi (E_X11_line_0 23 rfl) ml_X11_213 ms_X11_isHouse (c_X11_isHouse (by omega)) (by decide) rfl rfl (Nat.le_of_ble_eq_true rfl) (fun z9 τ9 h9 => ?_)
          obtain ⟨rfl, ⟨rfl, c8⟩ | ⟨rfl, c8⟩⟩ := h9
          · refine x_if_ne (E_X11_line_0 24 rfl) (by decide) (fun _ => ?_) (fun c9 => absurd c9 (by decide))
            exact j57 a0 ⟨Classical.byContradiction (by assumption), by omega, by omega⟩
          · refine x_if_ne (E_X11_line_0 24 rfl) (by decide) (fun c9 => absurd c9 (by decide)) (fun _ => ?_)
            refine x_sipush (z := (-1001)) (E_X11_line_0 25 rfl) (by decide) ?_
            refine z_iret (E_X11_line_0 26 rfl) trivial ?_
            exact Or.inr (Or.inl ⟨a0, fun h => by first | exact absurd h.1 (by assumption) | (have h2 := h.2.1; have h3 := h.2.2; omega), rfl, rfl⟩)
  · refine x_if_ne (E_X11_line_0 5 rfl) (by decide) (fun c9 => absurd c9 (by decide)) (fun _ => ?_)
    refine x_sipush (z := (-1002)) (E_X11_line_0 6 rfl) (by decide) ?_
    refine z_iret (E_X11_line_0 7 rfl) trivial ?_
    exact Or.inl ⟨by omega, rfl, rfl⟩

