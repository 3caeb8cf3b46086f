/-! pairs: net, sale -/
variable {l : Launch} {G : GC} {σ : Nat → Int → Int}
theorem netS_cong {sl by9 so9 ck sl' by9' so9' ck' : Int → Int} {h so : Int} : ∀ {n : Nat}, (∀ i : Int, 0 ≤ i → i < n → sl' i = sl i ∧ by9' i = by9 i ∧ so9' i = so9 i ∧ ck' i = ck i) → netS sl' by9' so9' ck' h so n = netS sl by9 so9 ck h so n
  | 0, _ => rfl
  | n + 1, q => by
    obtain ⟨a, b, c, d⟩ := q n (by omega) (by omega)
    rw [netS, netS, netS_cong (n := n) (fun i h1 h2 => q i h1 (by omega)), a, b, c, d]
theorem netS_rg {sl by9 so9 ck : Int → Int} {h so : Int} : ∀ {n : Nat}, (∀ i : Int, 0 ≤ i → i < n → 1 ≤ ck i ∧ ck i ≤ 99) → -(99 * (n : Int)) ≤ netS sl by9 so9 ck h so n ∧ netS sl by9 so9 ck h so n ≤ 99 * (n : Int)
  | 0, _ => by simp [netS]
  | n + 1, q => by
    have a := netS_rg (sl := sl) (by9 := by9) (so9 := so9) (h := h) (so := so) (n := n) (fun i h1 h2 => q i h1 (by omega))
    have b := q n (by omega) (by omega)
    rw [netS]
    repeat' split <;> omega
theorem pair_net {h so : Int} (hR : RR σ) (hh : rgi h) (hso : rgi so) : Pair l G M_X10_net 2 M_X11_net 2 [vi h, vi so] σ := by
  have hR0 := hR
  obtain ⟨r1, r2, r3, r4, r5, r6, r7, r8, ⟨e1, h1, ok, hm⟩, r10⟩ := hR
  refine ⟨_, c_X10_net hh hso h1 ok, fun z τ q => ?_⟩
  obtain ⟨rfl, q2⟩ := q
  subst q2
  have hrg := netS_rg (sl := σ 89) (by9 := σ 90) (so9 := σ 91) (ck := σ 92) (h := h) (so := so) (n := (σ 88 7).toNat) (fun i a b => (ok i a (by omega)).2.2.2)
  refine ⟨by omega, CI_mono (c_X11_net hh hso) (fun z τ q => ?_)⟩
  obtain ⟨rfl, q2⟩ := q
  subst q2
  refine ⟨?_, hR0⟩
  by_cases a : (0 ≤ h ∧ h ≤ 7) ∧ 0 ≤ so ∧ so ≤ 3
  · rw [hm h so (by omega) (by omega) (by omega) (by omega)]
  · generalize netS (σ 89) (σ 90) (σ 91) (σ 92) h so (σ 88 7).toNat = A at hrg ⊢
    generalize σ 160 (8 * so + h) = B
    omega
theorem pair_sale {a b so n : Int} (hR : RR σ) (ha : rgi a) (hb : rgi b) (hso : rgi so) (hn : rgi n) : Pair l G M_X10_sale 2 M_X11_sale 2 [vi a, vi b, vi so, vi n] σ := by
  have hR0 := hR
  obtain ⟨r1, r2, r3, r4, r5, r6, r7, r8, ⟨e1, h1, ok, hm⟩, r10⟩ := hR
  refine ⟨_, c_X10_sale ha hb hso hn h1, fun z τ q => ?_⟩
  obtain ⟨rfl, rfl⟩ := q
  refine ⟨by omega, ?_⟩
  by_cases c : ((0 ≤ a ∧ a ≤ 7) ∧ 0 ≤ b ∧ b ≤ 7) ∧ (a ≠ b ∧ (0 ≤ so ∧ so ≤ 3) ∧ 1 ≤ n ∧ n ≤ 99) ∧ σ 88 7 < 24
  · rw [if_pos c]
    refine CI_mono (c_X11_sale ha hb hso hn (show 0 ≤ σ 114 60 ∧ σ 114 60 ≤ 24 by omega)) (fun z τ q => ?_)
    have q1 : z = (if ¬ ((0 ≤ a ∧ a ≤ 7) ∧ 0 ≤ b ∧ b ≤ 7) then -1001 else if ¬ (a ≠ b ∧ (0 ≤ so ∧ so ≤ 3) ∧ 1 ≤ n ∧ n ≤ 99) then -1002 else if 24 ≤ σ 114 60 then -1004 else σ 114 60 + 1) := q.1
    have q2 := q.2.trans (if_pos (show ((0 ≤ a ∧ a ≤ 7) ∧ 0 ≤ b ∧ b ≤ 7) ∧ (a ≠ b ∧ (0 ≤ so ∧ so ≤ 3) ∧ 1 ≤ n ∧ n ≤ 99) ∧ σ 114 60 < 24 by rw [e1]; exact c))
    rw [e1] at q1
    subst q1 q2
    refine ⟨rfl, r1, r2, r3, r4, r5, r6, r7, r8, ⟨?_, show 0 ≤ σ 88 7 + 1 ∧ σ 88 7 + 1 ≤ 24 by omega, fun j h2 h3 => ?_, fun h s9 a1 a2 a3 a4 => ?_⟩, r10⟩
    · show σ 114 60 + 1 = σ 88 7 + 1
      rw [e1]
    · have h3 : j < σ 88 7 + 1 := h3
      show (0 ≤ (if j = σ 88 7 then a else σ 89 j) ∧ (if j = σ 88 7 then a else σ 89 j) ≤ 7) ∧ (0 ≤ (if j = σ 88 7 then b else σ 90 j) ∧ (if j = σ 88 7 then b else σ 90 j) ≤ 7) ∧ (0 ≤ (if j = σ 88 7 then so else σ 91 j) ∧ (if j = σ 88 7 then so else σ 91 j) ≤ 3) ∧ (1 ≤ (if j = σ 88 7 then n else σ 92 j) ∧ (if j = σ 88 7 then n else σ 92 j) ≤ 99)
      by_cases e : j = σ 88 7
      · simp only [if_pos e]; omega
      · simp only [if_neg e]
        exact ok j h2 (by omega)
    · have o := hm h s9 a1 a2 a3 a4
      have key : netS (fun k => if k = σ 88 7 then a else σ 89 k) (fun k => if k = σ 88 7 then b else σ 90 k) (fun k => if k = σ 88 7 then so else σ 91 k) (fun k => if k = σ 88 7 then n else σ 92 k) h s9 (σ 88 7 + 1).toNat = netS (σ 89) (σ 90) (σ 91) (σ 92) h s9 (σ 88 7).toNat + (if so = s9 then (if b = h then n else 0) - (if a = h then n else 0) else 0) := by
        rw [show (σ 88 7 + 1).toNat = (σ 88 7).toNat + 1 by omega, netS, netS_cong (sl := σ 89) (by9 := σ 90) (so9 := σ 91) (ck := σ 92) (fun i h2 h3 => ?_)]
        · have e2 : ((σ 88 7).toNat : Int) = σ 88 7 := by omega
          simp only [e2, if_true]
        · have : ¬ i = σ 88 7 := by omega
          simp only [if_neg this]
          exact ⟨trivial, trivial, trivial, trivial⟩
      show (if 8 * s9 + h = 8 * so + b then (if 8 * so + b = 8 * so + a then σ 160 (8 * so + a) - n else σ 160 (8 * so + b)) + n else if 8 * s9 + h = 8 * so + a then σ 160 (8 * so + a) - n else σ 160 (8 * s9 + h)) = _
      refine Eq.trans ?_ key.symm
      rw [← o]
      by_cases es : so = s9
      · subst es
        by_cases eb : b = h
        · subst eb
          have n1 : ¬ 8 * so + b = 8 * so + a := by omega
          have n2 : ¬ a = b := by omega
          simp only [if_true, if_neg n1, if_neg n2]; omega
        · by_cases ea : a = h
          · subst ea
            have n1 : ¬ 8 * so + a = 8 * so + b := by omega
            simp only [if_true, if_neg n1, if_neg eb]; omega
          · have n1 : ¬ 8 * so + h = 8 * so + b := by omega
            have n2 : ¬ 8 * so + h = 8 * so + a := by omega
            simp only [if_true, if_neg n1, if_neg n2, if_neg ea, if_neg eb]; omega
      · have n1 : ¬ 8 * s9 + h = 8 * so + b := by omega
        have n2 : ¬ 8 * s9 + h = 8 * so + a := by omega
        simp only [if_neg n1, if_neg n2, if_neg es]; omega
  · rw [if_neg c]
    refine CI_mono (c_X11_sale ha hb hso hn (by omega)) (fun z τ q => ?_)
    rw [e1, if_neg c] at q
    obtain ⟨rfl, rfl⟩ := q
    exact ⟨rfl, hR0⟩
