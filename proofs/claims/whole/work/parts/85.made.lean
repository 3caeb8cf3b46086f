/-! the law: both objects are made -/

def ρI : Nat → Int → Option Nat := upq (upq (upq (upq (upq (upq (upq (upq (upq (upq (upq (upq (upq (upq (upq (upq (upq (upq (upq (upq (upq (upq (upq (upq (upq (upq (upq (upq (upq (upq (upq (upq (upq (upq (upq (upq (upq (upq (upq (upq (upq (upq (upq (upq (upq (upq (upq (upq (upq (upq (upq (upq (upq (upq (upq (upq (upq (upq (upq (upq (ρA) 114 2 (some 115)) 114 3 (some 116)) 114 4 (some 117)) 114 5 (some 118)) 114 6 (some 119)) 114 7 (some 120)) 114 8 (some 121)) 114 10 (some 122)) 114 11 (some 123)) 114 12 (some 124)) 114 13 (some 125)) 114 14 (some 126)) 114 15 (some 127)) 114 16 (some 128)) 114 17 (some 129)) 114 18 (some 130)) 114 19 (some 131)) 114 20 (some 132)) 114 23 (some 133)) 114 24 (some 134)) 114 25 (some 135)) 114 26 (some 136)) 114 27 (some 137)) 114 28 (some 138)) 114 35 (some 139)) 114 36 (some 140)) 114 37 (some 141)) 114 40 (some 142)) 114 41 (some 143)) 114 42 (some 144)) 114 43 (some 145)) 114 44 (some 146)) 114 45 (some 147)) 114 46 (some 148)) 114 47 (some 149)) 114 48 (some 150)) 114 49 (some 151)) 114 50 (some 152)) 114 52 (some 153)) 114 53 (some 154)) 114 55 (some 155)) 114 56 (some 156)) 114 57 (some 157)) 114 58 (some 158)) 114 59 (some 159)) 114 61 (some 160)) 114 62 (some 161)) 114 64 (some 162)) 114 65 (some 163)) 114 66 (some 164)) 114 67 (some 165)) 114 68 (some 166)) 114 69 (some 167)) 114 71 (some 168)) 114 72 (some 169)) 114 73 (some 170)) 114 74 (some 171)) 114 76 (some 172)) 114 77 (some 173)) 114 78 (some 174)
def σI : Nat → Int → Int := upq (upq (upq (upq (upq (upq (upq (σA) 114 32 (-1)) 121 0 (200)) 121 1 (200)) 121 2 (200)) 121 3 (200)) 121 4 (200)) 121 5 (200)
theorem arrV_cg {cI : ClassId} {N : Nat} {f g : Nat → Value} (h : ∀ j, j < N → f j = g j) : arrV cI N f = arrV cI N g := by
  have e : (fun j : Fin N => f j) = fun j : Fin N => g j := funext (fun j => h j j.isLt)
  unfold arrV
  rw [e]
theorem cellq.cong {G : GC} {ρ ρ' : Nat → Int → Option Nat} {σ : Nat → Int → Int} {U : State} {H : Heap} {k : Nat} (h : cellq G ρ σ U H k) (hr : (shp k).1 = 12 ∨ (shp k).1 = 13 ∨ (shp k).1 = 14 ∨ ∀ j : Nat, j < (shp k).2 → ρ' k j = ρ k j) : cellq G ρ' σ U H k := by
  unfold cellq at h ⊢
  generalize shp k = q at *
  obtain ⟨kd, n⟩ := q
  split at h
  · exact h
  · exact h
  · exact h
  · rename_i m e
    obtain ⟨rfl, rfl⟩ : kd = 15 ∧ n = m := by cases e; exact ⟨rfl, rfl⟩
    rcases hr with hr | hr | hr | hr
    · exact absurd (show (15 : Nat) = 12 from hr) (by decide)
    · exact absurd (show (15 : Nat) = 13 from hr) (by decide)
    · exact absurd (show (15 : Nat) = 14 from hr) (by decide)
    · obtain ⟨cA, h1, h2⟩ := h
      exact ⟨cA, by rw [h1]; exact congrArg some (arrV_cg (fun j hj => by rw [hr j hj])), h2⟩
  · trivial
  · rename_i ci m n12 n13 n14 n15 n99 e
    obtain ⟨rfl, rfl⟩ : kd = ci ∧ n = m := by cases e; exact ⟨rfl, rfl⟩
    rcases hr with hr | hr | hr | hr
    · have hr : kd = 12 := hr
      subst hr; exact absurd rfl n12
    · have hr : kd = 13 := hr
      subst hr; exact absurd rfl n13
    · have hr : kd = 14 := hr
      subst hr; exact absurd rfl n14
    · refine t_OB.to h (fun j hj => ?_)
      unfold fvl
      rw [hr j hj]
set_option maxRecDepth 100000 in
theorem ρ_ck : (List.range 175).all (fun k => (shp k).1 == 12 || (shp k).1 == 13 || (shp k).1 == 14 || (List.range (shp k).2).all (fun j => decide (ρ0 k (j : Nat) = ρI k (j : Nat)))) = true := by decide +kernel
theorem ρ_at {k : Nat} (hk : k < 175) : (shp k).1 = 12 ∨ (shp k).1 = 13 ∨ (shp k).1 = 14 ∨ ∀ j : Nat, j < (shp k).2 → ρ0 k j = ρI k j := by
  have h := List.all_eq_true.mp ρ_ck k (List.mem_range.mpr hk)
  rw [Bool.or_eq_true, Bool.or_eq_true, Bool.or_eq_true] at h
  rcases h with ((h | h) | h) | h
  · exact Or.inl (eq_of_beq h)
  · exact Or.inr (Or.inl (eq_of_beq h))
  · exact Or.inr (Or.inr (Or.inl (eq_of_beq h)))
  · exact Or.inr (Or.inr (Or.inr (fun j hj => of_decide_eq_true (List.all_eq_true.mp h j (List.mem_range.mpr hj)))))
theorem x_std {l : Launch} {G : GC} {M : MI} {R : Room} {pc : Nat} {L : List (Option AV)} {st : List AV} {ca sl : Nat} {Q : Option AV → WS → Prop} {σ : Nat → Int → Int} (kk : RunX l G M R pc L st (Wd σ) ca sl Q) : RunX l G M R pc L st (175, ρI, σ) ca sl Q := by
  intro p e s m args below meth c H locs Z ls hc hn hks hr hi hlo hl
  exact kk p e s m args below meth c H locs Z ls hc hn hks hr ⟨hi.1, hi.2.1, fun k hk => (hi.2.2 k hk).cong (ρ_at hk)⟩ hlo hl
theorem σA_0 : ∀ a, 115 ≤ a → a < 175 → σA a = fun _ => 0 := by
  unfold σA
  exact zq_up (zq_up (zq_up (zq_up (zq_up (zq_up (zq_up (zq_up (zq_up (zq_0) (by decide)) (by decide)) (by decide)) (by decide)) (by decide)) (by decide)) (by decide)) (by decide)) (by decide)
set_option maxRecDepth 100000 in
theorem law_start {l : Launch} {G : GC} {Q : Option AV → WS → Prop} (kk : RunX l G M_L_law room_1 18 [some (vr 1060), some (vr 0), some (vr 114), some (vi 0)] [] (Wd σI) 174 10272 Q) : RunX l G M_L_law room_1 0 [some (vr 1060)] [] (0, fun _ _ => none, fun _ _ => 0) 0 0 Q := by
  refine y_new (n1 := 1) (ca1 := 1) (sl1 := 15) (E_L_law_0 0 rfl) clk_10 ty_X10 cl_L_7 in_X10 iz_X10 rfl (by decide) rfl rfl rfl (by decide) rfl rfl ?_
  refine x_dupr (E_L_law_0 1 rfl) ?_
  refine y_callI (ca1 := 113) (sl1 := 6259) (E_L_law_0 2 rfl) ml_L_9 mi_X10_init (ct_0 l G) (by decide) rfl rfl (by decide) rfl rfl (by decide) ?_
  refine x_astore_n (E_L_law_0 3 rfl) rfl ?_
  refine y_new (n1 := 115) (ca1 := 114) (sl1 := 6338) (E_L_law_0 4 rfl) clk_11 ty_X11 cl_L_10 in_X11 iz_X11 rfl (by decide) rfl rfl rfl (by decide) rfl rfl ?_
  refine x_dupr (E_L_law_0 5 rfl) ?_
  refine y_callI (ca1 := 174) (sl1 := 10272) (E_L_law_0 6 rfl) ml_L_12 mi_X11_init (ct_114 l G ρA σA σA_0) (by decide) rfl rfl (by decide) rfl rfl (by decide) ?_
  refine x_astore_n (E_L_law_0 7 rfl) rfl ?_
  refine x_iconst (E_L_law_0 8 rfl) ?_
  refine x_istore_n (E_L_law_0 9 rfl) rfl ?_
  exact x_std kk
theorem rr_I : RR σI := by
  refine ⟨?_, ?_, ?_, ?_, ?_, ?_, ?_, ?_, ?_, ?_, ?_, ?_⟩
  · exact ⟨rfl, show (0 : Int) ≤ 0 by decide, show (0 : Int) ≤ 2000 by decide⟩
  · exact ⟨rfl, ⟨show (0 : Int) ≤ 0 by decide, show (0 : Int) ≤ 12 by decide⟩, ⟨rfl, rfl, rfl, rfl, rfl⟩, fun i a b => absurd (show i < 0 from b) (by omega)⟩
  · refine ⟨rfl, fun f a b => ?_⟩
    rcases (by omega : f = 0 ∨ f = 1 ∨ f = 2 ∨ f = 3 ∨ f = 4 ∨ f = 5) with rfl | rfl | rfl | rfl | rfl | rfl <;> exact (show (0 : Int) ≤ 200 ∧ (200 : Int) ≤ 999 by decide)
  · exact ⟨rfl, ⟨show (0 : Int) ≤ 0 by decide, show (0 : Int) ≤ 120 by decide⟩, ⟨rfl, rfl, rfl, rfl, rfl, rfl, rfl⟩, fun i a b => absurd (show i < 0 from b) (by omega), fun i j a b c => absurd (show j < 0 from c) (by omega), fun k x h => by
      have h : ([] : List Int)[k]? = some x := h
      simp at h⟩
  · exact ⟨rfl, ⟨show (0 : Int) ≤ 0 by decide, show (0 : Int) ≤ 8 by decide⟩, ⟨rfl, rfl⟩, fun i a b => absurd (show i < 0 from b) (by omega), fun k x h => by
      have h : ([] : List Int)[k]? = some x := h
      simp at h⟩
  · exact ⟨rfl, ⟨show (0 : Int) ≤ 0 by decide, show (0 : Int) ≤ 160 by decide⟩, rfl, fun i _ _ => ⟨show (0 : Int) ≤ 0 by decide, show (0 : Int) ≤ 255 by decide⟩, rfl, show (-1 : Int) ≤ -1 by decide, show (-1 : Int) ≤ 160 by decide⟩
  · exact ⟨rfl, ⟨show (0 : Int) ≤ 0 by decide, show (0 : Int) ≤ 40 by decide⟩, ⟨rfl, rfl, rfl, rfl⟩, fun i a b => absurd (show i < 0 from b) (by omega)⟩
  · intro h i h0 h8 _ _
    rcases eight ⟨h0, h8⟩ with rfl | rfl | rfl | rfl | rfl | rfl | rfl | rfl <;> exact ⟨rfl, show (0 : Int) ≤ 0 by decide, show (0 : Int) ≤ 9999 by decide⟩
  · exact ⟨rfl, ⟨show (0 : Int) ≤ 0 by decide, show (0 : Int) ≤ 24 by decide⟩, fun i a b => absurd (show i < 0 from b) (by omega), fun h so _ _ _ _ => rfl⟩
  · exact ⟨rfl, ⟨show (0 : Int) ≤ 0 by decide, show (0 : Int) ≤ 24 by decide⟩, ⟨rfl, rfl, rfl, rfl⟩, fun i a b => absurd (show i < 0 from b) (by omega), fun h _ _ => ⟨show (0 : Int) ≤ 0 by decide, show (0 : Int) ≤ 9999 by decide⟩⟩
  · exact ⟨fun s _ _ => ⟨⟨show (0 : Int) ≤ 0 by decide, show (0 : Int) < 16 by decide⟩, fun t _ => ⟨Or.inl rfl, (show (0 : Int) / 2 ^ t % 2 = 0 by rw [Int.zero_ediv]; rfl), rfl⟩⟩, fun s _ _ => rfl⟩
  · exact Or.inl rfl

