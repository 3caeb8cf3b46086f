/-! THE STORY: 1 there, 2 vain, 3 lot, 4 casks, 5 holds, 6 title, 7 lender, 8 sum, 9 stopper, 10 out, 11 burnt, 12 doubles -/

/-- what counts of the story in the cells a -/
def StG (a : Nat → Int → Int) (d n nl : Int) : Nat → Int → Int
  | 1 => fun w => if 0 ≤ w ∧ w < n then a 1 w else 0
  | 2 => fun w => if 0 ≤ w ∧ w < n then a 2 w else 0
  | 3 => fun w => if (0 ≤ w ∧ w < n) ∧ a 1 w = 1 then a 3 w else 0
  | 4 => fun w => if (0 ≤ w ∧ w < n) ∧ a 1 w = 1 then a 4 w else 0
  | 5 => fun w => if (0 ≤ w ∧ w < n) ∧ a 1 w = 1 then a 5 w else 0
  | 6 => fun w => if (0 ≤ w ∧ w < n) ∧ a 1 w = 1 then a 6 w else 0
  | 7 => fun w => if (0 ≤ w ∧ w < n) ∧ a 1 w = 1 then a 7 w else 0
  | 8 => fun w => if (0 ≤ w ∧ w < n) ∧ a 1 w = 1 then a 8 w else 0
  | 9 => fun w => if (0 ≤ w ∧ w < n) ∧ a 1 w = 1 then a 9 w else 0
  | 10 => fun w => if 0 ≤ w ∧ w < nl then a 10 w else 0
  | 11 => fun w => if 0 ≤ w ∧ w < nl then a 11 w else 0
  | 12 => fun _ => d
  | _ => fun _ => 0
theorem StG_cong {a b : Nat → Int → Int} {d e n nl : Int} (h1 : a 1 = b 1) (h2 : a 2 = b 2) (h3 : a 3 = b 3) (h4 : a 4 = b 4) (h5 : a 5 = b 5) (h6 : a 6 = b 6) (h7 : a 7 = b 7) (h8 : a 8 = b 8) (h9 : a 9 = b 9) (h10 : a 10 = b 10) (h11 : a 11 = b 11) (he : d = e) : StG a d n nl = StG b e n nl := by
  funext j
  unfold StG
  rw [h1, h2, h3, h4, h5, h6, h7, h8, h9, h10, h11, he]
theorem StG_u2 {a : Nat → Int → Int} {d n nl w v : Int} (hw : 0 ≤ w ∧ w < n) : StG (upq a 2 w v) d n nl = upq (StG a d n nl) 2 w v := by
  funext k
  match k with
  | 0 => rfl
  | 1 => rfl
  | 2 => 
    funext b
    show (if (0 ≤ b ∧ b < n) then (if b = w then v else a 2 b) else 0) = if b = w then v else (if (0 ≤ b ∧ b < n) then a 2 b else 0)
    by_cases e : b = w
    · rw [if_pos e, if_pos e, e, if_pos hw]
    · rw [if_neg e, if_neg e]
  | 3 => rfl
  | 4 => rfl
  | 5 => rfl
  | 6 => rfl
  | 7 => rfl
  | 8 => rfl
  | 9 => rfl
  | 10 => rfl
  | 11 => rfl
  | 12 => rfl
  | k + 13 => rw [upq_ne (by omega)]; rfl
theorem StG_u3 {a : Nat → Int → Int} {d n nl w v : Int} (hw : (0 ≤ w ∧ w < n) ∧ a 1 w = 1) : StG (upq a 3 w v) d n nl = upq (StG a d n nl) 3 w v := by
  funext k
  match k with
  | 0 => rfl
  | 1 => rfl
  | 2 => rfl
  | 3 => 
    funext b
    show (if ((0 ≤ b ∧ b < n) ∧ a 1 b = 1) then (if b = w then v else a 3 b) else 0) = if b = w then v else (if ((0 ≤ b ∧ b < n) ∧ a 1 b = 1) then a 3 b else 0)
    by_cases e : b = w
    · rw [if_pos e, if_pos e, e, if_pos hw]
    · rw [if_neg e, if_neg e]
  | 4 => rfl
  | 5 => rfl
  | 6 => rfl
  | 7 => rfl
  | 8 => rfl
  | 9 => rfl
  | 10 => rfl
  | 11 => rfl
  | 12 => rfl
  | k + 13 => rw [upq_ne (by omega)]; rfl
theorem StG_u4 {a : Nat → Int → Int} {d n nl w v : Int} (hw : (0 ≤ w ∧ w < n) ∧ a 1 w = 1) : StG (upq a 4 w v) d n nl = upq (StG a d n nl) 4 w v := by
  funext k
  match k with
  | 0 => rfl
  | 1 => rfl
  | 2 => rfl
  | 3 => rfl
  | 4 => 
    funext b
    show (if ((0 ≤ b ∧ b < n) ∧ a 1 b = 1) then (if b = w then v else a 4 b) else 0) = if b = w then v else (if ((0 ≤ b ∧ b < n) ∧ a 1 b = 1) then a 4 b else 0)
    by_cases e : b = w
    · rw [if_pos e, if_pos e, e, if_pos hw]
    · rw [if_neg e, if_neg e]
  | 5 => rfl
  | 6 => rfl
  | 7 => rfl
  | 8 => rfl
  | 9 => rfl
  | 10 => rfl
  | 11 => rfl
  | 12 => rfl
  | k + 13 => rw [upq_ne (by omega)]; rfl
theorem StG_u5 {a : Nat → Int → Int} {d n nl w v : Int} (hw : (0 ≤ w ∧ w < n) ∧ a 1 w = 1) : StG (upq a 5 w v) d n nl = upq (StG a d n nl) 5 w v := by
  funext k
  match k with
  | 0 => rfl
  | 1 => rfl
  | 2 => rfl
  | 3 => rfl
  | 4 => rfl
  | 5 => 
    funext b
    show (if ((0 ≤ b ∧ b < n) ∧ a 1 b = 1) then (if b = w then v else a 5 b) else 0) = if b = w then v else (if ((0 ≤ b ∧ b < n) ∧ a 1 b = 1) then a 5 b else 0)
    by_cases e : b = w
    · rw [if_pos e, if_pos e, e, if_pos hw]
    · rw [if_neg e, if_neg e]
  | 6 => rfl
  | 7 => rfl
  | 8 => rfl
  | 9 => rfl
  | 10 => rfl
  | 11 => rfl
  | 12 => rfl
  | k + 13 => rw [upq_ne (by omega)]; rfl
theorem StG_u6 {a : Nat → Int → Int} {d n nl w v : Int} (hw : (0 ≤ w ∧ w < n) ∧ a 1 w = 1) : StG (upq a 6 w v) d n nl = upq (StG a d n nl) 6 w v := by
  funext k
  match k with
  | 0 => rfl
  | 1 => rfl
  | 2 => rfl
  | 3 => rfl
  | 4 => rfl
  | 5 => rfl
  | 6 => 
    funext b
    show (if ((0 ≤ b ∧ b < n) ∧ a 1 b = 1) then (if b = w then v else a 6 b) else 0) = if b = w then v else (if ((0 ≤ b ∧ b < n) ∧ a 1 b = 1) then a 6 b else 0)
    by_cases e : b = w
    · rw [if_pos e, if_pos e, e, if_pos hw]
    · rw [if_neg e, if_neg e]
  | 7 => rfl
  | 8 => rfl
  | 9 => rfl
  | 10 => rfl
  | 11 => rfl
  | 12 => rfl
  | k + 13 => rw [upq_ne (by omega)]; rfl
theorem StG_u7 {a : Nat → Int → Int} {d n nl w v : Int} (hw : (0 ≤ w ∧ w < n) ∧ a 1 w = 1) : StG (upq a 7 w v) d n nl = upq (StG a d n nl) 7 w v := by
  funext k
  match k with
  | 0 => rfl
  | 1 => rfl
  | 2 => rfl
  | 3 => rfl
  | 4 => rfl
  | 5 => rfl
  | 6 => rfl
  | 7 => 
    funext b
    show (if ((0 ≤ b ∧ b < n) ∧ a 1 b = 1) then (if b = w then v else a 7 b) else 0) = if b = w then v else (if ((0 ≤ b ∧ b < n) ∧ a 1 b = 1) then a 7 b else 0)
    by_cases e : b = w
    · rw [if_pos e, if_pos e, e, if_pos hw]
    · rw [if_neg e, if_neg e]
  | 8 => rfl
  | 9 => rfl
  | 10 => rfl
  | 11 => rfl
  | 12 => rfl
  | k + 13 => rw [upq_ne (by omega)]; rfl
theorem StG_u8 {a : Nat → Int → Int} {d n nl w v : Int} (hw : (0 ≤ w ∧ w < n) ∧ a 1 w = 1) : StG (upq a 8 w v) d n nl = upq (StG a d n nl) 8 w v := by
  funext k
  match k with
  | 0 => rfl
  | 1 => rfl
  | 2 => rfl
  | 3 => rfl
  | 4 => rfl
  | 5 => rfl
  | 6 => rfl
  | 7 => rfl
  | 8 => 
    funext b
    show (if ((0 ≤ b ∧ b < n) ∧ a 1 b = 1) then (if b = w then v else a 8 b) else 0) = if b = w then v else (if ((0 ≤ b ∧ b < n) ∧ a 1 b = 1) then a 8 b else 0)
    by_cases e : b = w
    · rw [if_pos e, if_pos e, e, if_pos hw]
    · rw [if_neg e, if_neg e]
  | 9 => rfl
  | 10 => rfl
  | 11 => rfl
  | 12 => rfl
  | k + 13 => rw [upq_ne (by omega)]; rfl
theorem StG_u9 {a : Nat → Int → Int} {d n nl w v : Int} (hw : (0 ≤ w ∧ w < n) ∧ a 1 w = 1) : StG (upq a 9 w v) d n nl = upq (StG a d n nl) 9 w v := by
  funext k
  match k with
  | 0 => rfl
  | 1 => rfl
  | 2 => rfl
  | 3 => rfl
  | 4 => rfl
  | 5 => rfl
  | 6 => rfl
  | 7 => rfl
  | 8 => rfl
  | 9 => 
    funext b
    show (if ((0 ≤ b ∧ b < n) ∧ a 1 b = 1) then (if b = w then v else a 9 b) else 0) = if b = w then v else (if ((0 ≤ b ∧ b < n) ∧ a 1 b = 1) then a 9 b else 0)
    by_cases e : b = w
    · rw [if_pos e, if_pos e, e, if_pos hw]
    · rw [if_neg e, if_neg e]
  | 10 => rfl
  | 11 => rfl
  | 12 => rfl
  | k + 13 => rw [upq_ne (by omega)]; rfl
theorem StG_u10 {a : Nat → Int → Int} {d n nl w v : Int} (hw : 0 ≤ w ∧ w < nl) : StG (upq a 10 w v) d n nl = upq (StG a d n nl) 10 w v := by
  funext k
  match k with
  | 0 => rfl
  | 1 => rfl
  | 2 => rfl
  | 3 => rfl
  | 4 => rfl
  | 5 => rfl
  | 6 => rfl
  | 7 => rfl
  | 8 => rfl
  | 9 => rfl
  | 10 => 
    funext b
    show (if (0 ≤ b ∧ b < nl) then (if b = w then v else a 10 b) else 0) = if b = w then v else (if (0 ≤ b ∧ b < nl) then a 10 b else 0)
    by_cases e : b = w
    · rw [if_pos e, if_pos e, e, if_pos hw]
    · rw [if_neg e, if_neg e]
  | 11 => rfl
  | 12 => rfl
  | k + 13 => rw [upq_ne (by omega)]; rfl
theorem StG_u11 {a : Nat → Int → Int} {d n nl w v : Int} (hw : 0 ≤ w ∧ w < nl) : StG (upq a 11 w v) d n nl = upq (StG a d n nl) 11 w v := by
  funext k
  match k with
  | 0 => rfl
  | 1 => rfl
  | 2 => rfl
  | 3 => rfl
  | 4 => rfl
  | 5 => rfl
  | 6 => rfl
  | 7 => rfl
  | 8 => rfl
  | 9 => rfl
  | 10 => rfl
  | 11 => 
    funext b
    show (if (0 ≤ b ∧ b < nl) then (if b = w then v else a 11 b) else 0) = if b = w then v else (if (0 ≤ b ∧ b < nl) then a 11 b else 0)
    by_cases e : b = w
    · rw [if_pos e, if_pos e, e, if_pos hw]
    · rw [if_neg e, if_neg e]
  | 12 => rfl
  | k + 13 => rw [upq_ne (by omega)]; rfl
def mkS (y : Nat → Int → Int) (w l c p q : Int) : Nat → Int → Int := upq (upq (upq (upq (upq (upq (upq (upq y 1 w 1) 3 w l) 4 w c) 5 w p) 6 w q) 7 w (-1)) 8 w 0) 9 w (-1)
theorem StG_mk {a : Nat → Int → Int} {d n nl w l c p q : Int} (hw : 0 ≤ w ∧ w < n) : StG (mkS a w l c p q) d n nl = mkS (StG a d n nl) w l c p q := by
  funext k
  match k with
  | 0 => rfl
  | 1 => 
    funext b
    show (if 0 ≤ b ∧ b < n then (if b = w then 1 else a 1 b) else 0) = if b = w then 1 else (if 0 ≤ b ∧ b < n then a 1 b else 0)
    by_cases e : b = w
    · rw [if_pos e, if_pos e, e, if_pos hw]
    · rw [if_neg e, if_neg e]
  | 2 => rfl
  | 3 => 
    funext b
    show (if (0 ≤ b ∧ b < n) ∧ (if b = w then 1 else a 1 b) = 1 then (if b = w then l else a 3 b) else 0) = if b = w then l else (if (0 ≤ b ∧ b < n) ∧ a 1 b = 1 then a 3 b else 0)
    by_cases e : b = w
    · rw [if_pos e, if_pos e, if_pos e, if_pos ⟨by rw [e]; exact hw, rfl⟩]
    · rw [if_neg e, if_neg e, if_neg e]
  | 4 => 
    funext b
    show (if (0 ≤ b ∧ b < n) ∧ (if b = w then 1 else a 1 b) = 1 then (if b = w then c else a 4 b) else 0) = if b = w then c else (if (0 ≤ b ∧ b < n) ∧ a 1 b = 1 then a 4 b else 0)
    by_cases e : b = w
    · rw [if_pos e, if_pos e, if_pos e, if_pos ⟨by rw [e]; exact hw, rfl⟩]
    · rw [if_neg e, if_neg e, if_neg e]
  | 5 => 
    funext b
    show (if (0 ≤ b ∧ b < n) ∧ (if b = w then 1 else a 1 b) = 1 then (if b = w then p else a 5 b) else 0) = if b = w then p else (if (0 ≤ b ∧ b < n) ∧ a 1 b = 1 then a 5 b else 0)
    by_cases e : b = w
    · rw [if_pos e, if_pos e, if_pos e, if_pos ⟨by rw [e]; exact hw, rfl⟩]
    · rw [if_neg e, if_neg e, if_neg e]
  | 6 => 
    funext b
    show (if (0 ≤ b ∧ b < n) ∧ (if b = w then 1 else a 1 b) = 1 then (if b = w then q else a 6 b) else 0) = if b = w then q else (if (0 ≤ b ∧ b < n) ∧ a 1 b = 1 then a 6 b else 0)
    by_cases e : b = w
    · rw [if_pos e, if_pos e, if_pos e, if_pos ⟨by rw [e]; exact hw, rfl⟩]
    · rw [if_neg e, if_neg e, if_neg e]
  | 7 => 
    funext b
    show (if (0 ≤ b ∧ b < n) ∧ (if b = w then 1 else a 1 b) = 1 then (if b = w then -1 else a 7 b) else 0) = if b = w then -1 else (if (0 ≤ b ∧ b < n) ∧ a 1 b = 1 then a 7 b else 0)
    by_cases e : b = w
    · rw [if_pos e, if_pos e, if_pos e, if_pos ⟨by rw [e]; exact hw, rfl⟩]
    · rw [if_neg e, if_neg e, if_neg e]
  | 8 => 
    funext b
    show (if (0 ≤ b ∧ b < n) ∧ (if b = w then 1 else a 1 b) = 1 then (if b = w then 0 else a 8 b) else 0) = if b = w then 0 else (if (0 ≤ b ∧ b < n) ∧ a 1 b = 1 then a 8 b else 0)
    by_cases e : b = w
    · rw [if_pos e, if_pos e, if_pos e, if_pos ⟨by rw [e]; exact hw, rfl⟩]
    · rw [if_neg e, if_neg e, if_neg e]
  | 9 => 
    funext b
    show (if (0 ≤ b ∧ b < n) ∧ (if b = w then 1 else a 1 b) = 1 then (if b = w then -1 else a 9 b) else 0) = if b = w then -1 else (if (0 ≤ b ∧ b < n) ∧ a 1 b = 1 then a 9 b else 0)
    by_cases e : b = w
    · rw [if_pos e, if_pos e, if_pos e, if_pos ⟨by rw [e]; exact hw, rfl⟩]
    · rw [if_neg e, if_neg e, if_neg e]
  | 10 => rfl
  | 11 => rfl
  | 12 => rfl
  | k + 13 =>
    unfold mkS
    rw [upq_ne (by omega), upq_ne (by omega), upq_ne (by omega), upq_ne (by omega), upq_ne (by omega), upq_ne (by omega), upq_ne (by omega), upq_ne (by omega)]
    rfl
theorem StG_rd {a : Nat → Int → Int} {d n nl w : Int} (h : StG a d n nl 1 w = 1) : (0 ≤ w ∧ w < n) ∧ a 1 w = 1 ∧ StG a d n nl 3 w = a 3 w ∧ StG a d n nl 4 w = a 4 w ∧ StG a d n nl 5 w = a 5 w ∧ StG a d n nl 6 w = a 6 w ∧ StG a d n nl 7 w = a 7 w ∧ StG a d n nl 8 w = a 8 w ∧ StG a d n nl 9 w = a 9 w := by
  have h : (if 0 ≤ w ∧ w < n then a 1 w else 0) = 1 := h
  by_cases c : 0 ≤ w ∧ w < n
  · rw [if_pos c] at h
    exact ⟨c, h, if_pos ⟨c, h⟩, if_pos ⟨c, h⟩, if_pos ⟨c, h⟩, if_pos ⟨c, h⟩, if_pos ⟨c, h⟩, if_pos ⟨c, h⟩, if_pos ⟨c, h⟩⟩
  · rw [if_neg c] at h
    exact absurd h (by decide)
theorem StG_1 {a : Nat → Int → Int} {d n nl w : Int} (h : 0 ≤ w ∧ w < n) : StG a d n nl 1 w = a 1 w := if_pos h
theorem StG_2 {a : Nat → Int → Int} {d n nl w : Int} (h : 0 ≤ w ∧ w < n) : StG a d n nl 2 w = a 2 w := if_pos h
theorem StG_10 {a : Nat → Int → Int} {d n nl w : Int} (h : 0 ≤ w ∧ w < nl) : StG a d n nl 10 w = a 10 w := if_pos h
theorem StG_11 {a : Nat → Int → Int} {d n nl w : Int} (h : 0 ≤ w ∧ w < nl) : StG a d n nl 11 w = a 11 w := if_pos h
theorem StG_z {a : Nat → Int → Int} {n nl : Int} (h1 : ∀ w, 0 ≤ w → w < n → a 1 w = 0) (h2 : ∀ w, 0 ≤ w → w < n → a 2 w = 0) (h3 : ∀ w, 0 ≤ w → w < nl → a 10 w = 0) (h4 : ∀ w, 0 ≤ w → w < nl → a 11 w = 0) : StG a 0 n nl = fun _ _ => 0 := by
  have z : ∀ j, (fun w => if (0 ≤ w ∧ w < n) ∧ a 1 w = 1 then a j w else 0) = fun _ => 0 := fun j => by
    funext w
    by_cases c : 0 ≤ w ∧ w < n
    · rw [if_neg (fun h => by have := h1 w c.1 c.2; omega)]
    · rw [if_neg (fun h => c h.1)]
  funext k
  match k with
  | 0 => rfl
  | 1 => funext w; exact ite_eq_right_iff.mpr (fun h => h1 w h.1 h.2)
  | 2 => funext w; exact ite_eq_right_iff.mpr (fun h => h2 w h.1 h.2)
  | 3 => exact z 3
  | 4 => exact z 4
  | 5 => exact z 5
  | 6 => exact z 6
  | 7 => exact z 7
  | 8 => exact z 8
  | 9 => exact z 9
  | 10 => funext w; exact ite_eq_right_iff.mpr (fun h => h3 w h.1 h.2)
  | 11 => funext w; exact ite_eq_right_iff.mpr (fun h => h4 w h.1 h.2)
  | 12 => rfl
  | k + 13 => rfl
theorem upq_self {α : Type} {y : Nat → Int → α} {k : Nat} {i : Int} : upq y k i (y k i) = y := by
  funext a
  unfold upq
  split
  · rename_i h
    subst h
    funext b
    split
    · rename_i h; rw [h]
    · rfl
  · rfl
theorem upq_comm {α : Type} {y : Nat → Int → α} {k k' : Nat} {i i' : Int} {v v' : α} (h : k ≠ k') : upq (upq y k i v) k' i' v' = upq (upq y k' i' v') k i v := by
  funext a
  by_cases e : a = k
  · subst e
    rw [upq_ne h]
    funext b
    rw [upq_eq, upq_eq, upq_ne h]
  · by_cases e2 : a = k'
    · subst e2
      rw [upq_ne e]
      funext b
      rw [upq_eq, upq_eq, upq_ne e]
    · rw [upq_ne e, upq_ne e2, upq_ne e2, upq_ne e]
/-- casks there; casks on papers -/
def thS (ck : Int → Int) (y : Nat → Int → Int) (l : Int) : Int := ck l - y 10 l - y 11 l
def onS (y : Nat → Int → Int) (n : Nat) (l : Int) : Int := sumS (fun w => if y 1 w = 1 ∧ y 3 w = l then y 4 w else 0) n
/-- lines' data: 0 kind, 1 day, 2 target, 3 p, 4 q, 5 n; 6 casks of lots -/
def okS (dt : Nat → Int → Int) (hd : Int → Int → Int) (y : Nat → Int → Int) (i : Int) : Bool :=
  if dt 0 i = 0 ∨ dt 0 i = 10 then true
  else if dt 0 i = 8 then decide (dt 5 i ≤ thS (dt 6) y (dt 2 i))
  else if ¬ y 1 (dt 2 i) = 1 then false
  else if dt 0 i = 1 then decide (y 5 (dt 2 i) = dt 4 i ∧ ¬ (y 9 (dt 2 i) ≠ -1 ∧ hd (dt 1 i) 2 = 1))
  else if dt 0 i = 2 then decide (dt 5 i < y 4 (dt 2 i) ∧ y 7 (dt 2 i) = -1 ∧ y 9 (dt 2 i) = -1)
  else if dt 0 i = 3 then decide (y 7 (dt 2 i) = -1 ∧ y 5 (dt 2 i) = y 6 (dt 2 i))
  else if dt 0 i = 4 then decide (y 7 (dt 2 i) ≠ -1)
  else if dt 0 i = 5 then decide (y 9 (dt 2 i) = -1)
  else if dt 0 i = 6 then decide (y 9 (dt 2 i) ≠ -1)
  else if dt 0 i = 7 then decide (dt 5 i ≤ y 4 (dt 2 i) ∧ dt 5 i ≤ thS (dt 6) y (y 3 (dt 2 i)) ∧ y 7 (dt 2 i) = -1 ∧ y 9 (dt 2 i) = -1)
  else decide (y 5 (dt 2 i) ≠ dt 3 i)
def efS (dt : Nat → Int → Int) (hd : Int → Int → Int) (n : Nat) (y : Nat → Int → Int) (i : Int) : Nat → Int → Int :=
  if dt 0 i = 0 then setc (mkS y i (dt 2 i) (dt 5 i) (dt 3 i) (dt 3 i)) 12 (fun _ => y 12 0 + (if thS (dt 6) y (dt 2 i) < onS (mkS y i (dt 2 i) (dt 5 i) (dt 3 i) (dt 3 i)) n (dt 2 i) then 1 else 0))
  else if dt 0 i = 1 then upq (upq (upq y 6 (dt 2 i) (if y 6 (dt 2 i) = dt 4 i ∨ (dt 5 i = 1 ∧ hd (dt 1 i) 1 = 1) then dt 3 i else y 6 (dt 2 i))) 5 (dt 2 i) (dt 3 i)) 9 (dt 2 i) (if dt 5 i = 1 then -1 else y 9 (dt 2 i))
  else if dt 0 i = 2 then mkS (upq y 4 (dt 2 i) (y 4 (dt 2 i) - dt 5 i)) i (y 3 (dt 2 i)) (dt 5 i) (y 5 (dt 2 i)) (y 6 (dt 2 i))
  else if dt 0 i = 3 then upq (upq y 7 (dt 2 i) (dt 3 i)) 8 (dt 2 i) (dt 5 i)
  else if dt 0 i = 4 then upq (upq y 7 (dt 2 i) (-1)) 8 (dt 2 i) 0
  else if dt 0 i = 5 then upq y 9 (dt 2 i) (dt 3 i)
  else if dt 0 i = 6 then upq y 9 (dt 2 i) (-1)
  else if dt 0 i = 7 then upq (upq y 4 (dt 2 i) (y 4 (dt 2 i) - dt 5 i)) 10 (y 3 (dt 2 i)) (y 10 (y 3 (dt 2 i)) + dt 5 i)
  else if dt 0 i = 8 then upq y 11 (dt 2 i) (y 11 (dt 2 i) + dt 5 i)
  else if dt 0 i = 9 then upq y 5 (dt 2 i) (dt 3 i)
  else y
def enS (dt : Nat → Int → Int) (hd : Int → Int → Int) (n : Nat) (y : Nat → Int → Int) (i : Int) : Nat → Int → Int := if okS dt hd y i = true then efS dt hd n y i else y
def stS (dt : Nat → Int → Int) (hd : Int → Int → Int) (n : Nat) (y : Nat → Int → Int) (i : Int) : Nat → Int → Int := upq (enS dt hd n y i) 2 i (if okS dt hd y i = true then 0 else 1)
/-- the story's state is sound -/
def YOk (n nl : Int) (ck : Int → Int) (y : Nat → Int → Int) : Prop :=
  (∀ w, (y 1 w = 0 ∨ y 1 w = 1) ∧ (y 2 w = 0 ∨ y 2 w = 1)) ∧
  (∀ w, y 1 w = 1 → (0 ≤ w ∧ w < n) ∧ (0 ≤ y 3 w ∧ y 3 w < nl) ∧ (0 ≤ y 4 w ∧ y 4 w ≤ 200) ∧ (0 ≤ y 5 w ∧ y 5 w ≤ 7) ∧ (0 ≤ y 6 w ∧ y 6 w ≤ 7) ∧ (-1 ≤ y 7 w ∧ y 7 w ≤ 7) ∧ (0 ≤ y 8 w ∧ y 8 w ≤ 9999) ∧ (-1 ≤ y 9 w ∧ y 9 w ≤ 7)) ∧
  (∀ l, 0 ≤ y 10 l ∧ 0 ≤ y 11 l ∧ (0 ≤ l → l < nl → y 10 l + y 11 l ≤ ck l))
theorem YOk.zero {n nl : Int} {ck : Int → Int} (h : ∀ l, 0 ≤ l → l < nl → 1 ≤ ck l) : YOk n nl ck (fun _ _ => 0) := ⟨fun w => ⟨Or.inl rfl, Or.inl rfl⟩, fun w h => absurd (show (0 : Int) = 1 from h) (by decide), fun l => ⟨Int.le_refl _, Int.le_refl _, fun a b => by have := h l a b; show (0 : Int) + 0 ≤ _; omega⟩⟩
theorem YOk.u2 {n nl i v : Int} {ck : Int → Int} {y : Nat → Int → Int} (h : YOk n nl ck y) (hv : v = 0 ∨ v = 1) : YOk n nl ck (upq y 2 i v) := by
  obtain ⟨a, b, c⟩ := h
  refine ⟨fun w => ⟨(a w).1, ?_⟩, b, c⟩
  show (if w = i then v else y 2 w) = 0 ∨ (if w = i then v else y 2 w) = 1
  have := (a w).2
  split <;> omega

theorem YOk.u4 {n nl w v : Int} {ck : Int → Int} {y : Nat → Int → Int} (h : YOk n nl ck y) (hv : 0 ≤ v ∧ v ≤ 200) : YOk n nl ck (upq y 4 w v) := by
  obtain ⟨a, b, c⟩ := h
  refine ⟨a, fun x hx => ?_, c⟩
  obtain ⟨b0, b3, b4, b5, b6, b7, b8, b9⟩ := b x hx
  refine ⟨b0, b3, ?_, b5, b6, b7, b8, b9⟩
  show 0 ≤ (if x = w then v else y 4 x) ∧ (if x = w then v else y 4 x) ≤ 200
  split <;> omega
theorem YOk.u5 {n nl w v : Int} {ck : Int → Int} {y : Nat → Int → Int} (h : YOk n nl ck y) (hv : 0 ≤ v ∧ v ≤ 7) : YOk n nl ck (upq y 5 w v) := by
  obtain ⟨a, b, c⟩ := h
  refine ⟨a, fun x hx => ?_, c⟩
  obtain ⟨b0, b3, b4, b5, b6, b7, b8, b9⟩ := b x hx
  refine ⟨b0, b3, b4, ?_, b6, b7, b8, b9⟩
  show 0 ≤ (if x = w then v else y 5 x) ∧ (if x = w then v else y 5 x) ≤ 7
  split <;> omega
theorem YOk.u6 {n nl w v : Int} {ck : Int → Int} {y : Nat → Int → Int} (h : YOk n nl ck y) (hv : 0 ≤ v ∧ v ≤ 7) : YOk n nl ck (upq y 6 w v) := by
  obtain ⟨a, b, c⟩ := h
  refine ⟨a, fun x hx => ?_, c⟩
  obtain ⟨b0, b3, b4, b5, b6, b7, b8, b9⟩ := b x hx
  refine ⟨b0, b3, b4, b5, ?_, b7, b8, b9⟩
  show 0 ≤ (if x = w then v else y 6 x) ∧ (if x = w then v else y 6 x) ≤ 7
  split <;> omega
theorem YOk.u7 {n nl w v : Int} {ck : Int → Int} {y : Nat → Int → Int} (h : YOk n nl ck y) (hv : -1 ≤ v ∧ v ≤ 7) : YOk n nl ck (upq y 7 w v) := by
  obtain ⟨a, b, c⟩ := h
  refine ⟨a, fun x hx => ?_, c⟩
  obtain ⟨b0, b3, b4, b5, b6, b7, b8, b9⟩ := b x hx
  refine ⟨b0, b3, b4, b5, b6, ?_, b8, b9⟩
  show -1 ≤ (if x = w then v else y 7 x) ∧ (if x = w then v else y 7 x) ≤ 7
  split <;> omega
theorem YOk.u8 {n nl w v : Int} {ck : Int → Int} {y : Nat → Int → Int} (h : YOk n nl ck y) (hv : 0 ≤ v ∧ v ≤ 9999) : YOk n nl ck (upq y 8 w v) := by
  obtain ⟨a, b, c⟩ := h
  refine ⟨a, fun x hx => ?_, c⟩
  obtain ⟨b0, b3, b4, b5, b6, b7, b8, b9⟩ := b x hx
  refine ⟨b0, b3, b4, b5, b6, b7, ?_, b9⟩
  show 0 ≤ (if x = w then v else y 8 x) ∧ (if x = w then v else y 8 x) ≤ 9999
  split <;> omega
theorem YOk.u9 {n nl w v : Int} {ck : Int → Int} {y : Nat → Int → Int} (h : YOk n nl ck y) (hv : -1 ≤ v ∧ v ≤ 7) : YOk n nl ck (upq y 9 w v) := by
  obtain ⟨a, b, c⟩ := h
  refine ⟨a, fun x hx => ?_, c⟩
  obtain ⟨b0, b3, b4, b5, b6, b7, b8, b9⟩ := b x hx
  refine ⟨b0, b3, b4, b5, b6, b7, b8, ?_⟩
  show -1 ≤ (if x = w then v else y 9 x) ∧ (if x = w then v else y 9 x) ≤ 7
  split <;> omega
theorem YOk.mk {n nl w l c p q : Int} {ck : Int → Int} {y : Nat → Int → Int} (h : YOk n nl ck y) (hw : 0 ≤ w ∧ w < n) (hl : 0 ≤ l ∧ l < nl) (hc : 0 ≤ c ∧ c ≤ 200) (hp : 0 ≤ p ∧ p ≤ 7) (hq : 0 ≤ q ∧ q ≤ 7) : YOk n nl ck (mkS y w l c p q) := by
  obtain ⟨a, b, d⟩ := h
  refine ⟨fun x => ⟨?_, (a x).2⟩, fun x hx => ?_, d⟩
  · show (if x = w then 1 else y 1 x) = 0 ∨ (if x = w then 1 else y 1 x) = 1
    have := (a x).1
    split <;> omega
  · have hx : (if x = w then 1 else y 1 x) = 1 := hx
    show (0 ≤ x ∧ x < n) ∧ (0 ≤ (if x = w then l else y 3 x) ∧ (if x = w then l else y 3 x) < nl) ∧ (0 ≤ (if x = w then c else y 4 x) ∧ (if x = w then c else y 4 x) ≤ 200) ∧ (0 ≤ (if x = w then p else y 5 x) ∧ (if x = w then p else y 5 x) ≤ 7) ∧ (0 ≤ (if x = w then q else y 6 x) ∧ (if x = w then q else y 6 x) ≤ 7) ∧ (-1 ≤ (if x = w then -1 else y 7 x) ∧ (if x = w then -1 else y 7 x) ≤ 7) ∧ (0 ≤ (if x = w then 0 else y 8 x) ∧ (if x = w then 0 else y 8 x) ≤ 9999) ∧ (-1 ≤ (if x = w then -1 else y 9 x) ∧ (if x = w then -1 else y 9 x) ≤ 7)
    by_cases e : x = w
    · rw [if_pos e, if_pos e, if_pos e, if_pos e, if_pos e, if_pos e, if_pos e]
      omega
    · rw [if_neg e] at hx
      rw [if_neg e, if_neg e, if_neg e, if_neg e, if_neg e, if_neg e, if_neg e]
      exact b x hx
theorem YOk.u10 {n nl w v : Int} {ck : Int → Int} {y : Nat → Int → Int} (h : YOk n nl ck y) (hv : 0 ≤ v) (hs : v + y 11 w ≤ ck w) : YOk n nl ck (upq y 10 w v) := by
  obtain ⟨a, b, c⟩ := h
  refine ⟨a, b, fun x => ?_⟩
  show 0 ≤ (if x = w then v else y 10 x) ∧ 0 ≤ y 11 x ∧ (0 ≤ x → x < nl → (if x = w then v else y 10 x) + y 11 x ≤ ck x)
  have := c x
  by_cases e : x = w
  · rw [if_pos e]; subst e; exact ⟨hv, this.2.1, fun _ _ => hs⟩
  · rw [if_neg e]; exact this
theorem YOk.u11 {n nl w v : Int} {ck : Int → Int} {y : Nat → Int → Int} (h : YOk n nl ck y) (hv : 0 ≤ v) (hs : y 10 w + v ≤ ck w) : YOk n nl ck (upq y 11 w v) := by
  obtain ⟨a, b, c⟩ := h
  refine ⟨a, b, fun x => ?_⟩
  show 0 ≤ y 10 x ∧ 0 ≤ (if x = w then v else y 11 x) ∧ (0 ≤ x → x < nl → y 10 x + (if x = w then v else y 11 x) ≤ ck x)
  have := c x
  by_cases e : x = w
  · rw [if_pos e]; subst e; exact ⟨this.1, hv, fun _ _ => hs⟩
  · rw [if_neg e]; exact this
theorem YOk.u12 {n nl : Int} {ck f : Int → Int} {y : Nat → Int → Int} (h : YOk n nl ck y) : YOk n nl ck (setc y 12 f) := h
/-- a line is sound -/
def LnOk (dt : Nat → Int → Int) (nl i : Int) : Prop :=
  (0 ≤ dt 0 i ∧ dt 0 i ≤ 10) ∧ (0 ≤ dt 1 i ∧ dt 1 i ≤ 2000) ∧
  (dt 0 i = 0 ∨ dt 0 i = 8 → 0 ≤ dt 2 i ∧ dt 2 i < nl) ∧ (¬ (dt 0 i = 0 ∨ dt 0 i = 8) → 0 ≤ dt 2 i ∧ dt 2 i < i) ∧
  (hasPq (dt 0 i) → 0 ≤ dt 3 i ∧ dt 3 i ≤ 7) ∧ (-1 ≤ dt 3 i ∧ dt 3 i ≤ 7) ∧ (-1 ≤ dt 4 i ∧ dt 4 i ≤ 7) ∧
  (dt 0 i = 0 ∨ dt 0 i = 2 ∨ dt 0 i = 7 ∨ dt 0 i = 8 → 1 ≤ dt 5 i ∧ dt 5 i ≤ 200) ∧ (dt 0 i = 3 → 1 ≤ dt 5 i ∧ dt 5 i ≤ 9999) ∧ (-1 ≤ dt 5 i ∧ dt 5 i ≤ 9999)
/-- all data are sound -/
def DOk (dt : Nat → Int → Int) (hd : Int → Int → Int) (n : Nat) (nl : Int) : Prop := n ≤ 120 ∧ (0 ≤ nl ∧ nl ≤ 12) ∧ (∀ i, 0 ≤ i → i < (n : Int) → LnOk dt nl i) ∧ (∀ l, 0 ≤ l → l < nl → 1 ≤ dt 6 l ∧ dt 6 l ≤ 200) ∧ (∀ d q, 0 ≤ q → q < 10 → 0 ≤ hd d q ∧ hd d q ≤ 4095)
theorem YOk.en {dt : Nat → Int → Int} {hd : Int → Int → Int} {n : Nat} {nl i : Int} {y : Nat → Int → Int} (hy : YOk n nl (dt 6) y) (hl : LnOk dt nl i) (hi : 0 ≤ i ∧ i < (n : Int)) : YOk n nl (dt 6) (enS dt hd n y i) := by
  unfold enS
  by_cases ok : okS dt hd y i = true
  rotate_left
  · rw [if_neg ok]; exact hy
  rw [if_pos ok]
  obtain ⟨l0, l1, l2, l3, l4, l5, l6, l7, l8, l9⟩ := hl
  unfold hasPq at l4
  have ty := fun h => hy.2.1 (dt 2 i) h
  unfold okS at ok
  unfold efS
  by_cases k0 : dt 0 i = 0
  · rw [if_pos k0]
    exact (YOk.mk hy hi (by omega) (by omega) (by omega) (by omega)).u12
  rw [if_neg k0]
  by_cases k10 : dt 0 i = 10
  · rw [if_neg (by omega), if_neg (by omega), if_neg (by omega), if_neg (by omega), if_neg (by omega), if_neg (by omega), if_neg (by omega), if_neg (by omega), if_neg (by omega)]
    exact hy
  rw [if_neg (by omega)] at ok
  by_cases k8 : dt 0 i = 8
  · rw [if_pos k8, decide_eq_true_iff] at ok
    rw [if_neg (by omega), if_neg (by omega), if_neg (by omega), if_neg (by omega), if_neg (by omega), if_neg (by omega), if_neg (by omega), if_pos k8]
    have t := hy.2.2 (dt 2 i)
    unfold thS at ok
    exact hy.u11 (by omega) (by omega)
  rw [if_neg k8] at ok
  by_cases th : y 1 (dt 2 i) = 1
  rotate_left
  · rw [if_pos th] at ok; cases ok
  rw [if_neg (fun h => h th)] at ok
  have tt := ty th
  by_cases k1 : dt 0 i = 1
  · rw [if_pos k1, decide_eq_true_iff] at ok
    rw [if_pos k1]
    refine YOk.u9 (YOk.u5 (YOk.u6 hy ?_) (by omega)) ?_
    · split <;> omega
    · split <;> omega
  rw [if_neg k1] at ok ⊢
  by_cases k2 : dt 0 i = 2
  · rw [if_pos k2, decide_eq_true_iff] at ok
    rw [if_pos k2]
    exact YOk.mk (YOk.u4 hy (by omega)) hi (by omega) (by omega) (by omega) (by omega)
  rw [if_neg k2] at ok ⊢
  by_cases k3 : dt 0 i = 3
  · rw [if_pos k3]
    exact YOk.u8 (YOk.u7 hy (by omega)) (by omega)
  rw [if_neg k3] at ok ⊢
  by_cases k4 : dt 0 i = 4
  · rw [if_pos k4]
    exact YOk.u8 (YOk.u7 hy (by omega)) (by omega)
  rw [if_neg k4] at ok ⊢
  by_cases k5 : dt 0 i = 5
  · rw [if_pos k5]
    exact YOk.u9 hy (by omega)
  rw [if_neg k5] at ok ⊢
  by_cases k6 : dt 0 i = 6
  · rw [if_pos k6]
    exact YOk.u9 hy (by omega)
  rw [if_neg k6] at ok ⊢
  by_cases k7 : dt 0 i = 7
  · rw [if_pos k7, decide_eq_true_iff] at ok
    rw [if_pos k7]
    have t := hy.2.2 (y 3 (dt 2 i))
    unfold thS at ok
    exact YOk.u10 (YOk.u4 hy (by omega)) (by omega) (show y 10 (y 3 (dt 2 i)) + dt 5 i + y 11 (y 3 (dt 2 i)) ≤ _ by omega)
  rw [if_neg k7, if_neg k8, if_pos (by omega)]
  exact YOk.u5 hy (by omega)
theorem YOk.st {dt : Nat → Int → Int} {hd : Int → Int → Int} {n : Nat} {nl i : Int} {y : Nat → Int → Int} (hy : YOk n nl (dt 6) y) (hl : LnOk dt nl i) (hi : 0 ≤ i ∧ i < (n : Int)) : YOk n nl (dt 6) (stS dt hd n y i) := (YOk.en hy hl hi).u2 (by split <;> omega)
/-- only line i itself comes there -/
theorem enS_1 {dt : Nat → Int → Int} {hd : Int → Int → Int} {n : Nat} {i w : Int} {y : Nat → Int → Int} (hw : w ≠ i) : enS dt hd n y i 1 w = y 1 w := by
  unfold enS
  split
  · unfold efS
    have mk : ∀ (z : Nat → Int → Int) (l c p q : Int), mkS z i l c p q 1 w = z 1 w := fun z l c p q => if_neg hw
    repeat' split
    all_goals first | rfl | exact if_neg hw
  · rfl
theorem stS_1 {dt : Nat → Int → Int} {hd : Int → Int → Int} {n : Nat} {i w : Int} {y : Nat → Int → Int} (hw : w ≠ i) : stS dt hd n y i 1 w = y 1 w := enS_1 (dt := dt) (hd := hd) (n := n) (y := y) hw
theorem enS_12 {dt : Nat → Int → Int} {hd : Int → Int → Int} {n : Nat} {i : Int} {y : Nat → Int → Int} : y 12 0 ≤ enS dt hd n y i 12 0 ∧ enS dt hd n y i 12 0 ≤ y 12 0 + 1 := by
  unfold enS
  split
  · unfold efS
    split
    · show y 12 0 ≤ y 12 0 + (if _ then 1 else 0) ∧ y 12 0 + (if _ then 1 else 0) ≤ y 12 0 + 1
      split <;> omega
    · have : ∀ z : Int, z = y 12 0 → y 12 0 ≤ z ∧ z ≤ y 12 0 + 1 := fun z h => by omega
      refine this _ ?_
      repeat' split
      all_goals rfl
  · omega
/-- the story of a list of lines -/
def tlS (dt : Nat → Int → Int) (hd : Int → Int → Int) (n : Nat) (L : List Int) (y : Nat → Int → Int) : Nat → Int → Int := L.foldl (stS dt hd n) y
theorem tlS_ok {dt : Nat → Int → Int} {hd : Int → Int → Int} {n : Nat} {nl : Int} (hD : DOk dt hd n nl) : ∀ {L : List Int} {y : Nat → Int → Int}, (∀ i ∈ L, 0 ≤ i ∧ i < (n : Int)) → YOk n nl (dt 6) y → YOk n nl (dt 6) (tlS dt hd n L y)
  | [], _, _, hy => hy
  | i :: L, y, hL, hy => tlS_ok hD (L := L) (fun j hj => hL j (List.mem_cons_of_mem _ hj)) (hy.st (hD.2.2.1 i (hL i List.mem_cons_self).1 (hL i List.mem_cons_self).2) (hL i List.mem_cons_self))
theorem tlS_12 {dt : Nat → Int → Int} {hd : Int → Int → Int} {n : Nat} : ∀ {L : List Int} {y : Nat → Int → Int}, y 12 0 ≤ tlS dt hd n L y 12 0 ∧ tlS dt hd n L y 12 0 ≤ y 12 0 + L.length
  | [], y => ⟨Int.le_refl _, by show y 12 0 ≤ _; simp⟩
  | i :: L, y => by
    have a := tlS_12 (dt := dt) (hd := hd) (n := n) (L := L) (y := stS dt hd n y i)
    have b : y 12 0 ≤ stS dt hd n y i 12 0 ∧ stS dt hd n y i 12 0 ≤ y 12 0 + 1 := enS_12 (dt := dt) (hd := hd) (n := n) (y := y) (i := i)
    rw [List.length_cons]
    show y 12 0 ≤ tlS dt hd n L (stS dt hd n y i) 12 0 ∧ tlS dt hd n L (stS dt hd n y i) 12 0 ≤ _
    omega
/-- sums with one number changed -/
theorem sumS_set {f g : Int → Int} {i : Int} : ∀ {n : Nat}, (∀ j, j ≠ i → g j = f j) → sumS g n = sumS f n + (if 0 ≤ i ∧ i < (n : Int) then g i - f i else 0)
  | 0, _ => by
    rw [if_neg (by omega)]
    rfl
  | n + 1, h => by
    show sumS g n + g n = sumS f n + f n + _
    rw [sumS_set (n := n) h]
    by_cases e : i = n
    · subst e
      rw [if_neg (by omega), if_pos (by omega)]
      omega
    · rw [h n (fun q => e q.symm)]
      by_cases q : 0 ≤ i ∧ i < (n : Int)
      · rw [if_pos q, if_pos (by omega)]; omega
      · rw [if_neg q, if_neg (by omega)]; omega
theorem onS_0 {y : Nat → Int → Int} {n : Nat} {l : Int} (h : ∀ w, y 1 w ≠ 1) : onS y n l = 0 := sumS_0 (fun j _ _ => if_neg (fun q => h j q.1))
theorem onS_rg {n : Nat} {nl : Int} {ck : Int → Int} {y : Nat → Int → Int} (hy : YOk n nl ck y) {l : Int} : 0 ≤ onS y n l ∧ onS y n l ≤ n * 200 := sumS_rg (fun j _ _ => by
  split
  · rename_i h
    have := hy.2.1 j h.1
    omega
  · omega)
theorem onS_eq {y z : Nat → Int → Int} {n : Nat} {l : Int} (h1 : y 1 = z 1) (h3 : y 3 = z 3) (h4 : y 4 = z 4) : onS y n l = onS z n l := by
  unfold onS
  rw [h1, h3, h4]
theorem onS_mk {y : Nat → Int → Int} {n : Nat} {l l' w c p q : Int} (hw : 0 ≤ w ∧ w < (n : Int)) (h0 : y 1 w ≠ 1) : onS (mkS y w l' c p q) n l = onS y n l + (if l' = l then c else 0) := by
  unfold onS
  rw [sumS_set (i := w) (f := fun w => if y 1 w = 1 ∧ y 3 w = l then y 4 w else 0), if_pos hw]
  · show _ + ((if (if w = w then 1 else y 1 w) = 1 ∧ (if w = w then l' else y 3 w) = l then (if w = w then c else y 4 w) else 0) - (if y 1 w = 1 ∧ y 3 w = l then y 4 w else 0)) = _
    rw [if_pos rfl, if_pos rfl, if_pos rfl, if_neg (show ¬ (y 1 w = 1 ∧ y 3 w = l) from fun h => h0 h.1)]
    by_cases e : l' = l
    · rw [if_pos e, if_pos ⟨rfl, e⟩]; omega
    · rw [if_neg e, if_neg (fun h => e h.2)]; omega
  · intro j hj
    show (if (if j = w then 1 else y 1 j) = 1 ∧ (if j = w then l' else y 3 j) = l then (if j = w then c else y 4 j) else 0) = _
    rw [if_neg hj, if_neg hj, if_neg hj]
theorem onS_u4 {y : Nat → Int → Int} {n : Nat} {l w v : Int} (hw : 0 ≤ w ∧ w < (n : Int)) (h1 : y 1 w = 1) : onS (upq y 4 w v) n l = onS y n l + (if y 3 w = l then v - y 4 w else 0) := by
  unfold onS
  rw [sumS_set (i := w) (f := fun w => if y 1 w = 1 ∧ y 3 w = l then y 4 w else 0), if_pos hw]
  · show _ + ((if y 1 w = 1 ∧ y 3 w = l then (if w = w then v else y 4 w) else 0) - (if y 1 w = 1 ∧ y 3 w = l then y 4 w else 0)) = _
    rw [if_pos rfl]
    by_cases e : y 3 w = l
    · rw [if_pos e, if_pos ⟨h1, e⟩, if_pos ⟨h1, e⟩]
    · rw [if_neg e, if_neg (fun h => e h.2), if_neg (fun h => e h.2)]; omega
  · intro j hj
    show (if y 1 j = 1 ∧ y 3 j = l then (if j = w then v else y 4 j) else 0) = _
    rw [if_neg hj]

