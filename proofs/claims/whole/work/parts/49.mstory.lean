/-! the model's story -/
def mcl : Nat → Nat
  | 1 => 142
  | 2 => 130
  | 3 => 143
  | 4 => 144
  | 5 => 145
  | 6 => 146
  | 7 => 147
  | 8 => 148
  | 9 => 149
  | 10 => 150
  | 11 => 151
  | _ => 0
def SM (n : Nat) (nl : Int) (τ : Nat → Int → Int) : Nat → Int → Int := StG (fun j => τ (mcl j)) (sumS (τ 131) n) n nl
theorem SM_u2 {n : Nat} {nl w v : Int} {τ : Nat → Int → Int} (hw : 0 ≤ w ∧ w < (n : Int)) : SM n nl (upq τ 130 w v) = upq (SM n nl τ) 2 w v := (StG_cong (b := upq (fun j => τ (mcl j)) 2 w v) rfl rfl rfl rfl rfl rfl rfl rfl rfl rfl rfl rfl ).trans (StG_u2 hw)
theorem SM_u3 {n : Nat} {nl w v : Int} {τ : Nat → Int → Int} (hw : SM n nl τ 1 w = 1) : SM n nl (upq τ 143 w v) = upq (SM n nl τ) 3 w v := (StG_cong (b := upq (fun j => τ (mcl j)) 3 w v) rfl rfl rfl rfl rfl rfl rfl rfl rfl rfl rfl rfl ).trans (StG_u3 ⟨(StG_rd hw).1, (StG_rd hw).2.1⟩)
theorem SM_u4 {n : Nat} {nl w v : Int} {τ : Nat → Int → Int} (hw : SM n nl τ 1 w = 1) : SM n nl (upq τ 144 w v) = upq (SM n nl τ) 4 w v := (StG_cong (b := upq (fun j => τ (mcl j)) 4 w v) rfl rfl rfl rfl rfl rfl rfl rfl rfl rfl rfl rfl ).trans (StG_u4 ⟨(StG_rd hw).1, (StG_rd hw).2.1⟩)
theorem SM_u5 {n : Nat} {nl w v : Int} {τ : Nat → Int → Int} (hw : SM n nl τ 1 w = 1) : SM n nl (upq τ 145 w v) = upq (SM n nl τ) 5 w v := (StG_cong (b := upq (fun j => τ (mcl j)) 5 w v) rfl rfl rfl rfl rfl rfl rfl rfl rfl rfl rfl rfl ).trans (StG_u5 ⟨(StG_rd hw).1, (StG_rd hw).2.1⟩)
theorem SM_u6 {n : Nat} {nl w v : Int} {τ : Nat → Int → Int} (hw : SM n nl τ 1 w = 1) : SM n nl (upq τ 146 w v) = upq (SM n nl τ) 6 w v := (StG_cong (b := upq (fun j => τ (mcl j)) 6 w v) rfl rfl rfl rfl rfl rfl rfl rfl rfl rfl rfl rfl ).trans (StG_u6 ⟨(StG_rd hw).1, (StG_rd hw).2.1⟩)
theorem SM_u7 {n : Nat} {nl w v : Int} {τ : Nat → Int → Int} (hw : SM n nl τ 1 w = 1) : SM n nl (upq τ 147 w v) = upq (SM n nl τ) 7 w v := (StG_cong (b := upq (fun j => τ (mcl j)) 7 w v) rfl rfl rfl rfl rfl rfl rfl rfl rfl rfl rfl rfl ).trans (StG_u7 ⟨(StG_rd hw).1, (StG_rd hw).2.1⟩)
theorem SM_u8 {n : Nat} {nl w v : Int} {τ : Nat → Int → Int} (hw : SM n nl τ 1 w = 1) : SM n nl (upq τ 148 w v) = upq (SM n nl τ) 8 w v := (StG_cong (b := upq (fun j => τ (mcl j)) 8 w v) rfl rfl rfl rfl rfl rfl rfl rfl rfl rfl rfl rfl ).trans (StG_u8 ⟨(StG_rd hw).1, (StG_rd hw).2.1⟩)
theorem SM_u9 {n : Nat} {nl w v : Int} {τ : Nat → Int → Int} (hw : SM n nl τ 1 w = 1) : SM n nl (upq τ 149 w v) = upq (SM n nl τ) 9 w v := (StG_cong (b := upq (fun j => τ (mcl j)) 9 w v) rfl rfl rfl rfl rfl rfl rfl rfl rfl rfl rfl rfl ).trans (StG_u9 ⟨(StG_rd hw).1, (StG_rd hw).2.1⟩)
theorem SM_u10 {n : Nat} {nl w v : Int} {τ : Nat → Int → Int} (hw : 0 ≤ w ∧ w < nl) : SM n nl (upq τ 150 w v) = upq (SM n nl τ) 10 w v := (StG_cong (b := upq (fun j => τ (mcl j)) 10 w v) rfl rfl rfl rfl rfl rfl rfl rfl rfl rfl rfl rfl ).trans (StG_u10 hw)
theorem SM_u11 {n : Nat} {nl w v : Int} {τ : Nat → Int → Int} (hw : 0 ≤ w ∧ w < nl) : SM n nl (upq τ 151 w v) = upq (SM n nl τ) 11 w v := (StG_cong (b := upq (fun j => τ (mcl j)) 11 w v) rfl rfl rfl rfl rfl rfl rfl rfl rfl rfl rfl rfl ).trans (StG_u11 hw)
def mkM (τ : Nat → Int → Int) (w l c p q : Int) : Nat → Int → Int := upq (upq (upq (upq (upq (upq (upq (upq τ 142 w 1) 143 w l) 144 w c) 145 w p) 146 w q) 147 w (-1)) 148 w 0) 149 w (-1)
theorem SM_mk {n : Nat} {nl w l c p q : Int} {τ : Nat → Int → Int} (hw : 0 ≤ w ∧ w < (n : Int)) : SM n nl (mkM τ w l c p q) = mkS (SM n nl τ) w l c p q := (StG_cong (b := mkS (fun j => τ (mcl j)) w l c p q) rfl rfl rfl rfl rfl rfl rfl rfl rfl rfl rfl rfl ).trans (StG_mk hw)
theorem SM_12 {n : Nat} {nl w v : Int} {τ : Nat → Int → Int} (hw : 0 ≤ w ∧ w < (n : Int)) : SM n nl (upq τ 131 w v) = setc (SM n nl τ) 12 (fun _ => SM n nl τ 12 0 + (v - τ 131 w)) := by
  funext k
  match k with
  | 0 => rfl
  | 1 => rfl
  | 2 => rfl
  | 3 => rfl
  | 4 => rfl
  | 5 => rfl
  | 6 => rfl
  | 7 => rfl
  | 8 => rfl
  | 9 => rfl
  | 10 => rfl
  | 11 => rfl
  | 12 =>
    funext b
    show sumS (fun b => if b = w then v else τ 131 b) n = sumS (τ 131) n + (v - τ 131 w)
    rw [sumS_set (i := w) (f := τ 131) (fun j hj => if_neg hj), if_pos hw, if_pos rfl]
  | k + 13 => rw [setc_ne (by omega)]; rfl
theorem SM_fr {n : Nat} {nl : Int} {σ τ : Nat → Int → Int} (h : ∀ k ∈ [130, 131, 142, 143, 144, 145, 146, 147, 148, 149, 150, 151], τ k = σ k) : SM n nl τ = SM n nl σ := StG_cong (h 142 (by decide)) (h 130 (by decide)) (h 143 (by decide)) (h 144 (by decide)) (h 145 (by decide)) (h 146 (by decide)) (h 147 (by decide)) (h 148 (by decide)) (h 149 (by decide)) (h 150 (by decide)) (h 151 (by decide)) (by rw [h 131 (by decide)])
/-- the model's data are dt, hd -/
def LM (dt : Nat → Int → Int) (hd : Int → Int → Int) (n : Nat) (nl : Int) (σ : Nat → Int → Int) : Prop := (σ 122 = dt 0 ∧ σ 123 = dt 1 ∧ σ 125 = dt 2 ∧ σ 126 = dt 3 ∧ σ 127 = dt 4 ∧ σ 128 = dt 5 ∧ σ 116 = dt 6) ∧ (σ 114 9 = (n : Int) ∧ σ 114 1 = nl) ∧ ∃ (dy cl : Int → Int) (cd vl : Int → Int → Int), TmM dy cl cd vl σ ∧ ∀ d, heldS dy cl cd vl (σ 114 22).toNat d = hd d
theorem LM.low {dt : Nat → Int → Int} {hd : Int → Int → Int} {n : Nat} {nl : Int} {σ τ : Nat → Int → Int} (hL : LM dt hd n nl σ) (h : ∀ k ∈ [122, 123, 125, 126, 127, 128, 116, 133, 134, 135, 136, 137], τ k = σ k) (ho : ∀ j ∈ ([9, 1, 22] : List Int), τ 114 j = σ 114 j) : LM dt hd n nl τ := by
  unfold LM TmM at hL ⊢
  rw [h 122 (by decide), h 123 (by decide), h 125 (by decide), h 126 (by decide), h 127 (by decide), h 128 (by decide), h 116 (by decide), h 133 (by decide), h 134 (by decide), h 135 (by decide), h 136 (by decide), h 137 (by decide), ho 9 (by decide), ho 1 (by decide), ho 22 (by decide)]
  exact hL
/-- on the way: the story is y, doubles f -/
def MdM (dt : Nat → Int → Int) (hd : Int → Int → Int) (n : Nat) (nl : Int) (y : Nat → Int → Int) (f : Int → Int) (σ τ : Nat → Int → Int) : Prop := SM n nl τ = y ∧ τ 131 = f ∧ LM dt hd n nl τ ∧ Fr [114, 139, 140, 141, 130, 131, 142, 143, 144, 145, 146, 147, 148, 149, 150, 151] σ τ ∧ Fo 114 [38, 39] σ τ
section
variable {dt : Nat → Int → Int} {hd : Int → Int → Int} {n : Nat} {nl : Int} {y : Nat → Int → Int} {f : Int → Int} {σ τ : Nat → Int → Int} {w v : Int}
theorem MdM.rf (hL : LM dt hd n nl σ) : MdM dt hd n nl (SM n nl σ) (σ 131) σ σ := ⟨rfl, rfl, hL, Fr.rf, Fo.rf⟩
theorem MdM.ld (h : MdM dt hd n nl y f σ τ) {c : Nat} {i : Int} (hc : c ∉ [122, 123, 125, 126, 127, 128, 116, 133, 134, 135, 136, 137, 114]) : LM dt hd n nl (upq τ c i v) := h.2.2.1.low (fun k hk => upq_ne (fun e => hc (by rw [← e]; exact List.mem_append_left [114] hk))) (fun j _ => by rw [upq_ne (fun e => hc (by rw [← e]; decide))])
theorem MdM.u3 (h : MdM dt hd n nl y f σ τ) (hw : y 1 w = 1) : MdM dt hd n nl (upq y 3 w v) f σ (upq τ 143 w v) := ⟨(SM_u3 (by rw [h.1]; exact hw)).trans (by rw [h.1]), h.2.1, h.ld (by decide), h.2.2.2.1.up (by decide), h.2.2.2.2.un (by decide)⟩
theorem MdM.u4 (h : MdM dt hd n nl y f σ τ) (hw : y 1 w = 1) : MdM dt hd n nl (upq y 4 w v) f σ (upq τ 144 w v) := ⟨(SM_u4 (by rw [h.1]; exact hw)).trans (by rw [h.1]), h.2.1, h.ld (by decide), h.2.2.2.1.up (by decide), h.2.2.2.2.un (by decide)⟩
theorem MdM.u5 (h : MdM dt hd n nl y f σ τ) (hw : y 1 w = 1) : MdM dt hd n nl (upq y 5 w v) f σ (upq τ 145 w v) := ⟨(SM_u5 (by rw [h.1]; exact hw)).trans (by rw [h.1]), h.2.1, h.ld (by decide), h.2.2.2.1.up (by decide), h.2.2.2.2.un (by decide)⟩
theorem MdM.u6 (h : MdM dt hd n nl y f σ τ) (hw : y 1 w = 1) : MdM dt hd n nl (upq y 6 w v) f σ (upq τ 146 w v) := ⟨(SM_u6 (by rw [h.1]; exact hw)).trans (by rw [h.1]), h.2.1, h.ld (by decide), h.2.2.2.1.up (by decide), h.2.2.2.2.un (by decide)⟩
theorem MdM.u7 (h : MdM dt hd n nl y f σ τ) (hw : y 1 w = 1) : MdM dt hd n nl (upq y 7 w v) f σ (upq τ 147 w v) := ⟨(SM_u7 (by rw [h.1]; exact hw)).trans (by rw [h.1]), h.2.1, h.ld (by decide), h.2.2.2.1.up (by decide), h.2.2.2.2.un (by decide)⟩
theorem MdM.u8 (h : MdM dt hd n nl y f σ τ) (hw : y 1 w = 1) : MdM dt hd n nl (upq y 8 w v) f σ (upq τ 148 w v) := ⟨(SM_u8 (by rw [h.1]; exact hw)).trans (by rw [h.1]), h.2.1, h.ld (by decide), h.2.2.2.1.up (by decide), h.2.2.2.2.un (by decide)⟩
theorem MdM.u9 (h : MdM dt hd n nl y f σ τ) (hw : y 1 w = 1) : MdM dt hd n nl (upq y 9 w v) f σ (upq τ 149 w v) := ⟨(SM_u9 (by rw [h.1]; exact hw)).trans (by rw [h.1]), h.2.1, h.ld (by decide), h.2.2.2.1.up (by decide), h.2.2.2.2.un (by decide)⟩
theorem MdM.u2 (h : MdM dt hd n nl y f σ τ) (hw : 0 ≤ w ∧ w < (n : Int)) : MdM dt hd n nl (upq y 2 w v) f σ (upq τ 130 w v) := ⟨(SM_u2 hw).trans (by rw [h.1]), h.2.1, h.ld (by decide), h.2.2.2.1.up (by decide), h.2.2.2.2.un (by decide)⟩
theorem MdM.u10 (h : MdM dt hd n nl y f σ τ) (hw : 0 ≤ w ∧ w < nl) : MdM dt hd n nl (upq y 10 w v) f σ (upq τ 150 w v) := ⟨(SM_u10 hw).trans (by rw [h.1]), h.2.1, h.ld (by decide), h.2.2.2.1.up (by decide), h.2.2.2.2.un (by decide)⟩
theorem MdM.u11 (h : MdM dt hd n nl y f σ τ) (hw : 0 ≤ w ∧ w < nl) : MdM dt hd n nl (upq y 11 w v) f σ (upq τ 151 w v) := ⟨(SM_u11 hw).trans (by rw [h.1]), h.2.1, h.ld (by decide), h.2.2.2.1.up (by decide), h.2.2.2.2.un (by decide)⟩
theorem MdM.db (h : MdM dt hd n nl y f σ τ) (hw : 0 ≤ w ∧ w < (n : Int)) : MdM dt hd n nl (setc y 12 (fun _ => y 12 0 + (v - f w))) (updI f w v) σ (upq τ 131 w v) := ⟨(SM_12 hw).trans (by rw [h.1, h.2.1]), by show (fun b => if b = w then v else τ 131 b) = _; rw [h.2.1]; rfl, h.ld (by decide), h.2.2.2.1.up (by decide), h.2.2.2.2.un (by decide)⟩
theorem MdM.mk (h : MdM dt hd n nl y f σ τ) (hw : 0 ≤ w ∧ w < (n : Int)) {l c p q : Int} : MdM dt hd n nl (mkS y w l c p q) f σ (mkM τ w l c p q) := ⟨(SM_mk hw).trans (by rw [h.1]), h.2.1, h.2.2.1.low (fun k hk => by
  unfold mkM
  have : k ≠ 142 ∧ k ≠ 143 ∧ k ≠ 144 ∧ k ≠ 145 ∧ k ≠ 146 ∧ k ≠ 147 ∧ k ≠ 148 ∧ k ≠ 149 := by simp at hk; omega
  rw [upq_ne (by omega), upq_ne (by omega), upq_ne (by omega), upq_ne (by omega), upq_ne (by omega), upq_ne (by omega), upq_ne (by omega), upq_ne (by omega)]) (fun j _ => rfl), ((((((((h.2.2.2.1.up (by decide)).up (by decide)).up (by decide)).up (by decide)).up (by decide)).up (by decide)).up (by decide)).up (by decide)), ((((((((h.2.2.2.2.un (by decide)).un (by decide)).un (by decide)).un (by decide)).un (by decide)).un (by decide)).un (by decide)).un (by decide))⟩
theorem MdM.trans {ρ : Nat → Int → Int} {g : Int → Int} {x : Nat → Int → Int} (h : MdM dt hd n nl x g σ ρ) (q : MdM dt hd n nl y f ρ τ) : MdM dt hd n nl y f σ τ := ⟨q.1, q.2.1, q.2.2.1, Fr.trans h.2.2.2.1 q.2.2.2.1 (fun k a => a) (fun k a => a), Fo.trans h.2.2.2.2 q.2.2.2.2 (fun k a => a) (fun k a => a)⟩
/-- what befall and its like leave -/
def DoM (dt : Nat → Int → Int) (hd : Int → Int → Int) (n : Nat) (nl i : Int) (σ : Nat → Int → Int) (z : Int) (τ : Nat → Int → Int) : Prop := z = (if okS dt hd (SM n nl σ) i = true then 1 else 0) ∧ ∃ f, MdM dt hd n nl (enS dt hd n (SM n nl σ) i) f σ τ ∧ (∀ w, w ≠ i → f w = σ 131 w) ∧ (f i = 0 ∨ f i = 1)
theorem DoM.yes {i : Int} (ok : okS dt hd (SM n nl σ) i = true) (m : MdM dt hd n nl (efS dt hd n (SM n nl σ) i) f σ τ) (h1 : ∀ w, w ≠ i → f w = σ 131 w) (h2 : f i = 0 ∨ f i = 1) : DoM dt hd n nl i σ 1 τ := ⟨(if_pos ok).symm, f, by rw [enS_y ok]; exact m, h1, h2⟩
theorem DoM.no {i : Int} (ok : okS dt hd (SM n nl σ) i = false) (m : MdM dt hd n nl (SM n nl σ) f σ τ) (h1 : ∀ w, w ≠ i → f w = σ 131 w) (h2 : f i = 0 ∨ f i = 1) : DoM dt hd n nl i σ 0 τ := ⟨(if_neg (by rw [ok]; decide)).symm, f, by rw [enS_n ok]; exact m, h1, h2⟩
theorem DoM.z01 {i z : Int} (h : DoM dt hd n nl i σ z τ) : z = 0 ∨ z = 1 := by
  rw [h.1]
  split
  · exact Or.inr rfl
  · exact Or.inl rfl
theorem DoM.pre {i z : Int} {ρ : Nat → Int → Int} (m : MdM dt hd n nl (SM n nl σ) (σ 131) σ ρ) (h : DoM dt hd n nl i ρ z τ) : DoM dt hd n nl i σ z τ := by
  obtain ⟨a, f, b, c, e⟩ := h
  rw [m.1] at a b
  rw [m.2.1] at c
  exact ⟨a, f, m.trans b, c, e⟩
end
variable {l : Launch} {G : GC} {σ : Nat → Int → Int}
variable {dt : Nat → Int → Int} {hd : Int → Int → Int} {n : Nat} {nl : Int}
theorem c_X11_there {x : Int} (hx : 0 ≤ x ∧ x < nl) (hL : LM dt hd n nl σ) (hD : DOk dt hd n nl) : CI l G M_X11_there 0 [vr 114, vi x] σ (IP (thS (dt 6) (SM n nl σ) x) σ) := by
  obtain ⟨⟨e8, e9, e11, e12, e13, e14, e3⟩, ⟨e79, e15⟩, -⟩ := id hL
  obtain ⟨n120, nl12, hln, hck, hhd⟩ := id hD
  have t3 := congrFun e3 x
  have t10 : (SM n nl σ) 10 x = σ 150 x := StG_10 hx
  have t11 : (SM n nl σ) 11 x = σ 151 x := StG_11 hx
  refine Ct.of rfl (Nat.le_of_ble_eq_true rfl) ?_
  refine x_aload_n (E_X11_there_0 0 rfl) rfl ?_
  refine x_getR (E_X11_there_0 1 rfl) fl_X11_13 rfl (by decide) rfl ?_
  refine x_iload_n (E_X11_there_0 2 rfl) rfl ?_
  refine x_ialde (f := σ 116) (E_X11_there_0 3 rfl) rfl (by decide) (by omega) rfl ?_
  refine x_aload_n (E_X11_there_0 4 rfl) rfl ?_
  refine x_getR (E_X11_there_0 5 rfl) fl_X11_120 rfl (by decide) rfl ?_
  refine x_iload_n (E_X11_there_0 6 rfl) rfl ?_
  refine x_ialde (f := σ 150) (E_X11_there_0 7 rfl) rfl (by decide) (by omega) rfl ?_
  refine x_isub (E_X11_there_0 8 rfl) ?_
  refine x_aload_n (E_X11_there_0 9 rfl) rfl ?_
  refine x_getR (E_X11_there_0 10 rfl) fl_X11_123 rfl (by decide) rfl ?_
  refine x_iload_n (E_X11_there_0 11 rfl) rfl ?_
  refine x_ialde (f := σ 151) (E_X11_there_0 12 rfl) rfl (by decide) (by omega) rfl ?_
  refine x_isub (E_X11_there_0 13 rfl) ?_
  refine z_iret (E_X11_there_0 14 rfl) trivial ?_
  exact ⟨by unfold thS; omega, rfl⟩
theorem thM_rg {x : Int} (hx : 0 ≤ x ∧ x < nl) (hD : DOk dt hd n nl) (hy : YOk n nl (dt 6) (SM n nl σ)) : 0 ≤ thS (dt 6) (SM n nl σ) x ∧ thS (dt 6) (SM n nl σ) x ≤ 200 := by
  have a := hD.2.2.2.1 x hx.1 hx.2
  have b := hy.2.2 x
  have b' := b.2.2 hx.1 hx.2
  unfold thS
  omega
theorem c_X11_onPapers {x : Int} (hx : rgi x) (hL : LM dt hd n nl σ) (hD : DOk dt hd n nl) (hy : YOk n nl (dt 6) (SM n nl σ)) : CI l G M_X11_onPapers 0 [vr 114, vi x] σ (IP (onS (SM n nl σ) n x) σ) := by
  obtain ⟨⟨e8, e9, e11, e12, e13, e14, e3⟩, ⟨e79, e15⟩, -⟩ := id hL
  obtain ⟨n120, nl12, hln, hck, hhd⟩ := id hD
  refine Ct.of rfl (Nat.le_of_ble_eq_true rfl) ?_
  have loop : ∀ (k : Nat) (i s : Int), i = n - k → k ≤ n → s = onS (SM n nl σ) i.toNat x → XI l G M_X11_onPapers 0 4 [some (vr 114), some (vi x), some (vi s), some (vi i)] [] σ (IP (onS (SM n nl σ) n x) σ) := by
    intro k
    induction k using Nat.strongRecOn with
    | _ k ih =>
    intro i s hi hk hs
    refine x_iload_n (E_X11_onPapers_0 4 rfl) rfl ?_
    refine x_aload_n (E_X11_onPapers_0 5 rfl) rfl ?_
    refine x_getIe (v := σ 114 9) (E_X11_onPapers_0 6 rfl) fl_X11_227 rfl (by decide) rfl ?_
    refine x_icmp_ge (E_X11_onPapers_0 7 rfl) (by omega) (by omega) (fun c1 => ?_) (fun c1 => ?_)
    · refine x_iload_n (E_X11_onPapers_0 30 rfl) rfl ?_
      refine z_iret (E_X11_onPapers_0 31 rfl) trivial ?_
      exact ⟨by rw [hs, show i.toNat = n by omega], rfl⟩
    · have g1 : (SM n nl σ) 1 i = σ 142 i := StG_1 (by omega)
      have g2 := (hy.1 i).1
      refine x_iload_n (E_X11_onPapers_0 8 rfl) rfl ?_
      refine x_aload_n (E_X11_onPapers_0 9 rfl) rfl ?_
      refine x_getR (E_X11_onPapers_0 10 rfl) fl_X11_96 rfl (by decide) rfl ?_
      refine x_iload_n (E_X11_onPapers_0 11 rfl) rfl ?_
      refine x_zalde (f := σ 142) (E_X11_onPapers_0 12 rfl) rfl (by decide) (by omega) rfl ?_
      refine x_if_eq (E_X11_onPapers_0 13 rfl) (by omega) (fun c2 => ?_) (fun c2 => ?_)
      · refine x_iconst (E_X11_onPapers_0 25 rfl) ?_
        refine x_iadd (E_X11_onPapers_0 26 rfl) ?_
        refine x_istore_n (E_X11_onPapers_0 27 rfl) rfl ?_
        refine x_iinc (E_X11_onPapers_0 28 rfl) rfl rfl ?_
        refine x_goto (E_X11_onPapers_0 29 rfl) ?_
        refine ih (k - 1) (by omega) _ _ (by omega) (by omega) ?_
        unfold onS
        rw [sumS_i (by omega)]
        have hs : s = sumS (fun w => if (SM n nl σ) 1 w = 1 ∧ (SM n nl σ) 3 w = x then (SM n nl σ) 4 w else 0) i.toNat := hs
        rw [← hs]
        rw [if_neg (by omega)]
      · have rd := StG_rd (show (SM n nl σ) 1 i = 1 by omega)
        have d3 : (SM n nl σ) 3 i = σ 143 i := rd.2.2.1
        have d4 : (SM n nl σ) 4 i = σ 144 i := rd.2.2.2.1
        have yr := hy.2.1 i (by omega)
        refine x_aload_n (E_X11_onPapers_0 14 rfl) rfl ?_
        refine x_getR (E_X11_onPapers_0 15 rfl) fl_X11_99 rfl (by decide) rfl ?_
        refine x_iload_n (E_X11_onPapers_0 16 rfl) rfl ?_
        refine x_ialde (f := σ 143) (E_X11_onPapers_0 17 rfl) rfl (by decide) (by omega) rfl ?_
        refine x_iload_n (E_X11_onPapers_0 18 rfl) rfl ?_
        refine x_icmp_ne (E_X11_onPapers_0 19 rfl) (by omega) (by omega) (fun c3 => ?_) (fun c3 => ?_)
        · refine x_iconst (E_X11_onPapers_0 25 rfl) ?_
          refine x_iadd (E_X11_onPapers_0 26 rfl) ?_
          refine x_istore_n (E_X11_onPapers_0 27 rfl) rfl ?_
          refine x_iinc (E_X11_onPapers_0 28 rfl) rfl rfl ?_
          refine x_goto (E_X11_onPapers_0 29 rfl) ?_
          refine ih (k - 1) (by omega) _ _ (by omega) (by omega) ?_
          unfold onS
          rw [sumS_i (by omega)]
          have hs : s = sumS (fun w => if (SM n nl σ) 1 w = 1 ∧ (SM n nl σ) 3 w = x then (SM n nl σ) 4 w else 0) i.toNat := hs
          rw [← hs]
          rw [if_neg (by omega)]
        · refine x_aload_n (E_X11_onPapers_0 20 rfl) rfl ?_
          refine x_getR (E_X11_onPapers_0 21 rfl) fl_X11_102 rfl (by decide) rfl ?_
          refine x_iload_n (E_X11_onPapers_0 22 rfl) rfl ?_
          refine x_ialde (f := σ 144) (E_X11_onPapers_0 23 rfl) rfl (by decide) (by omega) rfl ?_
          refine x_goto (E_X11_onPapers_0 24 rfl) ?_
          refine x_iadd (E_X11_onPapers_0 26 rfl) ?_
          refine x_istore_n (E_X11_onPapers_0 27 rfl) rfl ?_
          refine x_iinc (E_X11_onPapers_0 28 rfl) rfl rfl ?_
          refine x_goto (E_X11_onPapers_0 29 rfl) ?_
          refine ih (k - 1) (by omega) _ _ (by omega) (by omega) ?_
          unfold onS
          rw [sumS_i (by omega)]
          have hs : s = sumS (fun w => if (SM n nl σ) 1 w = 1 ∧ (SM n nl σ) 3 w = x then (SM n nl σ) 4 w else 0) i.toNat := hs
          rw [← hs]
          rw [if_pos (by omega), d4]
  refine x_iconst (E_X11_onPapers_0 0 rfl) ?_
  refine x_istore_n (E_X11_onPapers_0 1 rfl) rfl ?_
  refine x_iconst (E_X11_onPapers_0 2 rfl) ?_
  refine x_istore_n (E_X11_onPapers_0 3 rfl) rfl ?_
  exact loop n 0 0 (by omega) (Nat.le_refl _) rfl

theorem c_X11_lay {w x c p q : Int} (hw : 0 ≤ w ∧ w < 120) : CV l G M_X11_lay 0 [vr 114, vi w, vi x, vi c, vi p, vi q] σ (fun τ => τ = mkM σ w x c p q) := by
  refine Ct.of rfl (Nat.le_of_ble_eq_true rfl) ?_
  refine x_aload_n (E_X11_lay_0 0 rfl) rfl ?_
  refine x_getR (E_X11_lay_0 1 rfl) fl_X11_96 rfl (by decide) rfl ?_
  refine x_iload_n (E_X11_lay_0 2 rfl) rfl ?_
  refine x_iconst (E_X11_lay_0 3 rfl) ?_
  refine x_zast (E_X11_lay_0 4 rfl) rfl (by decide) (by omega) (Or.inr rfl) ?_
  refine x_aload_n (E_X11_lay_0 5 rfl) rfl ?_
  refine x_getR (E_X11_lay_0 6 rfl) fl_X11_99 rfl (by decide) rfl ?_
  refine x_iload_n (E_X11_lay_0 7 rfl) rfl ?_
  refine x_iload_n (E_X11_lay_0 8 rfl) rfl ?_
  refine x_iast (E_X11_lay_0 9 rfl) rfl (by decide) (by omega) ?_
  refine x_aload_n (E_X11_lay_0 10 rfl) rfl ?_
  refine x_getR (E_X11_lay_0 11 rfl) fl_X11_102 rfl (by decide) rfl ?_
  refine x_iload_n (E_X11_lay_0 12 rfl) rfl ?_
  refine x_iload_n (E_X11_lay_0 13 rfl) rfl ?_
  refine x_iast (E_X11_lay_0 14 rfl) rfl (by decide) (by omega) ?_
  refine x_aload_n (E_X11_lay_0 15 rfl) rfl ?_
  refine x_getR (E_X11_lay_0 16 rfl) fl_X11_105 rfl (by decide) rfl ?_
  refine x_iload_n (E_X11_lay_0 17 rfl) rfl ?_
  refine x_iload (E_X11_lay_0 18 rfl) rfl ?_
  refine x_iast (E_X11_lay_0 19 rfl) rfl (by decide) (by omega) ?_
  refine x_aload_n (E_X11_lay_0 20 rfl) rfl ?_
  refine x_getR (E_X11_lay_0 21 rfl) fl_X11_108 rfl (by decide) rfl ?_
  refine x_iload_n (E_X11_lay_0 22 rfl) rfl ?_
  refine x_iload (E_X11_lay_0 23 rfl) rfl ?_
  refine x_iast (E_X11_lay_0 24 rfl) rfl (by decide) (by omega) ?_
  refine x_aload_n (E_X11_lay_0 25 rfl) rfl ?_
  refine x_getR (E_X11_lay_0 26 rfl) fl_X11_111 rfl (by decide) rfl ?_
  refine x_iload_n (E_X11_lay_0 27 rfl) rfl ?_
  refine x_iconst (E_X11_lay_0 28 rfl) ?_
  refine x_iast (E_X11_lay_0 29 rfl) rfl (by decide) (by omega) ?_
  refine x_aload_n (E_X11_lay_0 30 rfl) rfl ?_
  refine x_getR (E_X11_lay_0 31 rfl) fl_X11_114 rfl (by decide) rfl ?_
  refine x_iload_n (E_X11_lay_0 32 rfl) rfl ?_
  refine x_iconst (E_X11_lay_0 33 rfl) ?_
  refine x_iast (E_X11_lay_0 34 rfl) rfl (by decide) (by omega) ?_
  refine x_aload_n (E_X11_lay_0 35 rfl) rfl ?_
  refine x_getR (E_X11_lay_0 36 rfl) fl_X11_117 rfl (by decide) rfl ?_
  refine x_iload_n (E_X11_lay_0 37 rfl) rfl ?_
  refine x_iconst (E_X11_lay_0 38 rfl) ?_
  refine x_iast (E_X11_lay_0 39 rfl) rfl (by decide) (by omega) ?_
  refine z_vret (E_X11_lay_0 40 rfl) trivial ?_
  rfl
set_option maxHeartbeats 1000000 in
theorem c_X11_issue {i : Int} (hi : 0 ≤ i ∧ i < (n : Int)) (k : dt 0 i = 0) (h0 : (SM n nl σ) 1 i = 0) (hL : LM dt hd n nl σ) (hD : DOk dt hd n nl) (hy : YOk n nl (dt 6) (SM n nl σ)) (hz : σ 131 i = 0) : CI l G M_X11_issue 1 [vr 114, vi i] σ (DoM dt hd n nl i σ) := by
  obtain ⟨⟨e8, e9, e11, e12, e13, e14, e3⟩, ⟨e79, e15⟩, -⟩ := id hL
  obtain ⟨n120, nl12, hln, hck, hhd⟩ := id hD
  obtain ⟨l0, l1, l2, l3, l4, l5, l6, l7, l8, l9⟩ := hln i hi.1 hi.2
  unfold hasPq at l4
  have f8 := congrFun e8 i
  have f9 := congrFun e9 i
  have f11 := congrFun e11 i
  have f12 := congrFun e12 i
  have f13 := congrFun e13 i
  have f14 := congrFun e14 i
  have hw : 0 ≤ dt 2 i ∧ dt 2 i < nl := by omega
  have ok : okS dt hd (SM n nl σ) i = true := okS_t (Or.inl k)
  have ym := YOk.mk hy hi hw (c := dt 5 i) (p := dt 3 i) (q := dt 3 i) (by omega) (by omega) (by omega)
  have o4 := thM_rg hw hD hy
  have m1 := (MdM.rf hL).mk hi (l := dt 2 i) (c := dt 5 i) (p := dt 3 i) (q := dt 3 i)
  have o5 := onS_rg ym (l := dt 2 i)
  have cp := c_X11_onPapers (l := l) (G := G) (σ := (mkM σ i (dt 2 i) (dt 5 i) (dt 3 i) (dt 3 i))) (x := dt 2 i) (by omega) m1.2.2.1 hD (by rw [m1.1]; exact ym)
  have ct := c_X11_there (l := l) (G := G) (σ := (mkM σ i (dt 2 i) (dt 5 i) (dt 3 i) (dt 3 i))) (x := dt 2 i) hw m1.2.2.1 hD
  rw [m1.1] at cp ct
  have e6 : thS (dt 6) (mkS (SM n nl σ) i (dt 2 i) (dt 5 i) (dt 3 i) (dt 3 i)) (dt 2 i) = thS (dt 6) (SM n nl σ) (dt 2 i) := rfl
  rw [e6] at ct
  have q11 : (mkM σ i (dt 2 i) (dt 5 i) (dt 3 i) (dt 3 i)) 125 i = dt 2 i := f11
  refine Ct.of rfl (Nat.le_of_ble_eq_true rfl) ?_
  refine x_aload_n (E_X11_issue_0 0 rfl) rfl ?_
  refine x_iload_n (E_X11_issue_0 1 rfl) rfl ?_
  refine x_aload_n (E_X11_issue_0 2 rfl) rfl ?_
  refine x_getR (E_X11_issue_0 3 rfl) fl_X11_40 rfl (by decide) rfl ?_
  refine x_iload_n (E_X11_issue_0 4 rfl) rfl ?_
  refine x_ialde (f := σ 125) (E_X11_issue_0 5 rfl) rfl (by decide) (by omega) rfl ?_
  refine x_aload_n (E_X11_issue_0 6 rfl) rfl ?_
  refine x_getR (E_X11_issue_0 7 rfl) fl_X11_49 rfl (by decide) rfl ?_
  refine x_iload_n (E_X11_issue_0 8 rfl) rfl ?_
  refine x_ialde (f := σ 128) (E_X11_issue_0 9 rfl) rfl (by decide) (by omega) rfl ?_
  refine x_aload_n (E_X11_issue_0 10 rfl) rfl ?_
  refine x_getR (E_X11_issue_0 11 rfl) fl_X11_43 rfl (by decide) rfl ?_
  refine x_iload_n (E_X11_issue_0 12 rfl) rfl ?_
  refine x_ialde (f := σ 126) (E_X11_issue_0 13 rfl) rfl (by decide) (by omega) rfl ?_
  refine x_aload_n (E_X11_issue_0 14 rfl) rfl ?_
  refine x_getR (E_X11_issue_0 15 rfl) fl_X11_43 rfl (by decide) rfl ?_
  refine x_iload_n (E_X11_issue_0 16 rfl) rfl ?_
  refine x_ialde (f := σ 126) (E_X11_issue_0 17 rfl) rfl (by decide) (by omega) rfl ?_
  rw [f11, f14, f12]
  refine z_callVv (E_X11_issue_0 18 rfl) ml_X11_344 mv_X11_lay rfl (by decide) (by decide) (c_X11_lay (by omega)) (by decide) rfl rfl (Nat.le_of_ble_eq_true rfl) (fun τ9 h9 => ?_)
  subst h9
  refine x_aload_n (E_X11_issue_0 19 rfl) rfl ?_
  refine x_getR (E_X11_issue_0 20 rfl) fl_X11_59 rfl (by decide) rfl ?_
  refine x_iload_n (E_X11_issue_0 21 rfl) rfl ?_
  refine x_aload_n (E_X11_issue_0 22 rfl) rfl ?_
  refine x_aload_n (E_X11_issue_0 23 rfl) rfl ?_
  refine x_getR (E_X11_issue_0 24 rfl) fl_X11_40 rfl (by decide) rfl ?_
  refine x_iload_n (E_X11_issue_0 25 rfl) rfl ?_
  refine x_ialde (f := (mkM σ i (dt 2 i) (dt 5 i) (dt 3 i) (dt 3 i)) 125) (E_X11_issue_0 26 rfl) rfl (by decide) (by omega) rfl ?_
  rw [q11]
  refine z_callVi (E_X11_issue_0 27 rfl) ml_X11_351 mv_X11_onPapers rfl (by decide) (by decide) cp (by decide) rfl rfl (Nat.le_of_ble_eq_true rfl) (fun z8 τ8 h8 => ?_)
  obtain ⟨rfl, rfl⟩ := h8
  refine x_aload_n (E_X11_issue_0 28 rfl) rfl ?_
  refine x_aload_n (E_X11_issue_0 29 rfl) rfl ?_
  refine x_getR (E_X11_issue_0 30 rfl) fl_X11_40 rfl (by decide) rfl ?_
  refine x_iload_n (E_X11_issue_0 31 rfl) rfl ?_
  refine x_ialde (f := (mkM σ i (dt 2 i) (dt 5 i) (dt 3 i) (dt 3 i)) 125) (E_X11_issue_0 32 rfl) rfl (by decide) (by omega) rfl ?_
  rw [q11]
  refine z_callVi (E_X11_issue_0 33 rfl) ml_X11_348 mv_X11_there rfl (by decide) (by decide) ct (by decide) rfl rfl (Nat.le_of_ble_eq_true rfl) (fun z7 τ7 h7 => ?_)
  obtain ⟨rfl, rfl⟩ := h7
  refine x_icmp_le (E_X11_issue_0 34 rfl) (by omega) (by omega) (fun c1 => ?_) (fun c1 => ?_)
  · refine x_iconst (E_X11_issue_0 37 rfl) ?_
    refine x_zast (E_X11_issue_0 38 rfl) rfl (by decide) (by omega) (Or.inl rfl) ?_
    refine x_iconst (E_X11_issue_0 39 rfl) ?_
    refine z_iret (E_X11_issue_0 40 rfl) (Or.inr rfl) ?_
    have ee : setc (mkS (SM n nl σ) i (dt 2 i) (dt 5 i) (dt 3 i) (dt 3 i)) 12 (fun _ => mkS (SM n nl σ) i (dt 2 i) (dt 5 i) (dt 3 i) (dt 3 i) 12 0 + (0 - σ 131 i)) = efS dt hd n (SM n nl σ) i := by
      rw [efS_0 k, if_neg (by omega), hz]
      rfl
    exact DoM.yes ok (by rw [← ee]; exact m1.db hi) (fun w hw => if_neg hw) (Or.inl (if_pos rfl))
  · refine x_iconst (E_X11_issue_0 35 rfl) ?_
    refine x_goto (E_X11_issue_0 36 rfl) ?_
    refine x_zast (E_X11_issue_0 38 rfl) rfl (by decide) (by omega) (Or.inr rfl) ?_
    refine x_iconst (E_X11_issue_0 39 rfl) ?_
    refine z_iret (E_X11_issue_0 40 rfl) (Or.inr rfl) ?_
    have ee : setc (mkS (SM n nl σ) i (dt 2 i) (dt 5 i) (dt 3 i) (dt 3 i)) 12 (fun _ => mkS (SM n nl σ) i (dt 2 i) (dt 5 i) (dt 3 i) (dt 3 i) 12 0 + (1 - σ 131 i)) = efS dt hd n (SM n nl σ) i := by
      rw [efS_0 k, if_pos (by omega), hz]
      rfl
    exact DoM.yes ok (by rw [← ee]; exact m1.db hi) (fun w hw => if_neg hw) (Or.inr (if_pos rfl))
theorem c_X11_burn {i : Int} (hi : 0 ≤ i ∧ i < (n : Int)) (k : dt 0 i = 8) (hL : LM dt hd n nl σ) (hD : DOk dt hd n nl) (hy : YOk n nl (dt 6) (SM n nl σ)) (hz : σ 131 i = 0) : CI l G M_X11_burn 1 [vr 114, vi i, vi (dt 2 i)] σ (DoM dt hd n nl i σ) := by
  obtain ⟨⟨e8, e9, e11, e12, e13, e14, e3⟩, ⟨e79, e15⟩, -⟩ := id hL
  obtain ⟨n120, nl12, hln, hck, hhd⟩ := id hD
  obtain ⟨l0, l1, l2, l3, l4, l5, l6, l7, l8, l9⟩ := hln i hi.1 hi.2
  unfold hasPq at l4
  have f8 := congrFun e8 i
  have f9 := congrFun e9 i
  have f11 := congrFun e11 i
  have f12 := congrFun e12 i
  have f13 := congrFun e13 i
  have f14 := congrFun e14 i
  have hw : 0 ≤ dt 2 i ∧ dt 2 i < nl := by omega
  have o4 := thM_rg hw hD hy
  have t11 : (SM n nl σ) 11 (dt 2 i) = σ 151 (dt 2 i) := StG_11 hw
  refine Ct.of rfl (Nat.le_of_ble_eq_true rfl) ?_
  refine x_aload_n (E_X11_burn_0 0 rfl) rfl ?_
  refine x_iload_n (E_X11_burn_0 1 rfl) rfl ?_
  refine z_callVi (E_X11_burn_0 2 rfl) ml_X11_348 mv_X11_there rfl (by decide) (by decide) (c_X11_there hw hL hD) (by decide) rfl rfl (Nat.le_of_ble_eq_true rfl) (fun z9 τ9 h9 => ?_)
  obtain ⟨rfl, rfl⟩ := h9
  refine x_aload_n (E_X11_burn_0 3 rfl) rfl ?_
  refine x_getR (E_X11_burn_0 4 rfl) fl_X11_49 rfl (by decide) rfl ?_
  refine x_iload_n (E_X11_burn_0 5 rfl) rfl ?_
  refine x_ialde (f := σ 128) (E_X11_burn_0 6 rfl) rfl (by decide) (by omega) rfl ?_
  refine x_icmp_ge (E_X11_burn_0 7 rfl) (by omega) (by omega) (fun c1 => ?_) (fun c1 => ?_)
  · refine x_aload_n (E_X11_burn_0 10 rfl) rfl ?_
    refine x_getR (E_X11_burn_0 11 rfl) fl_X11_123 rfl (by decide) rfl ?_
    refine x_iload_n (E_X11_burn_0 12 rfl) rfl ?_
    refine x_dup2 (E_X11_burn_0 13 rfl) ?_
    refine x_ialde (f := σ 151) (E_X11_burn_0 14 rfl) rfl (by decide) (by omega) rfl ?_
    refine x_aload_n (E_X11_burn_0 15 rfl) rfl ?_
    refine x_getR (E_X11_burn_0 16 rfl) fl_X11_49 rfl (by decide) rfl ?_
    refine x_iload_n (E_X11_burn_0 17 rfl) rfl ?_
    refine x_ialde (f := σ 128) (E_X11_burn_0 18 rfl) rfl (by decide) (by omega) rfl ?_
    refine x_iadd (E_X11_burn_0 19 rfl) ?_
    refine x_iast (E_X11_burn_0 20 rfl) rfl (by decide) (by omega) ?_
    refine x_iconst (E_X11_burn_0 21 rfl) ?_
    refine z_iret (E_X11_burn_0 22 rfl) (Or.inr rfl) ?_
    have ee : upq (SM n nl σ) 11 (dt 2 i) (σ 151 (dt 2 i) + σ 128 i) = efS dt hd n (SM n nl σ) i := by rw [efS_8 k, t11, f14]
    exact DoM.yes (by rw [okS_8 k]; exact decide_eq_true (by omega)) (by rw [← ee]; exact (MdM.rf hL).u11 hw) (fun _ _ => rfl) (Or.inl hz)
  · refine x_iconst (E_X11_burn_0 8 rfl) ?_
    refine z_iret (E_X11_burn_0 9 rfl) (Or.inl rfl) ?_
    exact DoM.no (by rw [okS_8 k]; exact decide_eq_false (by omega)) (MdM.rf hL) (fun _ _ => rfl) (Or.inl hz)
theorem c_X11_lend {i : Int} (hi : 0 ≤ i ∧ i < (n : Int)) (th : (SM n nl σ) 1 (dt 2 i) = 1) (k : dt 0 i = 3) (hL : LM dt hd n nl σ) (hD : DOk dt hd n nl) (hy : YOk n nl (dt 6) (SM n nl σ)) (hz : σ 131 i = 0) : CI l G M_X11_lend 0 [vr 114, vi i, vi (dt 2 i)] σ (DoM dt hd n nl i σ) := by
  obtain ⟨⟨e8, e9, e11, e12, e13, e14, e3⟩, ⟨e79, e15⟩, -⟩ := id hL
  obtain ⟨n120, nl12, hln, hck, hhd⟩ := id hD
  obtain ⟨l0, l1, l2, l3, l4, l5, l6, l7, l8, l9⟩ := hln i hi.1 hi.2
  unfold hasPq at l4
  have f8 := congrFun e8 i
  have f9 := congrFun e9 i
  have f11 := congrFun e11 i
  have f12 := congrFun e12 i
  have f13 := congrFun e13 i
  have f14 := congrFun e14 i
  have rd : (0 ≤ dt 2 i ∧ dt 2 i < (n : Int)) ∧ σ 142 (dt 2 i) = 1 ∧ (SM n nl σ) 3 (dt 2 i) = σ 143 (dt 2 i) ∧ (SM n nl σ) 4 (dt 2 i) = σ 144 (dt 2 i) ∧ (SM n nl σ) 5 (dt 2 i) = σ 145 (dt 2 i) ∧ (SM n nl σ) 6 (dt 2 i) = σ 146 (dt 2 i) ∧ (SM n nl σ) 7 (dt 2 i) = σ 147 (dt 2 i) ∧ (SM n nl σ) 8 (dt 2 i) = σ 148 (dt 2 i) ∧ (SM n nl σ) 9 (dt 2 i) = σ 149 (dt 2 i) := StG_rd th
  obtain ⟨d1, d2, d3, d4, d5, d6, d7, d8, d9⟩ := rd
  have yr := hy.2.1 _ th
  refine Ct.of rfl (Nat.le_of_ble_eq_true rfl) ?_
  refine x_aload_n (E_X11_lend_0 0 rfl) rfl ?_
  refine x_getR (E_X11_lend_0 1 rfl) fl_X11_111 rfl (by decide) rfl ?_
  refine x_iload_n (E_X11_lend_0 2 rfl) rfl ?_
  refine x_ialde (f := σ 147) (E_X11_lend_0 3 rfl) rfl (by decide) (by omega) rfl ?_
  refine x_if_ge (E_X11_lend_0 4 rfl) (by omega) (fun c1 => ?_) (fun c1 => ?_)
  · refine x_iconst (E_X11_lend_0 14 rfl) ?_
    refine z_iret (E_X11_lend_0 15 rfl) (Or.inl rfl) ?_
    exact DoM.no (by rw [okS_3 k th]; exact decide_eq_false (by omega)) (MdM.rf hL) (fun _ _ => rfl) (Or.inl hz)
  · refine x_aload_n (E_X11_lend_0 5 rfl) rfl ?_
    refine x_getR (E_X11_lend_0 6 rfl) fl_X11_105 rfl (by decide) rfl ?_
    refine x_iload_n (E_X11_lend_0 7 rfl) rfl ?_
    refine x_ialde (f := σ 145) (E_X11_lend_0 8 rfl) rfl (by decide) (by omega) rfl ?_
    refine x_aload_n (E_X11_lend_0 9 rfl) rfl ?_
    refine x_getR (E_X11_lend_0 10 rfl) fl_X11_108 rfl (by decide) rfl ?_
    refine x_iload_n (E_X11_lend_0 11 rfl) rfl ?_
    refine x_ialde (f := σ 146) (E_X11_lend_0 12 rfl) rfl (by decide) (by omega) rfl ?_
    refine x_icmp_eq (E_X11_lend_0 13 rfl) (by omega) (by omega) (fun c2 => ?_) (fun c2 => ?_)
    · refine x_aload_n (E_X11_lend_0 16 rfl) rfl ?_
      refine x_getR (E_X11_lend_0 17 rfl) fl_X11_111 rfl (by decide) rfl ?_
      refine x_iload_n (E_X11_lend_0 18 rfl) rfl ?_
      refine x_aload_n (E_X11_lend_0 19 rfl) rfl ?_
      refine x_getR (E_X11_lend_0 20 rfl) fl_X11_43 rfl (by decide) rfl ?_
      refine x_iload_n (E_X11_lend_0 21 rfl) rfl ?_
      refine x_ialde (f := σ 126) (E_X11_lend_0 22 rfl) rfl (by decide) (by omega) rfl ?_
      refine x_iast (E_X11_lend_0 23 rfl) rfl (by decide) (by omega) ?_
      refine x_aload_n (E_X11_lend_0 24 rfl) rfl ?_
      refine x_getR (E_X11_lend_0 25 rfl) fl_X11_114 rfl (by decide) rfl ?_
      refine x_iload_n (E_X11_lend_0 26 rfl) rfl ?_
      refine x_aload_n (E_X11_lend_0 27 rfl) rfl ?_
      refine x_getR (E_X11_lend_0 28 rfl) fl_X11_49 rfl (by decide) rfl ?_
      refine x_iload_n (E_X11_lend_0 29 rfl) rfl ?_
      refine x_ialde (f := σ 128) (E_X11_lend_0 30 rfl) rfl (by decide) (by omega) rfl ?_
      refine x_iast (E_X11_lend_0 31 rfl) rfl (by decide) (by omega) ?_
      refine x_iconst (E_X11_lend_0 32 rfl) ?_
      refine z_iret (E_X11_lend_0 33 rfl) (Or.inr rfl) ?_
      have ee : upq (upq (SM n nl σ) 7 (dt 2 i) (σ 126 i)) 8 (dt 2 i) (σ 128 i) = efS dt hd n (SM n nl σ) i := by rw [efS_3 k, f12, f14]
      exact DoM.yes (by rw [okS_3 k th]; exact decide_eq_true (by omega)) (by rw [← ee]; exact ((MdM.rf hL).u7 th).u8 th) (fun _ _ => rfl) (Or.inl hz)
    · refine x_iconst (E_X11_lend_0 14 rfl) ?_
      refine z_iret (E_X11_lend_0 15 rfl) (Or.inl rfl) ?_
      exact DoM.no (by rw [okS_3 k th]; exact decide_eq_false (by omega)) (MdM.rf hL) (fun _ _ => rfl) (Or.inl hz)
set_option maxHeartbeats 1000000 in
theorem c_X11_partFrom {i : Int} (hi : 0 ≤ i ∧ i < (n : Int)) (th : (SM n nl σ) 1 (dt 2 i) = 1) (k : dt 0 i = 2) (hL : LM dt hd n nl σ) (hD : DOk dt hd n nl) (hy : YOk n nl (dt 6) (SM n nl σ)) (hz : σ 131 i = 0) : CI l G M_X11_partFrom 1 [vr 114, vi i, vi (dt 2 i)] σ (DoM dt hd n nl i σ) := by
  obtain ⟨⟨e8, e9, e11, e12, e13, e14, e3⟩, ⟨e79, e15⟩, -⟩ := id hL
  obtain ⟨n120, nl12, hln, hck, hhd⟩ := id hD
  obtain ⟨l0, l1, l2, l3, l4, l5, l6, l7, l8, l9⟩ := hln i hi.1 hi.2
  unfold hasPq at l4
  have f8 := congrFun e8 i
  have f9 := congrFun e9 i
  have f11 := congrFun e11 i
  have f12 := congrFun e12 i
  have f13 := congrFun e13 i
  have f14 := congrFun e14 i
  have rd : (0 ≤ dt 2 i ∧ dt 2 i < (n : Int)) ∧ σ 142 (dt 2 i) = 1 ∧ (SM n nl σ) 3 (dt 2 i) = σ 143 (dt 2 i) ∧ (SM n nl σ) 4 (dt 2 i) = σ 144 (dt 2 i) ∧ (SM n nl σ) 5 (dt 2 i) = σ 145 (dt 2 i) ∧ (SM n nl σ) 6 (dt 2 i) = σ 146 (dt 2 i) ∧ (SM n nl σ) 7 (dt 2 i) = σ 147 (dt 2 i) ∧ (SM n nl σ) 8 (dt 2 i) = σ 148 (dt 2 i) ∧ (SM n nl σ) 9 (dt 2 i) = σ 149 (dt 2 i) := StG_rd th
  obtain ⟨d1, d2, d3, d4, d5, d6, d7, d8, d9⟩ := rd
  have yr := hy.2.1 _ th
  refine Ct.of rfl (Nat.le_of_ble_eq_true rfl) ?_
  refine x_aload_n (E_X11_partFrom_0 0 rfl) rfl ?_
  refine x_getR (E_X11_partFrom_0 1 rfl) fl_X11_102 rfl (by decide) rfl ?_
  refine x_iload_n (E_X11_partFrom_0 2 rfl) rfl ?_
  refine x_ialde (f := σ 144) (E_X11_partFrom_0 3 rfl) rfl (by decide) (by omega) rfl ?_
  refine x_aload_n (E_X11_partFrom_0 4 rfl) rfl ?_
  refine x_getR (E_X11_partFrom_0 5 rfl) fl_X11_49 rfl (by decide) rfl ?_
  refine x_iload_n (E_X11_partFrom_0 6 rfl) rfl ?_
  refine x_ialde (f := σ 128) (E_X11_partFrom_0 7 rfl) rfl (by decide) (by omega) rfl ?_
  refine x_icmp_le (E_X11_partFrom_0 8 rfl) (by omega) (by omega) (fun c1 => ?_) (fun c1 => ?_)
  · refine x_iconst (E_X11_partFrom_0 19 rfl) ?_
    refine z_iret (E_X11_partFrom_0 20 rfl) (Or.inl rfl) ?_
    exact DoM.no (by rw [okS_2 k th]; exact decide_eq_false (by omega)) (MdM.rf hL) (fun _ _ => rfl) (Or.inl hz)
  · refine x_aload_n (E_X11_partFrom_0 9 rfl) rfl ?_
    refine x_getR (E_X11_partFrom_0 10 rfl) fl_X11_111 rfl (by decide) rfl ?_
    refine x_iload_n (E_X11_partFrom_0 11 rfl) rfl ?_
    refine x_ialde (f := σ 147) (E_X11_partFrom_0 12 rfl) rfl (by decide) (by omega) rfl ?_
    refine x_if_ge (E_X11_partFrom_0 13 rfl) (by omega) (fun c2 => ?_) (fun c2 => ?_)
    · refine x_iconst (E_X11_partFrom_0 19 rfl) ?_
      refine z_iret (E_X11_partFrom_0 20 rfl) (Or.inl rfl) ?_
      exact DoM.no (by rw [okS_2 k th]; exact decide_eq_false (by omega)) (MdM.rf hL) (fun _ _ => rfl) (Or.inl hz)
    · refine x_aload_n (E_X11_partFrom_0 14 rfl) rfl ?_
      refine x_getR (E_X11_partFrom_0 15 rfl) fl_X11_117 rfl (by decide) rfl ?_
      refine x_iload_n (E_X11_partFrom_0 16 rfl) rfl ?_
      refine x_ialde (f := σ 149) (E_X11_partFrom_0 17 rfl) rfl (by decide) (by omega) rfl ?_
      refine x_if_lt (E_X11_partFrom_0 18 rfl) (by omega) (fun c3 => ?_) (fun c3 => ?_)
      · refine x_aload_n (E_X11_partFrom_0 21 rfl) rfl ?_
        refine x_getR (E_X11_partFrom_0 22 rfl) fl_X11_102 rfl (by decide) rfl ?_
        refine x_iload_n (E_X11_partFrom_0 23 rfl) rfl ?_
        refine x_dup2 (E_X11_partFrom_0 24 rfl) ?_
        refine x_ialde (f := σ 144) (E_X11_partFrom_0 25 rfl) rfl (by decide) (by omega) rfl ?_
        refine x_aload_n (E_X11_partFrom_0 26 rfl) rfl ?_
        refine x_getR (E_X11_partFrom_0 27 rfl) fl_X11_49 rfl (by decide) rfl ?_
        refine x_iload_n (E_X11_partFrom_0 28 rfl) rfl ?_
        refine x_ialde (f := σ 128) (E_X11_partFrom_0 29 rfl) rfl (by decide) (by omega) rfl ?_
        refine x_isub (E_X11_partFrom_0 30 rfl) ?_
        refine x_iast (E_X11_partFrom_0 31 rfl) rfl (by decide) (by omega) ?_
        refine x_aload_n (E_X11_partFrom_0 32 rfl) rfl ?_
        refine x_iload_n (E_X11_partFrom_0 33 rfl) rfl ?_
        refine x_aload_n (E_X11_partFrom_0 34 rfl) rfl ?_
        refine x_getR (E_X11_partFrom_0 35 rfl) fl_X11_99 rfl (by decide) rfl ?_
        refine x_iload_n (E_X11_partFrom_0 36 rfl) rfl ?_
        refine x_ialde (f := σ 143) (E_X11_partFrom_0 37 rfl) rfl (by decide) (by omega) rfl ?_
        refine x_aload_n (E_X11_partFrom_0 38 rfl) rfl ?_
        refine x_getR (E_X11_partFrom_0 39 rfl) fl_X11_49 rfl (by decide) rfl ?_
        refine x_iload_n (E_X11_partFrom_0 40 rfl) rfl ?_
        refine x_ialde (f := σ 128) (E_X11_partFrom_0 41 rfl) rfl (by decide) (by omega) rfl ?_
        refine x_aload_n (E_X11_partFrom_0 42 rfl) rfl ?_
        refine x_getR (E_X11_partFrom_0 43 rfl) fl_X11_105 rfl (by decide) rfl ?_
        refine x_iload_n (E_X11_partFrom_0 44 rfl) rfl ?_
        refine x_ialde (f := σ 145) (E_X11_partFrom_0 45 rfl) rfl (by decide) (by omega) rfl ?_
        refine x_aload_n (E_X11_partFrom_0 46 rfl) rfl ?_
        refine x_getR (E_X11_partFrom_0 47 rfl) fl_X11_108 rfl (by decide) rfl ?_
        refine x_iload_n (E_X11_partFrom_0 48 rfl) rfl ?_
        refine x_ialde (f := σ 146) (E_X11_partFrom_0 49 rfl) rfl (by decide) (by omega) rfl ?_
        refine z_callVv (E_X11_partFrom_0 50 rfl) ml_X11_344 mv_X11_lay rfl (by decide) (by decide) (c_X11_lay (by omega)) (by decide) rfl rfl (Nat.le_of_ble_eq_true rfl) (fun τ9 h9 => ?_)
        subst h9
        refine x_iconst (E_X11_partFrom_0 51 rfl) ?_
        refine z_iret (E_X11_partFrom_0 52 rfl) (Or.inr rfl) ?_
        have ee : mkS (upq (SM n nl σ) 4 (dt 2 i) (σ 144 (dt 2 i) - σ 128 i)) i (σ 143 (dt 2 i)) (σ 128 i) (σ 145 (dt 2 i)) (σ 146 (dt 2 i)) = efS dt hd n (SM n nl σ) i := by rw [efS_2 k, d3, d4, d5, d6, f14]
        exact DoM.yes (by rw [okS_2 k th]; exact decide_eq_true (by omega)) (by rw [← ee]; exact ((MdM.rf hL).u4 th).mk hi) (fun _ _ => rfl) (Or.inl hz)
      · refine x_iconst (E_X11_partFrom_0 19 rfl) ?_
        refine z_iret (E_X11_partFrom_0 20 rfl) (Or.inl rfl) ?_
        exact DoM.no (by rw [okS_2 k th]; exact decide_eq_false (by omega)) (MdM.rf hL) (fun _ _ => rfl) (Or.inl hz)
set_option maxHeartbeats 1000000 in
theorem c_X11_handOut {i : Int} (hi : 0 ≤ i ∧ i < (n : Int)) (th : (SM n nl σ) 1 (dt 2 i) = 1) (k : dt 0 i = 7) (hL : LM dt hd n nl σ) (hD : DOk dt hd n nl) (hy : YOk n nl (dt 6) (SM n nl σ)) (hz : σ 131 i = 0) : CI l G M_X11_handOut 1 [vr 114, vi i, vi (dt 2 i)] σ (DoM dt hd n nl i σ) := by
  obtain ⟨⟨e8, e9, e11, e12, e13, e14, e3⟩, ⟨e79, e15⟩, -⟩ := id hL
  obtain ⟨n120, nl12, hln, hck, hhd⟩ := id hD
  obtain ⟨l0, l1, l2, l3, l4, l5, l6, l7, l8, l9⟩ := hln i hi.1 hi.2
  unfold hasPq at l4
  have f8 := congrFun e8 i
  have f9 := congrFun e9 i
  have f11 := congrFun e11 i
  have f12 := congrFun e12 i
  have f13 := congrFun e13 i
  have f14 := congrFun e14 i
  have rd : (0 ≤ dt 2 i ∧ dt 2 i < (n : Int)) ∧ σ 142 (dt 2 i) = 1 ∧ (SM n nl σ) 3 (dt 2 i) = σ 143 (dt 2 i) ∧ (SM n nl σ) 4 (dt 2 i) = σ 144 (dt 2 i) ∧ (SM n nl σ) 5 (dt 2 i) = σ 145 (dt 2 i) ∧ (SM n nl σ) 6 (dt 2 i) = σ 146 (dt 2 i) ∧ (SM n nl σ) 7 (dt 2 i) = σ 147 (dt 2 i) ∧ (SM n nl σ) 8 (dt 2 i) = σ 148 (dt 2 i) ∧ (SM n nl σ) 9 (dt 2 i) = σ 149 (dt 2 i) := StG_rd th
  obtain ⟨d1, d2, d3, d4, d5, d6, d7, d8, d9⟩ := rd
  have yr := hy.2.1 _ th
  have hw : 0 ≤ σ 143 (dt 2 i) ∧ σ 143 (dt 2 i) < nl := by omega
  have o4 := thM_rg hw hD hy
  have t10 : (SM n nl σ) 10 (σ 143 (dt 2 i)) = σ 150 (σ 143 (dt 2 i)) := StG_10 hw
  refine Ct.of rfl (Nat.le_of_ble_eq_true rfl) ?_
  refine x_aload_n (E_X11_handOut_0 0 rfl) rfl ?_
  refine x_getR (E_X11_handOut_0 1 rfl) fl_X11_99 rfl (by decide) rfl ?_
  refine x_iload_n (E_X11_handOut_0 2 rfl) rfl ?_
  refine x_ialde (f := σ 143) (E_X11_handOut_0 3 rfl) rfl (by decide) (by omega) rfl ?_
  refine x_istore_n (E_X11_handOut_0 4 rfl) rfl ?_
  refine x_aload_n (E_X11_handOut_0 5 rfl) rfl ?_
  refine x_getR (E_X11_handOut_0 6 rfl) fl_X11_102 rfl (by decide) rfl ?_
  refine x_iload_n (E_X11_handOut_0 7 rfl) rfl ?_
  refine x_ialde (f := σ 144) (E_X11_handOut_0 8 rfl) rfl (by decide) (by omega) rfl ?_
  refine x_aload_n (E_X11_handOut_0 9 rfl) rfl ?_
  refine x_getR (E_X11_handOut_0 10 rfl) fl_X11_49 rfl (by decide) rfl ?_
  refine x_iload_n (E_X11_handOut_0 11 rfl) rfl ?_
  refine x_ialde (f := σ 128) (E_X11_handOut_0 12 rfl) rfl (by decide) (by omega) rfl ?_
  refine x_icmp_lt (E_X11_handOut_0 13 rfl) (by omega) (by omega) (fun c1 => ?_) (fun c1 => ?_)
  · refine x_iconst (E_X11_handOut_0 32 rfl) ?_
    refine z_iret (E_X11_handOut_0 33 rfl) (Or.inl rfl) ?_
    exact DoM.no (by rw [okS_7 k th, d3]; exact decide_eq_false (by omega)) (MdM.rf hL) (fun _ _ => rfl) (Or.inl hz)
  · refine x_aload_n (E_X11_handOut_0 14 rfl) rfl ?_
    refine x_iload_n (E_X11_handOut_0 15 rfl) rfl ?_
    refine z_callVi (E_X11_handOut_0 16 rfl) ml_X11_348 mv_X11_there rfl (by decide) (by decide) (c_X11_there hw hL hD) (by decide) rfl rfl (Nat.le_of_ble_eq_true rfl) (fun z9 τ9 h9 => ?_)
    obtain ⟨rfl, rfl⟩ := h9
    refine x_aload_n (E_X11_handOut_0 17 rfl) rfl ?_
    refine x_getR (E_X11_handOut_0 18 rfl) fl_X11_49 rfl (by decide) rfl ?_
    refine x_iload_n (E_X11_handOut_0 19 rfl) rfl ?_
    refine x_ialde (f := σ 128) (E_X11_handOut_0 20 rfl) rfl (by decide) (by omega) rfl ?_
    refine x_icmp_lt (E_X11_handOut_0 21 rfl) (by omega) (by omega) (fun c2 => ?_) (fun c2 => ?_)
    · refine x_iconst (E_X11_handOut_0 32 rfl) ?_
      refine z_iret (E_X11_handOut_0 33 rfl) (Or.inl rfl) ?_
      exact DoM.no (by rw [okS_7 k th, d3]; exact decide_eq_false (by omega)) (MdM.rf hL) (fun _ _ => rfl) (Or.inl hz)
    · refine x_aload_n (E_X11_handOut_0 22 rfl) rfl ?_
      refine x_getR (E_X11_handOut_0 23 rfl) fl_X11_111 rfl (by decide) rfl ?_
      refine x_iload_n (E_X11_handOut_0 24 rfl) rfl ?_
      refine x_ialde (f := σ 147) (E_X11_handOut_0 25 rfl) rfl (by decide) (by omega) rfl ?_
      refine x_if_ge (E_X11_handOut_0 26 rfl) (by omega) (fun c3 => ?_) (fun c3 => ?_)
      · refine x_iconst (E_X11_handOut_0 32 rfl) ?_
        refine z_iret (E_X11_handOut_0 33 rfl) (Or.inl rfl) ?_
        exact DoM.no (by rw [okS_7 k th, d3]; exact decide_eq_false (by omega)) (MdM.rf hL) (fun _ _ => rfl) (Or.inl hz)
      · refine x_aload_n (E_X11_handOut_0 27 rfl) rfl ?_
        refine x_getR (E_X11_handOut_0 28 rfl) fl_X11_117 rfl (by decide) rfl ?_
        refine x_iload_n (E_X11_handOut_0 29 rfl) rfl ?_
        refine x_ialde (f := σ 149) (E_X11_handOut_0 30 rfl) rfl (by decide) (by omega) rfl ?_
        refine x_if_lt (E_X11_handOut_0 31 rfl) (by omega) (fun c4 => ?_) (fun c4 => ?_)
        · refine x_aload_n (E_X11_handOut_0 34 rfl) rfl ?_
          refine x_getR (E_X11_handOut_0 35 rfl) fl_X11_102 rfl (by decide) rfl ?_
          refine x_iload_n (E_X11_handOut_0 36 rfl) rfl ?_
          refine x_dup2 (E_X11_handOut_0 37 rfl) ?_
          refine x_ialde (f := σ 144) (E_X11_handOut_0 38 rfl) rfl (by decide) (by omega) rfl ?_
          refine x_aload_n (E_X11_handOut_0 39 rfl) rfl ?_
          refine x_getR (E_X11_handOut_0 40 rfl) fl_X11_49 rfl (by decide) rfl ?_
          refine x_iload_n (E_X11_handOut_0 41 rfl) rfl ?_
          refine x_ialde (f := σ 128) (E_X11_handOut_0 42 rfl) rfl (by decide) (by omega) rfl ?_
          refine x_isub (E_X11_handOut_0 43 rfl) ?_
          refine x_iast (E_X11_handOut_0 44 rfl) rfl (by decide) (by omega) ?_
          refine x_aload_n (E_X11_handOut_0 45 rfl) rfl ?_
          refine x_getR (E_X11_handOut_0 46 rfl) fl_X11_120 rfl (by decide) rfl ?_
          refine x_iload_n (E_X11_handOut_0 47 rfl) rfl ?_
          refine x_dup2 (E_X11_handOut_0 48 rfl) ?_
          refine x_ialde (f := σ 150) (E_X11_handOut_0 49 rfl) rfl (by decide) (by omega) rfl ?_
          refine x_aload_n (E_X11_handOut_0 50 rfl) rfl ?_
          refine x_getR (E_X11_handOut_0 51 rfl) fl_X11_49 rfl (by decide) rfl ?_
          refine x_iload_n (E_X11_handOut_0 52 rfl) rfl ?_
          refine x_ialde (f := σ 128) (E_X11_handOut_0 53 rfl) rfl (by decide) (by omega) rfl ?_
          refine x_iadd (E_X11_handOut_0 54 rfl) ?_
          refine x_iast (E_X11_handOut_0 55 rfl) rfl (by decide) (by omega) ?_
          refine x_iconst (E_X11_handOut_0 56 rfl) ?_
          refine z_iret (E_X11_handOut_0 57 rfl) (Or.inr rfl) ?_
          have ee : upq (upq (SM n nl σ) 4 (dt 2 i) (σ 144 (dt 2 i) - σ 128 i)) 10 (σ 143 (dt 2 i)) (σ 150 (σ 143 (dt 2 i)) + σ 128 i) = efS dt hd n (SM n nl σ) i := by rw [efS_7 k, d3, d4, f14, t10]
          exact DoM.yes (by rw [okS_7 k th, d3]; exact decide_eq_true (by omega)) (by rw [← ee]; exact ((MdM.rf hL).u4 th).u10 hw) (fun _ _ => rfl) (Or.inl hz)
        · refine x_iconst (E_X11_handOut_0 32 rfl) ?_
          refine z_iret (E_X11_handOut_0 33 rfl) (Or.inl rfl) ?_
          exact DoM.no (by rw [okS_7 k th, d3]; exact decide_eq_false (by omega)) (MdM.rf hL) (fun _ _ => rfl) (Or.inl hz)
set_option maxHeartbeats 1000000 in
theorem c_X11_change {i : Int} (hi : 0 ≤ i ∧ i < (n : Int)) (th : (SM n nl σ) 1 (dt 2 i) = 1) (k : dt 0 i = 4 ∨ dt 0 i = 5 ∨ dt 0 i = 6 ∨ dt 0 i = 9) (hL : LM dt hd n nl σ) (hD : DOk dt hd n nl) (hy : YOk n nl (dt 6) (SM n nl σ)) (hz : σ 131 i = 0) : CI l G M_X11_change 0 [vr 114, vi i, vi (dt 2 i)] σ (DoM dt hd n nl i σ) := by
  obtain ⟨⟨e8, e9, e11, e12, e13, e14, e3⟩, ⟨e79, e15⟩, -⟩ := id hL
  obtain ⟨n120, nl12, hln, hck, hhd⟩ := id hD
  obtain ⟨l0, l1, l2, l3, l4, l5, l6, l7, l8, l9⟩ := hln i hi.1 hi.2
  unfold hasPq at l4
  have f8 := congrFun e8 i
  have f9 := congrFun e9 i
  have f11 := congrFun e11 i
  have f12 := congrFun e12 i
  have f13 := congrFun e13 i
  have f14 := congrFun e14 i
  have rd : (0 ≤ dt 2 i ∧ dt 2 i < (n : Int)) ∧ σ 142 (dt 2 i) = 1 ∧ (SM n nl σ) 3 (dt 2 i) = σ 143 (dt 2 i) ∧ (SM n nl σ) 4 (dt 2 i) = σ 144 (dt 2 i) ∧ (SM n nl σ) 5 (dt 2 i) = σ 145 (dt 2 i) ∧ (SM n nl σ) 6 (dt 2 i) = σ 146 (dt 2 i) ∧ (SM n nl σ) 7 (dt 2 i) = σ 147 (dt 2 i) ∧ (SM n nl σ) 8 (dt 2 i) = σ 148 (dt 2 i) ∧ (SM n nl σ) 9 (dt 2 i) = σ 149 (dt 2 i) := StG_rd th
  obtain ⟨d1, d2, d3, d4, d5, d6, d7, d8, d9⟩ := rd
  have yr := hy.2.1 _ th
  refine Ct.of rfl (Nat.le_of_ble_eq_true rfl) ?_
  refine x_aload_n (E_X11_change_0 0 rfl) rfl ?_
  refine x_getR (E_X11_change_0 1 rfl) fl_X11_31 rfl (by decide) rfl ?_
  refine x_iload_n (E_X11_change_0 2 rfl) rfl ?_
  refine x_ialde (f := σ 122) (E_X11_change_0 3 rfl) rfl (by decide) (by omega) rfl ?_
  by_cases w4 : σ 122 i = 4
  · rw [w4]
    refine x_tsw (t := 32) (E_X11_change_0 4 rfl) (by decide) (by decide) (by decide) ?_
    refine x_aload_n (E_X11_change_0 5 rfl) rfl ?_
    refine x_getR (E_X11_change_0 6 rfl) fl_X11_111 rfl (by decide) rfl ?_
    refine x_iload_n (E_X11_change_0 7 rfl) rfl ?_
    refine x_ialde (f := σ 147) (E_X11_change_0 8 rfl) rfl (by decide) (by omega) rfl ?_
    refine x_if_ge (E_X11_change_0 9 rfl) (by omega) (fun c1 => ?_) (fun c1 => ?_)
    · refine x_aload_n (E_X11_change_0 12 rfl) rfl ?_
      refine x_getR (E_X11_change_0 13 rfl) fl_X11_111 rfl (by decide) rfl ?_
      refine x_iload_n (E_X11_change_0 14 rfl) rfl ?_
      refine x_iconst (E_X11_change_0 15 rfl) ?_
      refine x_iast (E_X11_change_0 16 rfl) rfl (by decide) (by omega) ?_
      refine x_aload_n (E_X11_change_0 17 rfl) rfl ?_
      refine x_getR (E_X11_change_0 18 rfl) fl_X11_114 rfl (by decide) rfl ?_
      refine x_iload_n (E_X11_change_0 19 rfl) rfl ?_
      refine x_iconst (E_X11_change_0 20 rfl) ?_
      refine x_iast (E_X11_change_0 21 rfl) rfl (by decide) (by omega) ?_
      refine x_iconst (E_X11_change_0 22 rfl) ?_
      refine z_iret (E_X11_change_0 23 rfl) (Or.inr rfl) ?_
      have k : dt 0 i = 4 := by omega
      have ee : upq (upq (SM n nl σ) 7 (dt 2 i) (-1)) 8 (dt 2 i) 0 = efS dt hd n (SM n nl σ) i := by rw [efS_4 k]
      exact DoM.yes (by rw [okS_4 k th]; exact decide_eq_true (by omega)) (by rw [← ee]; exact ((MdM.rf hL).u7 th).u8 th) (fun _ _ => rfl) (Or.inl hz)
    · refine x_iconst (E_X11_change_0 10 rfl) ?_
      refine z_iret (E_X11_change_0 11 rfl) (Or.inl rfl) ?_
      have k : dt 0 i = 4 := by omega
      exact DoM.no (by rw [okS_4 k th]; exact decide_eq_false (by omega)) (MdM.rf hL) (fun _ _ => rfl) (Or.inl hz)
  by_cases w5 : σ 122 i = 5
  · rw [w5]
    refine x_tsw (t := 59) (E_X11_change_0 4 rfl) (by decide) (by decide) (by decide) ?_
    refine x_aload_n (E_X11_change_0 24 rfl) rfl ?_
    refine x_getR (E_X11_change_0 25 rfl) fl_X11_117 rfl (by decide) rfl ?_
    refine x_iload_n (E_X11_change_0 26 rfl) rfl ?_
    refine x_ialde (f := σ 149) (E_X11_change_0 27 rfl) rfl (by decide) (by omega) rfl ?_
    refine x_if_lt (E_X11_change_0 28 rfl) (by omega) (fun c2 => ?_) (fun c2 => ?_)
    · refine x_aload_n (E_X11_change_0 31 rfl) rfl ?_
      refine x_getR (E_X11_change_0 32 rfl) fl_X11_117 rfl (by decide) rfl ?_
      refine x_iload_n (E_X11_change_0 33 rfl) rfl ?_
      refine x_aload_n (E_X11_change_0 34 rfl) rfl ?_
      refine x_getR (E_X11_change_0 35 rfl) fl_X11_43 rfl (by decide) rfl ?_
      refine x_iload_n (E_X11_change_0 36 rfl) rfl ?_
      refine x_ialde (f := σ 126) (E_X11_change_0 37 rfl) rfl (by decide) (by omega) rfl ?_
      refine x_iast (E_X11_change_0 38 rfl) rfl (by decide) (by omega) ?_
      refine x_iconst (E_X11_change_0 39 rfl) ?_
      refine z_iret (E_X11_change_0 40 rfl) (Or.inr rfl) ?_
      have k : dt 0 i = 5 := by omega
      have ee : upq (SM n nl σ) 9 (dt 2 i) (σ 126 i) = efS dt hd n (SM n nl σ) i := by rw [efS_5 k, f12]
      exact DoM.yes (by rw [okS_5 k th]; exact decide_eq_true (by omega)) (by rw [← ee]; exact (MdM.rf hL).u9 th) (fun _ _ => rfl) (Or.inl hz)
    · refine x_iconst (E_X11_change_0 29 rfl) ?_
      refine z_iret (E_X11_change_0 30 rfl) (Or.inl rfl) ?_
      have k : dt 0 i = 5 := by omega
      exact DoM.no (by rw [okS_5 k th]; exact decide_eq_false (by omega)) (MdM.rf hL) (fun _ _ => rfl) (Or.inl hz)
  by_cases w6 : σ 122 i = 6
  · rw [w6]
    refine x_tsw (t := 84) (E_X11_change_0 4 rfl) (by decide) (by decide) (by decide) ?_
    refine x_aload_n (E_X11_change_0 41 rfl) rfl ?_
    refine x_getR (E_X11_change_0 42 rfl) fl_X11_117 rfl (by decide) rfl ?_
    refine x_iload_n (E_X11_change_0 43 rfl) rfl ?_
    refine x_ialde (f := σ 149) (E_X11_change_0 44 rfl) rfl (by decide) (by omega) rfl ?_
    refine x_if_ge (E_X11_change_0 45 rfl) (by omega) (fun c3 => ?_) (fun c3 => ?_)
    · refine x_aload_n (E_X11_change_0 48 rfl) rfl ?_
      refine x_getR (E_X11_change_0 49 rfl) fl_X11_117 rfl (by decide) rfl ?_
      refine x_iload_n (E_X11_change_0 50 rfl) rfl ?_
      refine x_iconst (E_X11_change_0 51 rfl) ?_
      refine x_iast (E_X11_change_0 52 rfl) rfl (by decide) (by omega) ?_
      refine x_iconst (E_X11_change_0 53 rfl) ?_
      refine z_iret (E_X11_change_0 54 rfl) (Or.inr rfl) ?_
      have k : dt 0 i = 6 := by omega
      have ee : upq (SM n nl σ) 9 (dt 2 i) (-1) = efS dt hd n (SM n nl σ) i := by rw [efS_6 k]
      exact DoM.yes (by rw [okS_6 k th]; exact decide_eq_true (by omega)) (by rw [← ee]; exact (MdM.rf hL).u9 th) (fun _ _ => rfl) (Or.inl hz)
    · refine x_iconst (E_X11_change_0 46 rfl) ?_
      refine z_iret (E_X11_change_0 47 rfl) (Or.inl rfl) ?_
      have k : dt 0 i = 6 := by omega
      exact DoM.no (by rw [okS_6 k th]; exact decide_eq_false (by omega)) (MdM.rf hL) (fun _ _ => rfl) (Or.inl hz)
  refine x_tswD (t := 104) (E_X11_change_0 4 rfl) (by omega) (by omega) (by decide) ?_
  refine x_aload_n (E_X11_change_0 55 rfl) rfl ?_
  refine x_getR (E_X11_change_0 56 rfl) fl_X11_105 rfl (by decide) rfl ?_
  refine x_iload_n (E_X11_change_0 57 rfl) rfl ?_
  refine x_ialde (f := σ 145) (E_X11_change_0 58 rfl) rfl (by decide) (by omega) rfl ?_
  refine x_aload_n (E_X11_change_0 59 rfl) rfl ?_
  refine x_getR (E_X11_change_1 0 rfl) fl_X11_43 rfl (by decide) rfl ?_
  refine x_iload_n (E_X11_change_1 1 rfl) rfl ?_
  refine x_ialde (f := σ 126) (E_X11_change_1 2 rfl) rfl (by decide) (by omega) rfl ?_
  refine x_icmp_ne (E_X11_change_1 3 rfl) (by omega) (by omega) (fun c4 => ?_) (fun c4 => ?_)
  · refine x_aload_n (E_X11_change_1 6 rfl) rfl ?_
    refine x_getR (E_X11_change_1 7 rfl) fl_X11_105 rfl (by decide) rfl ?_
    refine x_iload_n (E_X11_change_1 8 rfl) rfl ?_
    refine x_aload_n (E_X11_change_1 9 rfl) rfl ?_
    refine x_getR (E_X11_change_1 10 rfl) fl_X11_43 rfl (by decide) rfl ?_
    refine x_iload_n (E_X11_change_1 11 rfl) rfl ?_
    refine x_ialde (f := σ 126) (E_X11_change_1 12 rfl) rfl (by decide) (by omega) rfl ?_
    refine x_iast (E_X11_change_1 13 rfl) rfl (by decide) (by omega) ?_
    refine x_iconst (E_X11_change_1 14 rfl) ?_
    refine z_iret (E_X11_change_1 15 rfl) (Or.inr rfl) ?_
    have k : dt 0 i = 9 := by omega
    have ee : upq (SM n nl σ) 5 (dt 2 i) (σ 126 i) = efS dt hd n (SM n nl σ) i := by rw [efS_9 k, f12]
    exact DoM.yes (by rw [okS_9 k th]; exact decide_eq_true (by omega)) (by rw [← ee]; exact (MdM.rf hL).u5 th) (fun _ _ => rfl) (Or.inl hz)
  · refine x_iconst (E_X11_change_1 4 rfl) ?_
    refine z_iret (E_X11_change_1 5 rfl) (Or.inl rfl) ?_
    have k : dt 0 i = 9 := by omega
    exact DoM.no (by rw [okS_9 k th]; exact decide_eq_false (by omega)) (MdM.rf hL) (fun _ _ => rfl) (Or.inl hz)
set_option maxHeartbeats 1000000 in
theorem c_X11_pass {i : Int} (hi : 0 ≤ i ∧ i < (n : Int)) (th : (SM n nl σ) 1 (dt 2 i) = 1) (k : dt 0 i = 1) (t1 : σ 141 1 = hd (dt 1 i) 1) (t2 : σ 141 2 = hd (dt 1 i) 2) (hL : LM dt hd n nl σ) (hD : DOk dt hd n nl) (hy : YOk n nl (dt 6) (SM n nl σ)) (hz : σ 131 i = 0) : CI l G M_X11_pass 0 [vr 114, vi i, vi (dt 2 i)] σ (DoM dt hd n nl i σ) := by
  obtain ⟨⟨e8, e9, e11, e12, e13, e14, e3⟩, ⟨e79, e15⟩, -⟩ := id hL
  obtain ⟨n120, nl12, hln, hck, hhd⟩ := id hD
  obtain ⟨l0, l1, l2, l3, l4, l5, l6, l7, l8, l9⟩ := hln i hi.1 hi.2
  unfold hasPq at l4
  have f8 := congrFun e8 i
  have f9 := congrFun e9 i
  have f11 := congrFun e11 i
  have f12 := congrFun e12 i
  have f13 := congrFun e13 i
  have f14 := congrFun e14 i
  have rd : (0 ≤ dt 2 i ∧ dt 2 i < (n : Int)) ∧ σ 142 (dt 2 i) = 1 ∧ (SM n nl σ) 3 (dt 2 i) = σ 143 (dt 2 i) ∧ (SM n nl σ) 4 (dt 2 i) = σ 144 (dt 2 i) ∧ (SM n nl σ) 5 (dt 2 i) = σ 145 (dt 2 i) ∧ (SM n nl σ) 6 (dt 2 i) = σ 146 (dt 2 i) ∧ (SM n nl σ) 7 (dt 2 i) = σ 147 (dt 2 i) ∧ (SM n nl σ) 8 (dt 2 i) = σ 148 (dt 2 i) ∧ (SM n nl σ) 9 (dt 2 i) = σ 149 (dt 2 i) := StG_rd th
  obtain ⟨d1, d2, d3, d4, d5, d6, d7, d8, d9⟩ := rd
  have yr := hy.2.1 _ th
  have h1 := hhd (dt 1 i) 1 (by decide) (by decide)
  have h2 := hhd (dt 1 i) 2 (by decide) (by decide)
  refine Ct.of rfl (Nat.le_of_ble_eq_true rfl) ?_
  have fin : ∀ (pd hadv : Int), okS dt hd (SM n nl σ) i = true → (pd = 0 ∨ pd = 1) → (pd = 1 ↔ dt 5 i = 1) → (hadv = 0 ∨ hadv = 1) → (hadv = 1 ↔ (SM n nl σ) 6 (dt 2 i) = dt 4 i) → XI l G M_X11_pass 0 74 [some (vr 114), some (vi i), some (vi (dt 2 i)), some (vi hadv), some (vi pd)] [] σ (DoM dt hd n nl i σ) := by
    intro pd hadv ok p01 pdi a01 hai
    have ef : ∀ tv sv, tv = (if (SM n nl σ) 6 (dt 2 i) = dt 4 i ∨ (dt 5 i = 1 ∧ hd (dt 1 i) 1 = 1) then dt 3 i else (SM n nl σ) 6 (dt 2 i)) → sv = (if dt 5 i = 1 then -1 else (SM n nl σ) 9 (dt 2 i)) → upq (upq (upq (SM n nl σ) 5 (dt 2 i) (σ 126 i)) 6 (dt 2 i) tv) 9 (dt 2 i) sv = efS dt hd n (SM n nl σ) i := fun tv sv h1 h2 => by
      rw [efS_1 k, h1, h2, f12, upq_comm (k := 5) (k' := 6) (by decide)]
    refine x_aload_n (E_X11_pass_0 45 rfl) rfl ?_
    refine x_getR (E_X11_pass_0 46 rfl) fl_X11_105 rfl (by decide) rfl ?_
    refine x_iload_n (E_X11_pass_0 47 rfl) rfl ?_
    refine x_aload_n (E_X11_pass_0 48 rfl) rfl ?_
    refine x_getR (E_X11_pass_0 49 rfl) fl_X11_43 rfl (by decide) rfl ?_
    refine x_iload_n (E_X11_pass_0 50 rfl) rfl ?_
    refine x_ialde (f := σ 126) (E_X11_pass_0 51 rfl) rfl (by decide) (by omega) rfl ?_
    refine x_iast (E_X11_pass_0 52 rfl) rfl (by decide) (by omega) ?_
    refine x_aload_n (E_X11_pass_0 53 rfl) rfl ?_
    refine x_getR (E_X11_pass_0 54 rfl) fl_X11_108 rfl (by decide) rfl ?_
    refine x_iload_n (E_X11_pass_0 55 rfl) rfl ?_
    refine x_iload_n (E_X11_pass_0 56 rfl) rfl ?_
    refine x_if_ne (E_X11_pass_0 57 rfl) (by omega) (fun c1 => ?_) (fun c1 => ?_)
    · refine x_aload_n (E_X11_pass_1 6 rfl) rfl ?_
      refine x_getR (E_X11_pass_1 7 rfl) fl_X11_43 rfl (by decide) rfl ?_
      refine x_iload_n (E_X11_pass_1 8 rfl) rfl ?_
      refine x_ialde (f := σ 126) (E_X11_pass_1 9 rfl) rfl (by decide) (by omega) rfl ?_
      refine x_goto (E_X11_pass_1 10 rfl) ?_
      refine x_iast (E_X11_pass_1 15 rfl) rfl (by decide) (by omega) ?_
      refine x_aload_n (E_X11_pass_1 16 rfl) rfl ?_
      refine x_getR (E_X11_pass_1 17 rfl) fl_X11_117 rfl (by decide) rfl ?_
      refine x_iload_n (E_X11_pass_1 18 rfl) rfl ?_
      refine x_iload (E_X11_pass_1 19 rfl) rfl ?_
      refine x_if_eq (E_X11_pass_1 20 rfl) (by omega) (fun c2 => ?_) (fun c2 => ?_)
      · refine x_aload_n (E_X11_pass_1 23 rfl) rfl ?_
        refine x_getR (E_X11_pass_1 24 rfl) fl_X11_117 rfl (by decide) rfl ?_
        refine x_iload_n (E_X11_pass_1 25 rfl) rfl ?_
        refine x_ialde (f := σ 149) (E_X11_pass_1 26 rfl) rfl (by decide) (by omega) rfl ?_
        refine x_iast (E_X11_pass_1 27 rfl) rfl (by decide) (by omega) ?_
        refine x_iconst (E_X11_pass_1 28 rfl) ?_
        refine z_iret (E_X11_pass_1 29 rfl) (Or.inr rfl) ?_
        have eft := ef _ _ (f12.trans (if_pos (by omega)).symm) (d9.symm.trans (if_neg (by omega)).symm)
        exact DoM.yes ok (by rw [← eft]; exact (((MdM.rf hL).u5 th).u6 th).u9 th) (fun _ _ => rfl) (Or.inl hz)
      · refine x_iconst (E_X11_pass_1 21 rfl) ?_
        refine x_goto (E_X11_pass_1 22 rfl) ?_
        refine x_iast (E_X11_pass_1 27 rfl) rfl (by decide) (by omega) ?_
        refine x_iconst (E_X11_pass_1 28 rfl) ?_
        refine z_iret (E_X11_pass_1 29 rfl) (Or.inr rfl) ?_
        have eft := ef _ _ (f12.trans (if_pos (by omega)).symm) ((if_pos (by omega)).symm)
        exact DoM.yes ok (by rw [← eft]; exact (((MdM.rf hL).u5 th).u6 th).u9 th) (fun _ _ => rfl) (Or.inl hz)
    · refine x_iload (E_X11_pass_0 58 rfl) rfl ?_
      refine x_if_eq (E_X11_pass_0 59 rfl) (by omega) (fun c3 => ?_) (fun c3 => ?_)
      · refine x_aload_n (E_X11_pass_1 11 rfl) rfl ?_
        refine x_getR (E_X11_pass_1 12 rfl) fl_X11_108 rfl (by decide) rfl ?_
        refine x_iload_n (E_X11_pass_1 13 rfl) rfl ?_
        refine x_ialde (f := σ 146) (E_X11_pass_1 14 rfl) rfl (by decide) (by omega) rfl ?_
        refine x_iast (E_X11_pass_1 15 rfl) rfl (by decide) (by omega) ?_
        refine x_aload_n (E_X11_pass_1 16 rfl) rfl ?_
        refine x_getR (E_X11_pass_1 17 rfl) fl_X11_117 rfl (by decide) rfl ?_
        refine x_iload_n (E_X11_pass_1 18 rfl) rfl ?_
        refine x_iload (E_X11_pass_1 19 rfl) rfl ?_
        refine x_if_eq (E_X11_pass_1 20 rfl) (by omega) (fun c4 => ?_) (fun c4 => ?_)
        · refine x_aload_n (E_X11_pass_1 23 rfl) rfl ?_
          refine x_getR (E_X11_pass_1 24 rfl) fl_X11_117 rfl (by decide) rfl ?_
          refine x_iload_n (E_X11_pass_1 25 rfl) rfl ?_
          refine x_ialde (f := σ 149) (E_X11_pass_1 26 rfl) rfl (by decide) (by omega) rfl ?_
          refine x_iast (E_X11_pass_1 27 rfl) rfl (by decide) (by omega) ?_
          refine x_iconst (E_X11_pass_1 28 rfl) ?_
          refine z_iret (E_X11_pass_1 29 rfl) (Or.inr rfl) ?_
          have eft := ef _ _ (d6.symm.trans (if_neg (by omega)).symm) (d9.symm.trans (if_neg (by omega)).symm)
          exact DoM.yes ok (by rw [← eft]; exact (((MdM.rf hL).u5 th).u6 th).u9 th) (fun _ _ => rfl) (Or.inl hz)
        · refine x_iconst (E_X11_pass_1 21 rfl) ?_
          refine x_goto (E_X11_pass_1 22 rfl) ?_
          refine x_iast (E_X11_pass_1 27 rfl) rfl (by decide) (by omega) ?_
          refine x_iconst (E_X11_pass_1 28 rfl) ?_
          refine z_iret (E_X11_pass_1 29 rfl) (Or.inr rfl) ?_
          exfalso; omega
      · refine x_aload_n (E_X11_pass_1 0 rfl) rfl ?_
        refine x_getR (E_X11_pass_1 1 rfl) fl_X11_93 rfl (by decide) rfl ?_
        refine x_iconst (E_X11_pass_1 2 rfl) ?_
        refine x_ialde (f := σ 141) (E_X11_pass_1 3 rfl) rfl (by decide) (by omega) rfl ?_
        refine x_iconst (E_X11_pass_1 4 rfl) ?_
        refine x_icmp_ne (E_X11_pass_1 5 rfl) (by omega) (by decide) (fun c5 => ?_) (fun c5 => ?_)
        · refine x_aload_n (E_X11_pass_1 11 rfl) rfl ?_
          refine x_getR (E_X11_pass_1 12 rfl) fl_X11_108 rfl (by decide) rfl ?_
          refine x_iload_n (E_X11_pass_1 13 rfl) rfl ?_
          refine x_ialde (f := σ 146) (E_X11_pass_1 14 rfl) rfl (by decide) (by omega) rfl ?_
          refine x_iast (E_X11_pass_1 15 rfl) rfl (by decide) (by omega) ?_
          refine x_aload_n (E_X11_pass_1 16 rfl) rfl ?_
          refine x_getR (E_X11_pass_1 17 rfl) fl_X11_117 rfl (by decide) rfl ?_
          refine x_iload_n (E_X11_pass_1 18 rfl) rfl ?_
          refine x_iload (E_X11_pass_1 19 rfl) rfl ?_
          refine x_if_eq (E_X11_pass_1 20 rfl) (by omega) (fun c6 => ?_) (fun c6 => ?_)
          · refine x_aload_n (E_X11_pass_1 23 rfl) rfl ?_
            refine x_getR (E_X11_pass_1 24 rfl) fl_X11_117 rfl (by decide) rfl ?_
            refine x_iload_n (E_X11_pass_1 25 rfl) rfl ?_
            refine x_ialde (f := σ 149) (E_X11_pass_1 26 rfl) rfl (by decide) (by omega) rfl ?_
            refine x_iast (E_X11_pass_1 27 rfl) rfl (by decide) (by omega) ?_
            refine x_iconst (E_X11_pass_1 28 rfl) ?_
            refine z_iret (E_X11_pass_1 29 rfl) (Or.inr rfl) ?_
            have eft := ef _ _ (d6.symm.trans (if_neg (by omega)).symm) (d9.symm.trans (if_neg (by omega)).symm)
            exact DoM.yes ok (by rw [← eft]; exact (((MdM.rf hL).u5 th).u6 th).u9 th) (fun _ _ => rfl) (Or.inl hz)
          · refine x_iconst (E_X11_pass_1 21 rfl) ?_
            refine x_goto (E_X11_pass_1 22 rfl) ?_
            refine x_iast (E_X11_pass_1 27 rfl) rfl (by decide) (by omega) ?_
            refine x_iconst (E_X11_pass_1 28 rfl) ?_
            refine z_iret (E_X11_pass_1 29 rfl) (Or.inr rfl) ?_
            have eft := ef _ _ (d6.symm.trans (if_neg (by omega)).symm) ((if_pos (by omega)).symm)
            exact DoM.yes ok (by rw [← eft]; exact (((MdM.rf hL).u5 th).u6 th).u9 th) (fun _ _ => rfl) (Or.inl hz)
        · refine x_aload_n (E_X11_pass_1 6 rfl) rfl ?_
          refine x_getR (E_X11_pass_1 7 rfl) fl_X11_43 rfl (by decide) rfl ?_
          refine x_iload_n (E_X11_pass_1 8 rfl) rfl ?_
          refine x_ialde (f := σ 126) (E_X11_pass_1 9 rfl) rfl (by decide) (by omega) rfl ?_
          refine x_goto (E_X11_pass_1 10 rfl) ?_
          refine x_iast (E_X11_pass_1 15 rfl) rfl (by decide) (by omega) ?_
          refine x_aload_n (E_X11_pass_1 16 rfl) rfl ?_
          refine x_getR (E_X11_pass_1 17 rfl) fl_X11_117 rfl (by decide) rfl ?_
          refine x_iload_n (E_X11_pass_1 18 rfl) rfl ?_
          refine x_iload (E_X11_pass_1 19 rfl) rfl ?_
          refine x_if_eq (E_X11_pass_1 20 rfl) (by omega) (fun c7 => ?_) (fun c7 => ?_)
          · refine x_aload_n (E_X11_pass_1 23 rfl) rfl ?_
            refine x_getR (E_X11_pass_1 24 rfl) fl_X11_117 rfl (by decide) rfl ?_
            refine x_iload_n (E_X11_pass_1 25 rfl) rfl ?_
            refine x_ialde (f := σ 149) (E_X11_pass_1 26 rfl) rfl (by decide) (by omega) rfl ?_
            refine x_iast (E_X11_pass_1 27 rfl) rfl (by decide) (by omega) ?_
            refine x_iconst (E_X11_pass_1 28 rfl) ?_
            refine z_iret (E_X11_pass_1 29 rfl) (Or.inr rfl) ?_
            have eft := ef _ _ (f12.trans (if_pos (by omega)).symm) (d9.symm.trans (if_neg (by omega)).symm)
            exact DoM.yes ok (by rw [← eft]; exact (((MdM.rf hL).u5 th).u6 th).u9 th) (fun _ _ => rfl) (Or.inl hz)
          · refine x_iconst (E_X11_pass_1 21 rfl) ?_
            refine x_goto (E_X11_pass_1 22 rfl) ?_
            refine x_iast (E_X11_pass_1 27 rfl) rfl (by decide) (by omega) ?_
            refine x_iconst (E_X11_pass_1 28 rfl) ?_
            refine z_iret (E_X11_pass_1 29 rfl) (Or.inr rfl) ?_
            have eft := ef _ _ (f12.trans (if_pos (by omega)).symm) ((if_pos (by omega)).symm)
            exact DoM.yes ok (by rw [← eft]; exact (((MdM.rf hL).u5 th).u6 th).u9 th) (fun _ _ => rfl) (Or.inl hz)
  refine x_aload_n (E_X11_pass_0 0 rfl) rfl ?_
  refine x_getR (E_X11_pass_0 1 rfl) fl_X11_105 rfl (by decide) rfl ?_
  refine x_iload_n (E_X11_pass_0 2 rfl) rfl ?_
  refine x_ialde (f := σ 145) (E_X11_pass_0 3 rfl) rfl (by decide) (by omega) rfl ?_
  refine x_aload_n (E_X11_pass_0 4 rfl) rfl ?_
  refine x_getR (E_X11_pass_0 5 rfl) fl_X11_46 rfl (by decide) rfl ?_
  refine x_iload_n (E_X11_pass_0 6 rfl) rfl ?_
  refine x_ialde (f := σ 127) (E_X11_pass_0 7 rfl) rfl (by decide) (by omega) rfl ?_
  refine x_icmp_ne (E_X11_pass_0 8 rfl) (by omega) (by omega) (fun c1 => ?_) (fun c1 => ?_)
  · refine x_iconst (E_X11_pass_0 20 rfl) ?_
    refine z_iret (E_X11_pass_0 21 rfl) (Or.inl rfl) ?_
    exact DoM.no (by rw [okS_1 k th]; exact decide_eq_false (by omega)) (MdM.rf hL) (fun _ _ => rfl) (Or.inl hz)
  · refine x_aload_n (E_X11_pass_0 9 rfl) rfl ?_
    refine x_getR (E_X11_pass_0 10 rfl) fl_X11_117 rfl (by decide) rfl ?_
    refine x_iload_n (E_X11_pass_0 11 rfl) rfl ?_
    refine x_ialde (f := σ 149) (E_X11_pass_0 12 rfl) rfl (by decide) (by omega) rfl ?_
    refine x_if_lt (E_X11_pass_0 13 rfl) (by omega) (fun c2 => ?_) (fun c2 => ?_)
    · refine x_aload_n (E_X11_pass_0 22 rfl) rfl ?_
      refine x_getR (E_X11_pass_0 23 rfl) fl_X11_108 rfl (by decide) rfl ?_
      refine x_iload_n (E_X11_pass_0 24 rfl) rfl ?_
      refine x_ialde (f := σ 146) (E_X11_pass_0 25 rfl) rfl (by decide) (by omega) rfl ?_
      refine x_aload_n (E_X11_pass_0 26 rfl) rfl ?_
      refine x_getR (E_X11_pass_0 27 rfl) fl_X11_46 rfl (by decide) rfl ?_
      refine x_iload_n (E_X11_pass_0 28 rfl) rfl ?_
      refine x_ialde (f := σ 127) (E_X11_pass_0 29 rfl) rfl (by decide) (by omega) rfl ?_
      refine x_icmp_ne (E_X11_pass_0 30 rfl) (by omega) (by omega) (fun c3 => ?_) (fun c3 => ?_)
      · refine x_iconst (E_X11_pass_0 33 rfl) ?_
        refine x_istore_n (E_X11_pass_0 34 rfl) rfl ?_
        refine x_aload_n (E_X11_pass_0 35 rfl) rfl ?_
        refine x_getR (E_X11_pass_0 36 rfl) fl_X11_49 rfl (by decide) rfl ?_
        refine x_iload_n (E_X11_pass_0 37 rfl) rfl ?_
        refine x_ialde (f := σ 128) (E_X11_pass_0 38 rfl) rfl (by decide) (by omega) rfl ?_
        refine x_iconst (E_X11_pass_0 39 rfl) ?_
        refine x_icmp_ne (E_X11_pass_0 40 rfl) (by omega) (by decide) (fun c4 => ?_) (fun c4 => ?_)
        · refine x_iconst (E_X11_pass_0 43 rfl) ?_
          refine x_istore (E_X11_pass_0 44 rfl) rfl ?_
          exact fin 0 0 (by rw [okS_1 k th]; exact decide_eq_true (by omega)) (by decide) (by omega) (by decide) (by omega)
        · refine x_iconst (E_X11_pass_0 41 rfl) ?_
          refine x_goto (E_X11_pass_0 42 rfl) ?_
          refine x_istore (E_X11_pass_0 44 rfl) rfl ?_
          exact fin 1 0 (by rw [okS_1 k th]; exact decide_eq_true (by omega)) (by decide) (by omega) (by decide) (by omega)
      · refine x_iconst (E_X11_pass_0 31 rfl) ?_
        refine x_goto (E_X11_pass_0 32 rfl) ?_
        refine x_istore_n (E_X11_pass_0 34 rfl) rfl ?_
        refine x_aload_n (E_X11_pass_0 35 rfl) rfl ?_
        refine x_getR (E_X11_pass_0 36 rfl) fl_X11_49 rfl (by decide) rfl ?_
        refine x_iload_n (E_X11_pass_0 37 rfl) rfl ?_
        refine x_ialde (f := σ 128) (E_X11_pass_0 38 rfl) rfl (by decide) (by omega) rfl ?_
        refine x_iconst (E_X11_pass_0 39 rfl) ?_
        refine x_icmp_ne (E_X11_pass_0 40 rfl) (by omega) (by decide) (fun c5 => ?_) (fun c5 => ?_)
        · refine x_iconst (E_X11_pass_0 43 rfl) ?_
          refine x_istore (E_X11_pass_0 44 rfl) rfl ?_
          exact fin 0 1 (by rw [okS_1 k th]; exact decide_eq_true (by omega)) (by decide) (by omega) (by decide) (by omega)
        · refine x_iconst (E_X11_pass_0 41 rfl) ?_
          refine x_goto (E_X11_pass_0 42 rfl) ?_
          refine x_istore (E_X11_pass_0 44 rfl) rfl ?_
          exact fin 1 1 (by rw [okS_1 k th]; exact decide_eq_true (by omega)) (by decide) (by omega) (by decide) (by omega)
    · refine x_aload_n (E_X11_pass_0 14 rfl) rfl ?_
      refine x_getR (E_X11_pass_0 15 rfl) fl_X11_93 rfl (by decide) rfl ?_
      refine x_iconst (E_X11_pass_0 16 rfl) ?_
      refine x_ialde (f := σ 141) (E_X11_pass_0 17 rfl) rfl (by decide) (by omega) rfl ?_
      refine x_iconst (E_X11_pass_0 18 rfl) ?_
      refine x_icmp_ne (E_X11_pass_0 19 rfl) (by omega) (by decide) (fun c6 => ?_) (fun c6 => ?_)
      · refine x_aload_n (E_X11_pass_0 22 rfl) rfl ?_
        refine x_getR (E_X11_pass_0 23 rfl) fl_X11_108 rfl (by decide) rfl ?_
        refine x_iload_n (E_X11_pass_0 24 rfl) rfl ?_
        refine x_ialde (f := σ 146) (E_X11_pass_0 25 rfl) rfl (by decide) (by omega) rfl ?_
        refine x_aload_n (E_X11_pass_0 26 rfl) rfl ?_
        refine x_getR (E_X11_pass_0 27 rfl) fl_X11_46 rfl (by decide) rfl ?_
        refine x_iload_n (E_X11_pass_0 28 rfl) rfl ?_
        refine x_ialde (f := σ 127) (E_X11_pass_0 29 rfl) rfl (by decide) (by omega) rfl ?_
        refine x_icmp_ne (E_X11_pass_0 30 rfl) (by omega) (by omega) (fun c7 => ?_) (fun c7 => ?_)
        · refine x_iconst (E_X11_pass_0 33 rfl) ?_
          refine x_istore_n (E_X11_pass_0 34 rfl) rfl ?_
          refine x_aload_n (E_X11_pass_0 35 rfl) rfl ?_
          refine x_getR (E_X11_pass_0 36 rfl) fl_X11_49 rfl (by decide) rfl ?_
          refine x_iload_n (E_X11_pass_0 37 rfl) rfl ?_
          refine x_ialde (f := σ 128) (E_X11_pass_0 38 rfl) rfl (by decide) (by omega) rfl ?_
          refine x_iconst (E_X11_pass_0 39 rfl) ?_
          refine x_icmp_ne (E_X11_pass_0 40 rfl) (by omega) (by decide) (fun c8 => ?_) (fun c8 => ?_)
          · refine x_iconst (E_X11_pass_0 43 rfl) ?_
            refine x_istore (E_X11_pass_0 44 rfl) rfl ?_
            exact fin 0 0 (by rw [okS_1 k th]; exact decide_eq_true (by omega)) (by decide) (by omega) (by decide) (by omega)
          · refine x_iconst (E_X11_pass_0 41 rfl) ?_
            refine x_goto (E_X11_pass_0 42 rfl) ?_
            refine x_istore (E_X11_pass_0 44 rfl) rfl ?_
            exact fin 1 0 (by rw [okS_1 k th]; exact decide_eq_true (by omega)) (by decide) (by omega) (by decide) (by omega)
        · refine x_iconst (E_X11_pass_0 31 rfl) ?_
          refine x_goto (E_X11_pass_0 32 rfl) ?_
          refine x_istore_n (E_X11_pass_0 34 rfl) rfl ?_
          refine x_aload_n (E_X11_pass_0 35 rfl) rfl ?_
          refine x_getR (E_X11_pass_0 36 rfl) fl_X11_49 rfl (by decide) rfl ?_
          refine x_iload_n (E_X11_pass_0 37 rfl) rfl ?_
          refine x_ialde (f := σ 128) (E_X11_pass_0 38 rfl) rfl (by decide) (by omega) rfl ?_
          refine x_iconst (E_X11_pass_0 39 rfl) ?_
          refine x_icmp_ne (E_X11_pass_0 40 rfl) (by omega) (by decide) (fun c9 => ?_) (fun c9 => ?_)
          · refine x_iconst (E_X11_pass_0 43 rfl) ?_
            refine x_istore (E_X11_pass_0 44 rfl) rfl ?_
            exact fin 0 1 (by rw [okS_1 k th]; exact decide_eq_true (by omega)) (by decide) (by omega) (by decide) (by omega)
          · refine x_iconst (E_X11_pass_0 41 rfl) ?_
            refine x_goto (E_X11_pass_0 42 rfl) ?_
            refine x_istore (E_X11_pass_0 44 rfl) rfl ?_
            exact fin 1 1 (by rw [okS_1 k th]; exact decide_eq_true (by omega)) (by decide) (by omega) (by decide) (by omega)
      · refine x_iconst (E_X11_pass_0 20 rfl) ?_
        refine z_iret (E_X11_pass_0 21 rfl) (Or.inl rfl) ?_
        exact DoM.no (by rw [okS_1 k th]; exact decide_eq_false (by omega)) (MdM.rf hL) (fun _ _ => rfl) (Or.inl hz)

set_option maxHeartbeats 1000000 in
theorem c_X11_befall {i : Int} (hi : 0 ≤ i ∧ i < (n : Int)) (h0 : (SM n nl σ) 1 i = 0) (hL : LM dt hd n nl σ) (hD : DOk dt hd n nl) (hy : YOk n nl (dt 6) (SM n nl σ)) (hz : σ 131 i = 0) : CI l G M_X11_befall 2 [vr 114, vi i] σ (DoM dt hd n nl i σ) := by
  obtain ⟨⟨e8, e9, e11, e12, e13, e14, e3⟩, ⟨e79, e15⟩, -⟩ := id hL
  obtain ⟨n120, nl12, hln, hck, hhd⟩ := id hD
  obtain ⟨l0, l1, l2, l3, l4, l5, l6, l7, l8, l9⟩ := hln i hi.1 hi.2
  unfold hasPq at l4
  have f8 := congrFun e8 i
  have f9 := congrFun e9 i
  have f11 := congrFun e11 i
  have f12 := congrFun e12 i
  have f13 := congrFun e13 i
  have f14 := congrFun e14 i
  obtain ⟨dy, cl, cd, vl, tm, he⟩ := hL.2.2
  refine Ct.of rfl (Nat.le_of_ble_eq_true rfl) ?_
  refine x_aload_n (E_X11_befall_0 0 rfl) rfl ?_
  refine x_getR (E_X11_befall_0 1 rfl) fl_X11_31 rfl (by decide) rfl ?_
  refine x_iload_n (E_X11_befall_0 2 rfl) rfl ?_
  refine x_ialde (f := σ 122) (E_X11_befall_0 3 rfl) rfl (by decide) (by omega) rfl ?_
  refine x_istore_n (E_X11_befall_0 4 rfl) rfl ?_
  refine x_aload_n (E_X11_befall_0 5 rfl) rfl ?_
  refine x_getR (E_X11_befall_0 6 rfl) fl_X11_40 rfl (by decide) rfl ?_
  refine x_iload_n (E_X11_befall_0 7 rfl) rfl ?_
  refine x_ialde (f := σ 125) (E_X11_befall_0 8 rfl) rfl (by decide) (by omega) rfl ?_
  refine x_istore_n (E_X11_befall_0 9 rfl) rfl ?_
  rw [f11]
  refine x_iload_n (E_X11_befall_0 10 rfl) rfl ?_
  refine x_bipush (z := 10) (E_X11_befall_0 11 rfl) (by decide) ?_
  refine x_icmp_ne (E_X11_befall_0 12 rfl) (by omega) (by decide) (fun c1 => ?_) (fun c1 => ?_)
  · refine x_iload_n (E_X11_befall_0 15 rfl) rfl ?_
    refine x_if_ne (E_X11_befall_0 16 rfl) (by omega) (fun c2 => ?_) (fun c2 => ?_)
    · refine x_iload_n (E_X11_befall_0 21 rfl) rfl ?_
      refine x_bipush (z := 8) (E_X11_befall_0 22 rfl) (by decide) ?_
      refine x_icmp_ne (E_X11_befall_0 23 rfl) (by omega) (by decide) (fun c3 => ?_) (fun c3 => ?_)
      · have g1 : (SM n nl σ) 1 (dt 2 i) = σ 142 (dt 2 i) := StG_1 (by omega)
        have g2 := (hy.1 (dt 2 i)).1
        refine x_aload_n (E_X11_befall_0 29 rfl) rfl ?_
        refine x_getR (E_X11_befall_0 30 rfl) fl_X11_96 rfl (by decide) rfl ?_
        refine x_iload_n (E_X11_befall_0 31 rfl) rfl ?_
        refine x_zalde (f := σ 142) (E_X11_befall_0 32 rfl) rfl (by decide) (by omega) rfl ?_
        refine x_if_ne (E_X11_befall_0 33 rfl) (by omega) (fun c4 => ?_) (fun c4 => ?_)
        · refine x_aload_n (E_X11_befall_0 36 rfl) rfl ?_
          refine x_aload_n (E_X11_befall_0 37 rfl) rfl ?_
          refine x_getR (E_X11_befall_0 38 rfl) fl_X11_34 rfl (by decide) rfl ?_
          refine x_iload_n (E_X11_befall_0 39 rfl) rfl ?_
          refine x_ialde (f := σ 123) (E_X11_befall_0 40 rfl) rfl (by decide) (by omega) rfl ?_
          refine z_callVv (E_X11_befall_0 41 rfl) ml_X11_341 mv_X11_findTerms rfl (by decide) (by decide) (c_X11_findTerms (by omega) tm) (by decide) rfl rfl (Nat.le_of_ble_eq_true rfl) (fun τ8 h8 => ?_)
          have low : ∀ k, k ∉ [114, 139, 140, 141] → τ8 k = σ k := h8.2.2.1
          have m8 : MdM dt hd n nl (SM n nl σ) (σ 131) σ τ8 := ⟨SM_fr (fun k hk => low k (by simp at hk ⊢; omega)), low 131 (by decide), hL.low (fun k hk => low k (by simp at hk ⊢; omega)) (fun j hj => h8.2.2.2 j (by simp at hj ⊢; omega)), h8.2.2.1.sub (by decide), h8.2.2.2⟩
          have th8 : SM n nl τ8 1 (dt 2 i) = 1 := by rw [m8.1]; omega
          have hy8 : YOk n nl (dt 6) (SM n nl τ8) := by rw [m8.1]; exact hy
          have hz8 : τ8 131 i = 0 := by rw [m8.2.1]; exact hz
          have t1 : τ8 141 1 = hd (dt 1 i) 1 := (h8.1 1 (by decide) (by decide)).trans (by rw [he, f9])
          have t2 : τ8 141 2 = hd (dt 1 i) 2 := (h8.1 2 (by decide) (by decide)).trans (by rw [he, f9])
          refine x_iload_n (E_X11_befall_0 42 rfl) rfl ?_
          refine x_iconst (E_X11_befall_0 43 rfl) ?_
          refine x_icmp_ne (E_X11_befall_0 44 rfl) (by omega) (by decide) (fun c5 => ?_) (fun c5 => ?_)
          · refine x_iload_n (E_X11_befall_0 50 rfl) rfl ?_
            refine x_iconst (E_X11_befall_0 51 rfl) ?_
            refine x_icmp_ne (E_X11_befall_0 52 rfl) (by omega) (by decide) (fun c6 => ?_) (fun c6 => ?_)
            · refine x_iload_n (E_X11_befall_0 58 rfl) rfl ?_
              refine x_iconst (E_X11_befall_0 59 rfl) ?_
              refine x_icmp_ne (E_X11_befall_1 0 rfl) (by omega) (by decide) (fun c7 => ?_) (fun c7 => ?_)
              · refine x_iload_n (E_X11_befall_1 6 rfl) rfl ?_
                refine x_bipush (z := 7) (E_X11_befall_1 7 rfl) (by decide) ?_
                refine x_icmp_ne (E_X11_befall_1 8 rfl) (by omega) (by decide) (fun c8 => ?_) (fun c8 => ?_)
                · refine x_aload_n (E_X11_befall_1 14 rfl) rfl ?_
                  refine x_iload_n (E_X11_befall_1 15 rfl) rfl ?_
                  refine x_iload_n (E_X11_befall_1 16 rfl) rfl ?_
                  refine z_callVi (E_X11_befall_1 17 rfl) ml_X11_372 mv_X11_change rfl (by decide) (by decide) (c_X11_change hi th8 (by omega) m8.2.2.1 hD hy8 hz8) (by decide) rfl rfl (Nat.le_of_ble_eq_true rfl) (fun z9 τ9 h9 => ?_)
                  refine z_iret (E_X11_befall_1 18 rfl) h9.z01 ?_
                  exact h9.pre m8
                · refine x_aload_n (E_X11_befall_1 9 rfl) rfl ?_
                  refine x_iload_n (E_X11_befall_1 10 rfl) rfl ?_
                  refine x_iload_n (E_X11_befall_1 11 rfl) rfl ?_
                  refine z_callVi (E_X11_befall_1 12 rfl) ml_X11_369 mv_X11_handOut rfl (by decide) (by decide) (c_X11_handOut hi th8 (by omega) m8.2.2.1 hD hy8 hz8) (by decide) rfl rfl (Nat.le_of_ble_eq_true rfl) (fun z9 τ9 h9 => ?_)
                  refine x_goto (E_X11_befall_1 13 rfl) ?_
                  refine z_iret (E_X11_befall_1 18 rfl) h9.z01 ?_
                  exact h9.pre m8
              · refine x_aload_n (E_X11_befall_1 1 rfl) rfl ?_
                refine x_iload_n (E_X11_befall_1 2 rfl) rfl ?_
                refine x_iload_n (E_X11_befall_1 3 rfl) rfl ?_
                refine z_callVi (E_X11_befall_1 4 rfl) ml_X11_366 mv_X11_lend rfl (by decide) (by decide) (c_X11_lend hi th8 (by omega) m8.2.2.1 hD hy8 hz8) (by decide) rfl rfl (Nat.le_of_ble_eq_true rfl) (fun z9 τ9 h9 => ?_)
                refine x_goto (E_X11_befall_1 5 rfl) ?_
                refine z_iret (E_X11_befall_1 18 rfl) h9.z01 ?_
                exact h9.pre m8
            · refine x_aload_n (E_X11_befall_0 53 rfl) rfl ?_
              refine x_iload_n (E_X11_befall_0 54 rfl) rfl ?_
              refine x_iload_n (E_X11_befall_0 55 rfl) rfl ?_
              refine z_callVi (E_X11_befall_0 56 rfl) ml_X11_363 mv_X11_partFrom rfl (by decide) (by decide) (c_X11_partFrom hi th8 (by omega) m8.2.2.1 hD hy8 hz8) (by decide) rfl rfl (Nat.le_of_ble_eq_true rfl) (fun z9 τ9 h9 => ?_)
              refine x_goto (E_X11_befall_0 57 rfl) ?_
              refine z_iret (E_X11_befall_1 18 rfl) h9.z01 ?_
              exact h9.pre m8
          · refine x_aload_n (E_X11_befall_0 45 rfl) rfl ?_
            refine x_iload_n (E_X11_befall_0 46 rfl) rfl ?_
            refine x_iload_n (E_X11_befall_0 47 rfl) rfl ?_
            refine z_callVi (E_X11_befall_0 48 rfl) ml_X11_360 mv_X11_pass rfl (by decide) (by decide) (c_X11_pass hi th8 (by omega) t1 t2 m8.2.2.1 hD hy8 hz8) (by decide) rfl rfl (Nat.le_of_ble_eq_true rfl) (fun z9 τ9 h9 => ?_)
            refine x_goto (E_X11_befall_0 49 rfl) ?_
            refine z_iret (E_X11_befall_1 18 rfl) h9.z01 ?_
            exact h9.pre m8
        · refine x_iconst (E_X11_befall_0 34 rfl) ?_
          refine z_iret (E_X11_befall_0 35 rfl) (Or.inl rfl) ?_
          exact DoM.no (okS_no (by omega) (by omega)) (MdM.rf hL) (fun _ _ => rfl) (Or.inl hz)
      · refine x_aload_n (E_X11_befall_0 24 rfl) rfl ?_
        refine x_iload_n (E_X11_befall_0 25 rfl) rfl ?_
        refine x_iload_n (E_X11_befall_0 26 rfl) rfl ?_
        refine z_callVi (E_X11_befall_0 27 rfl) ml_X11_357 mv_X11_burn rfl (by decide) (by decide) (c_X11_burn hi (by omega) hL hD hy hz) (by decide) rfl rfl (Nat.le_of_ble_eq_true rfl) (fun z9 τ9 h9 => ?_)
        refine z_iret (E_X11_befall_0 28 rfl) h9.z01 ?_
        exact h9
    · refine x_aload_n (E_X11_befall_0 17 rfl) rfl ?_
      refine x_iload_n (E_X11_befall_0 18 rfl) rfl ?_
      refine z_callVi (E_X11_befall_0 19 rfl) ml_X11_354 mv_X11_issue rfl (by decide) (by decide) (c_X11_issue hi (by omega) h0 hL hD hy hz) (by decide) rfl rfl (Nat.le_of_ble_eq_true rfl) (fun z9 τ9 h9 => ?_)
      refine z_iret (E_X11_befall_0 20 rfl) h9.z01 ?_
      exact h9
  · refine x_iconst (E_X11_befall_0 13 rfl) ?_
    refine z_iret (E_X11_befall_0 14 rfl) (Or.inr rfl) ?_
    exact DoM.yes (okS_t (Or.inr (by omega))) (by rw [efS_10 (by omega)]; exact (MdM.rf hL)) (fun _ _ => rfl) (Or.inl hz)
/-- what the model's tell leaves -/
def TlM (dt : Nat → Int → Int) (hd : Int → Int → Int) (n : Nat) (nl d kn : Int) (σ τ : Nat → Int → Int) : Prop := SM n nl τ = (tlS dt hd n ((bookS (dt 1) (dt 0) (dt 2) (σ 124) kn n).filter (fun i => decide (dt 1 i ≤ d))) (fun _ _ => 0)) ∧ (∀ w, 0 ≤ w → w < (n : Int) → τ 131 w = 0 ∨ τ 131 w = 1) ∧ (∀ i, 0 ≤ i → i < (n : Int) → τ 129 i = voidS (dt 0) (dt 2) (σ 124) kn n i) ∧ LM dt hd n nl τ ∧ Fr [114, 129, 132, 139, 140, 141, 130, 131, 142, 143, 144, 145, 146, 147, 148, 149, 150, 151] σ τ ∧ Fo 114 [21, 38, 39] σ τ
theorem sort_stop {key : Int → Int} {x d : Int} {R : List Int} (h : (x :: R).Pairwise (fun a b => key a ≤ key b)) (hx : d < key x) : (x :: R).filter (fun i => decide (key i ≤ d)) = [] := by
  rw [List.filter_eq_nil_iff]
  intro a ha q
  have q := of_decide_eq_true q
  rw [List.pairwise_cons] at h
  rcases List.mem_cons.mp ha with e | e
  · rw [e] at q; omega
  · have := h.1 a e; omega
set_option maxHeartbeats 2000000 in
theorem c_X11_tell {d kn : Int} (hd9 : rgi d) (hkn : rgi kn) (hL : LM dt hd n nl σ) (hD : DOk dt hd n nl) (hT : ∀ i, 0 ≤ i → i < (n : Int) → 0 ≤ σ 124 i ∧ σ 124 i ≤ 2000) : CV l G M_X11_tell 3 [vr 114, vi kn, vi d] σ (TlM dt hd n nl d kn σ) := by
  obtain ⟨⟨e8, e9, e11, e12, e13, e14, e3⟩, ⟨e79, e15⟩, -⟩ := id hL
  obtain ⟨n120, nl12, hln, hck, hhd⟩ := id hD
  refine Ct.of rfl (Nat.le_of_ble_eq_true rfl) ?_
  have loop3 : ∀ (κ : Nat → Int → Int), Fr [114, 129, 132, 139, 140, 141, 130, 131, 142, 143, 144, 145, 146, 147, 148, 149, 150, 151] σ κ → Fo 114 [21, 38, 39] σ κ → RepL (κ 132) (bookS (dt 1) (dt 0) (dt 2) (σ 124) kn n) → κ 114 21 = (bookS (dt 1) (dt 0) (dt 2) (σ 124) kn n).length → (∀ i, 0 ≤ i → i < (n : Int) → κ 129 i = voidS (dt 0) (dt 2) (σ 124) kn n i) → ∀ (R : List Int) (k : Int) (y : Nat → Int → Int) (ρ : Nat → Int → Int) (f : Int → Int), (bookS (dt 1) (dt 0) (dt 2) (σ 124) kn n).drop k.toNat = R → R.Nodup → R.Pairwise (fun a b => dt 1 a ≤ dt 1 b) → 0 ≤ k → k + R.length = (bookS (dt 1) (dt 0) (dt 2) (σ 124) kn n).length → (∀ i ∈ R, y 1 i = 0 ∧ f i = 0) → tlS dt hd n (R.filter (fun i => decide (dt 1 i ≤ d))) y = (tlS dt hd n ((bookS (dt 1) (dt 0) (dt 2) (σ 124) kn n).filter (fun i => decide (dt 1 i ≤ d))) (fun _ _ => 0)) → YOk n nl (dt 6) y → MdM dt hd n nl y f κ ρ → (∀ w, 0 ≤ w → w < (n : Int) → f w = 0 ∨ f w = 1) → XV l G M_X11_tell 3 74 [some (vr 114), some (vi kn), some (vi d), some (vi k)] [] ρ (TlM dt hd n nl d kn σ) := by
    intro κ hF0 hO0 hB hB21 hV R
    have bl : (bookS (dt 1) (dt 0) (dt 2) (σ 124) kn n).length ≤ n := srtL_len_le
    induction R with
    | nil =>
      intro k y ρ f w1 w2 w2' w3 w4 w5 w6 hy m hf
      simp only [List.length_nil] at w4
      have q21 : ρ 114 21 = κ 114 21 := m.2.2.2.2 21 (by decide)
      refine x_iload_n (E_X11_tell_0 46 rfl) rfl ?_
      refine x_aload_n (E_X11_tell_0 47 rfl) rfl ?_
      refine x_getIe (v := ρ 114 21) (E_X11_tell_0 48 rfl) fl_X11_255 rfl (by decide) rfl ?_
      refine x_icmp_ge (E_X11_tell_0 49 rfl) (by omega) (by omega) (fun c1 => ?_) (fun c1 => ?_)
      · refine z_vret (E_X11_tell_1 18 rfl) trivial ?_
        have w6 : y = (tlS dt hd n ((bookS (dt 1) (dt 0) (dt 2) (σ 124) kn n).filter (fun i => decide (dt 1 i ≤ d))) (fun _ _ => 0)) := w6
        exact ⟨m.1.trans w6, fun w a b => by rw [m.2.1]; exact hf w a b, fun i a b => by rw [m.2.2.2.1 129 (by decide)]; exact hV i a b, m.2.2.1, Fr.trans hF0 m.2.2.2.1 (fun k h => h) (by decide), Fo.trans hO0 m.2.2.2.2 (fun k h => h) (by decide)⟩
      · exfalso; omega
    | cons x R ih =>
      intro k y ρ f w1 w2 w2' w3 w4 w5 w6 hy m hf
      simp only [List.length_cons] at w4
      have q21 : ρ 114 21 = κ 114 21 := m.2.2.2.2 21 (by decide)
      have hxo : (bookS (dt 1) (dt 0) (dt 2) (σ 124) kn n)[k.toNat]? = some x := by
        have : ((bookS (dt 1) (dt 0) (dt 2) (σ 124) kn n).drop k.toNat)[0]? = some x := by rw [w1]; rfl
        rw [List.getElem?_drop] at this
        exact this
      have hxm := List.mem_of_getElem? hxo
      have hxr := srtL_mem.mp hxm
      have r132 : ρ 132 = κ 132 := m.2.2.2.1 132 (by decide)
      have hk : ρ 132 k = x := by
        have := hB _ _ hxo
        rw [show ((k.toNat : Nat) : Int) = k by omega] at this
        rw [r132]; exact this
      have r9 : ρ 123 x = dt 1 x := congrFun m.2.2.1.1.2.1 x
      have ln := hln x hxr.1 hxr.2.1
      have l1 := ln.2.1
      have ed : (bookS (dt 1) (dt 0) (dt 2) (σ 124) kn n).drop (k + 1).toNat = R := by
        rw [show (k + 1).toNat = k.toNat + 1 by omega, ← List.drop_drop, w1]
        rfl
      have w2s := List.nodup_cons.mp w2
      have w5x := w5 x List.mem_cons_self
      refine x_iload_n (E_X11_tell_0 46 rfl) rfl ?_
      refine x_aload_n (E_X11_tell_0 47 rfl) rfl ?_
      refine x_getIe (v := ρ 114 21) (E_X11_tell_0 48 rfl) fl_X11_255 rfl (by decide) rfl ?_
      refine x_icmp_ge (E_X11_tell_0 49 rfl) (by omega) (by omega) (fun c1 => ?_) (fun c1 => ?_)
      · refine z_vret (E_X11_tell_1 18 rfl) trivial ?_
        rw [sort_stop w2' (by omega)] at w6
        have w6 : y = (tlS dt hd n ((bookS (dt 1) (dt 0) (dt 2) (σ 124) kn n).filter (fun i => decide (dt 1 i ≤ d))) (fun _ _ => 0)) := w6
        exact ⟨m.1.trans w6, fun w a b => by rw [m.2.1]; exact hf w a b, fun i a b => by rw [m.2.2.2.1 129 (by decide)]; exact hV i a b, m.2.2.1, Fr.trans hF0 m.2.2.2.1 (fun k h => h) (by decide), Fo.trans hO0 m.2.2.2.2 (fun k h => h) (by decide)⟩
      · refine x_aload_n (E_X11_tell_0 50 rfl) rfl ?_
        refine x_getR (E_X11_tell_0 51 rfl) fl_X11_34 rfl (by decide) rfl ?_
        refine x_aload_n (E_X11_tell_0 52 rfl) rfl ?_
        refine x_getR (E_X11_tell_0 53 rfl) fl_X11_62 rfl (by decide) rfl ?_
        refine x_iload_n (E_X11_tell_0 54 rfl) rfl ?_
        refine x_ialde (f := ρ 132) (E_X11_tell_0 55 rfl) rfl (by decide) (by omega) rfl ?_
        rw [hk]
        refine x_ialde (f := ρ 123) (E_X11_tell_0 56 rfl) rfl (by decide) (by omega) rfl ?_
        refine x_iload_n (E_X11_tell_0 57 rfl) rfl ?_
        refine x_icmp_gt (E_X11_tell_0 58 rfl) (by omega) (by omega) (fun c2 => ?_) (fun c2 => ?_)
        · refine z_vret (E_X11_tell_1 18 rfl) trivial ?_
          rw [sort_stop w2' (by omega)] at w6
          have w6 : y = (tlS dt hd n ((bookS (dt 1) (dt 0) (dt 2) (σ 124) kn n).filter (fun i => decide (dt 1 i ≤ d))) (fun _ _ => 0)) := w6
          exact ⟨m.1.trans w6, fun w a b => by rw [m.2.1]; exact hf w a b, fun i a b => by rw [m.2.2.2.1 129 (by decide)]; exact hV i a b, m.2.2.1, Fr.trans hF0 m.2.2.2.1 (fun k h => h) (by decide), Fo.trans hO0 m.2.2.2.2 (fun k h => h) (by decide)⟩
        · refine x_aload_n (E_X11_tell_0 59 rfl) rfl ?_
          refine x_getR (E_X11_tell_1 0 rfl) fl_X11_56 rfl (by decide) rfl ?_
          refine x_aload_n (E_X11_tell_1 1 rfl) rfl ?_
          refine x_getR (E_X11_tell_1 2 rfl) fl_X11_62 rfl (by decide) rfl ?_
          refine x_iload_n (E_X11_tell_1 3 rfl) rfl ?_
          refine x_ialde (f := ρ 132) (E_X11_tell_1 4 rfl) rfl (by decide) (by omega) rfl ?_
          rw [hk]
          refine x_aload_n (E_X11_tell_1 5 rfl) rfl ?_
          refine x_aload_n (E_X11_tell_1 6 rfl) rfl ?_
          refine x_getR (E_X11_tell_1 7 rfl) fl_X11_62 rfl (by decide) rfl ?_
          refine x_iload_n (E_X11_tell_1 8 rfl) rfl ?_
          refine x_ialde (f := ρ 132) (E_X11_tell_1 9 rfl) rfl (by decide) (by omega) rfl ?_
          rw [hk]
          rw [List.filter_cons, if_pos (decide_eq_true (by omega))] at w6
          have dn := c_X11_befall (l := l) (G := G) (σ := ρ) (dt := dt) (hd := hd) (n := n) (nl := nl) (i := x) (by omega) (by rw [m.1]; exact w5x.1) m.2.2.1 hD (by rw [m.1]; exact hy) (by rw [m.2.1]; exact w5x.2)
          refine z_callVi (E_X11_tell_1 10 rfl) ml_X11_375 mv_X11_befall rfl (by decide) (by decide) dn (by decide) rfl rfl (Nat.le_of_ble_eq_true rfl) (fun z9 τ9 h9 => ?_)
          obtain ⟨z1, f9, m9, h91, h92⟩ := h9
          rw [m.1] at z1 m9
          rw [m.2.1] at h91
          have z01 : z9 = 0 ∨ z9 = 1 := by rw [z1]; split <;> omega
          have nx : ∀ v, v = (if okS dt hd y x = true then 0 else 1) → XV l G M_X11_tell 3 74 [some (vr 114), some (vi kn), some (vi d), some (vi (k + 1))] [] (upq τ9 130 x v) (TlM dt hd n nl d kn σ) := fun v hv => by
            subst hv
            refine ih (k + 1) (stS dt hd n y x) _ f9 ed w2s.2 (List.pairwise_cons.mp w2').2 (by omega) (by omega) (fun i hi => ?_) w6 (hy.st ln (by omega)) (m.trans (m9.u2 (by omega))) (fun w a b => ?_)
            · have ne : i ≠ x := fun e => w2s.1 (by rw [← e]; exact hi)
              rw [stS_1 ne, h91 i ne]
              exact w5 i (List.mem_cons_of_mem _ hi)
            · by_cases e : w = x
              · rw [e]; exact h92
              · rw [h91 w e]; exact hf w a b
          refine x_if_ne (E_X11_tell_1 11 rfl) (by omega) (fun c3 => ?_) (fun c3 => ?_)
          · refine x_iconst (E_X11_tell_1 14 rfl) ?_
            refine x_zast (E_X11_tell_1 15 rfl) rfl (by decide) (by omega) (Or.inl rfl) ?_
            refine x_iinc (E_X11_tell_1 16 rfl) rfl rfl ?_
            refine x_goto (E_X11_tell_1 17 rfl) ?_
            exact nx 0 (if_p (Classical.byContradiction (fun q => by rw [if_neg q] at z1; omega)) rfl).symm
          · refine x_iconst (E_X11_tell_1 12 rfl) ?_
            refine x_goto (E_X11_tell_1 13 rfl) ?_
            refine x_zast (E_X11_tell_1 15 rfl) rfl (by decide) (by omega) (Or.inr rfl) ?_
            refine x_iinc (E_X11_tell_1 16 rfl) rfl rfl ?_
            refine x_goto (E_X11_tell_1 17 rfl) ?_
            exact nx 1 (if_n (fun q => by rw [if_pos q] at z1; omega) rfl).symm
  have fin : ∀ (ρ : Nat → Int → Int) (κ : Nat → Int → Int) (y : Nat → Int → Int), True := fun _ _ _ => trivial
  have loop2 : ∀ (κ : Nat → Int → Int), Fr [114, 129, 132] σ κ → Fo 114 [21] σ κ → RepL (κ 132) (bookS (dt 1) (dt 0) (dt 2) (σ 124) kn n) → κ 114 21 = (bookS (dt 1) (dt 0) (dt 2) (σ 124) kn n).length → (∀ i, 0 ≤ i → i < (n : Int) → κ 129 i = voidS (dt 0) (dt 2) (σ 124) kn n i) → LM dt hd n nl κ → ∀ (k : Nat) (i : Int) (τ : Nat → Int → Int), i = nl - k → k ≤ nl.toNat → (∀ w, 0 ≤ w → w < (n : Int) → τ 142 w = 0 ∧ τ 130 w = 0 ∧ τ 131 w = 0) → (∀ w, 0 ≤ w → w < i → τ 150 w = 0 ∧ τ 151 w = 0) → Fr [130, 131, 142, 150, 151] κ τ → XV l G M_X11_tell 3 44 [some (vr 114), some (vi kn), some (vi d), some (vi i)] [] τ (TlM dt hd n nl d kn σ) := by
    intro κ hF0 hO0 hB hB21 hV hLK k
    induction k using Nat.strongRecOn with
    | _ k ih =>
    intro i τ hi hk hA hB2 hF
    have q1 : τ 114 1 = nl := (congrFun (hF 114 (by decide)) 1).trans hLK.2.1.2
    refine x_iload_n (E_X11_tell_0 28 rfl) rfl ?_
    refine x_aload_n (E_X11_tell_0 29 rfl) rfl ?_
    refine x_getIe (v := τ 114 1) (E_X11_tell_0 30 rfl) fl_X11_208 rfl (by decide) rfl ?_
    refine x_icmp_ge (E_X11_tell_0 31 rfl) (by omega) (by omega) (fun c1 => ?_) (fun c1 => ?_)
    · refine x_iconst (E_X11_tell_0 44 rfl) ?_
      refine x_istore_n (E_X11_tell_0 45 rfl) rfl ?_
      have z0 : SM n nl τ = fun _ _ => 0 := by
        unfold SM
        rw [sumS_0 (fun j a b => (hA j a b).2.2)]
        exact StG_z (fun w a b => (hA w a b).1) (fun w a b => (hA w a b).2.1) (fun w a b => (hB2 w a (by omega)).1) (fun w a b => (hB2 w a (by omega)).2)
      have hLT : LM dt hd n nl τ := hLK.low (fun k hk => hF k (by simp at hk ⊢; omega)) (fun j _ => congrFun (hF 114 (by decide)) j)
      refine loop3 τ (Fr.trans hF0 hF (by decide) (by decide)) (fun j h => (congrFun (hF 114 (by decide)) j).trans (hO0 j (by simp at h ⊢; omega))) (by rw [hF 132 (by decide)]; exact hB) ((congrFun (hF 114 (by decide)) 21).trans hB21) (by rw [hF 129 (by decide)]; exact hV) (bookS (dt 1) (dt 0) (dt 2) (σ 124) kn n) 0 (fun _ _ => 0) τ (τ 131) rfl srtL_nodup srtL_sorted (by omega) (by omega) (fun i hi => ?_) rfl (YOk.zero (fun x a b => (hck x a b).1)) ⟨z0, rfl, hLT, Fr.rf, Fo.rf⟩ (fun w a b => Or.inl (hA w a b).2.2)
      have := srtL_mem.mp hi
      exact ⟨rfl, (hA i (by omega) (by omega)).2.2⟩
    · refine x_aload_n (E_X11_tell_0 32 rfl) rfl ?_
      refine x_getR (E_X11_tell_0 33 rfl) fl_X11_120 rfl (by decide) rfl ?_
      refine x_iload_n (E_X11_tell_0 34 rfl) rfl ?_
      refine x_iconst (E_X11_tell_0 35 rfl) ?_
      refine x_iast (E_X11_tell_0 36 rfl) rfl (by decide) (by omega) ?_
      refine x_aload_n (E_X11_tell_0 37 rfl) rfl ?_
      refine x_getR (E_X11_tell_0 38 rfl) fl_X11_123 rfl (by decide) rfl ?_
      refine x_iload_n (E_X11_tell_0 39 rfl) rfl ?_
      refine x_iconst (E_X11_tell_0 40 rfl) ?_
      refine x_iast (E_X11_tell_0 41 rfl) rfl (by decide) (by omega) ?_
      refine x_iinc (E_X11_tell_0 42 rfl) rfl rfl ?_
      refine x_goto (E_X11_tell_0 43 rfl) ?_
      refine ih (k - 1) (by omega) _ _ (by omega) (by omega) hA (fun w a b => ?_) ((hF.up (by decide)).up (by decide))
      show (if w = i then 0 else τ 150 w) = 0 ∧ (if w = i then 0 else τ 151 w) = 0
      by_cases e : w = i
      · rw [if_pos e, if_pos e]; exact ⟨rfl, rfl⟩
      · rw [if_neg e, if_neg e]; exact hB2 w a (by omega)
  have loop1 : ∀ (κ : Nat → Int → Int), Fr [114, 129, 132] σ κ → Fo 114 [21] σ κ → RepL (κ 132) (bookS (dt 1) (dt 0) (dt 2) (σ 124) kn n) → κ 114 21 = (bookS (dt 1) (dt 0) (dt 2) (σ 124) kn n).length → (∀ i, 0 ≤ i → i < (n : Int) → κ 129 i = voidS (dt 0) (dt 2) (σ 124) kn n i) → LM dt hd n nl κ → ∀ (k : Nat) (i : Int) (τ : Nat → Int → Int), i = n - k → k ≤ n → (∀ w, 0 ≤ w → w < i → τ 142 w = 0 ∧ τ 130 w = 0 ∧ τ 131 w = 0) → Fr [130, 131, 142, 150, 151] κ τ → XV l G M_X11_tell 3 7 [some (vr 114), some (vi kn), some (vi d), some (vi i)] [] τ (TlM dt hd n nl d kn σ) := by
    intro κ hF0 hO0 hB hB21 hV hLK k
    induction k using Nat.strongRecOn with
    | _ k ih =>
    intro i τ hi hk hA hF
    have q9 : τ 114 9 = n := (congrFun (hF 114 (by decide)) 9).trans hLK.2.1.1
    refine x_iload_n (E_X11_tell_0 5 rfl) rfl ?_
    refine x_aload_n (E_X11_tell_0 6 rfl) rfl ?_
    refine x_getIe (v := τ 114 9) (E_X11_tell_0 7 rfl) fl_X11_227 rfl (by decide) rfl ?_
    refine x_icmp_ge (E_X11_tell_0 8 rfl) (by omega) (by omega) (fun c1 => ?_) (fun c1 => ?_)
    · refine x_iconst (E_X11_tell_0 26 rfl) ?_
      refine x_istore_n (E_X11_tell_0 27 rfl) rfl ?_
      exact loop2 κ hF0 hO0 hB hB21 hV hLK nl.toNat 0 τ (by omega) (Nat.le_refl _) (fun w a b => hA w a (by omega)) (fun w a b => absurd a (by omega)) hF
    · refine x_aload_n (E_X11_tell_0 9 rfl) rfl ?_
      refine x_getR (E_X11_tell_0 10 rfl) fl_X11_96 rfl (by decide) rfl ?_
      refine x_iload_n (E_X11_tell_0 11 rfl) rfl ?_
      refine x_iconst (E_X11_tell_0 12 rfl) ?_
      refine x_zast (E_X11_tell_0 13 rfl) rfl (by decide) (by omega) (Or.inl rfl) ?_
      refine x_aload_n (E_X11_tell_0 14 rfl) rfl ?_
      refine x_getR (E_X11_tell_0 15 rfl) fl_X11_56 rfl (by decide) rfl ?_
      refine x_iload_n (E_X11_tell_0 16 rfl) rfl ?_
      refine x_iconst (E_X11_tell_0 17 rfl) ?_
      refine x_zast (E_X11_tell_0 18 rfl) rfl (by decide) (by omega) (Or.inl rfl) ?_
      refine x_aload_n (E_X11_tell_0 19 rfl) rfl ?_
      refine x_getR (E_X11_tell_0 20 rfl) fl_X11_59 rfl (by decide) rfl ?_
      refine x_iload_n (E_X11_tell_0 21 rfl) rfl ?_
      refine x_iconst (E_X11_tell_0 22 rfl) ?_
      refine x_zast (E_X11_tell_0 23 rfl) rfl (by decide) (by omega) (Or.inl rfl) ?_
      refine x_iinc (E_X11_tell_0 24 rfl) rfl rfl ?_
      refine x_goto (E_X11_tell_0 25 rfl) ?_
      refine ih (k - 1) (by omega) _ _ (by omega) (by omega) (fun w a b => ?_) (((hF.up (by decide)).up (by decide)).up (by decide))
      show (if w = i then 0 else τ 142 w) = 0 ∧ (if w = i then 0 else τ 130 w) = 0 ∧ (if w = i then 0 else τ 131 w) = 0
      by_cases e : w = i
      · rw [if_pos e, if_pos e, if_pos e]; exact ⟨rfl, rfl, rfl⟩
      · rw [if_neg e, if_neg e, if_neg e]; exact hA w a (by omega)
  refine x_aload_n (E_X11_tell_0 0 rfl) rfl ?_
  refine x_iload_n (E_X11_tell_0 1 rfl) rfl ?_
  refine z_callVv (E_X11_tell_0 2 rfl) ml_X11_258 mv_X11_findBook rfl (by decide) (by decide) (c_X11_findBook (by omega) (by rw [e79]; omega) (by rw [e79, e8]; exact fun i a b => (hln i a b).1) (by rw [e79, e8, e11]; exact fun i a b c => (hln i a b).2.2.2.1 (by omega)) (by rw [e79]; exact hT) (by rw [e79, e9]; exact fun i a b => (hln i a b).2.1)) (by decide) rfl rfl (Nat.le_of_ble_eq_true rfl) (fun τ9 h9 => ?_)
  unfold FbP at h9
  rw [e79, e8, e9, e11, Int.toNat_natCast] at h9
  obtain ⟨b1, b2, b3, b4, b5⟩ := h9
  refine x_iconst (E_X11_tell_0 3 rfl) ?_
  refine x_istore_n (E_X11_tell_0 4 rfl) rfl ?_
  exact loop1 τ9 b4 b5 b2 b3 b1 (hL.low (fun k hk => b4 k (by simp at hk ⊢; omega)) (fun j hj => b5 j (by simp at hj ⊢; omega))) n 0 τ9 (by omega) (Nat.le_refl _) (fun w a b => absurd a (by omega)) Fr.rf

