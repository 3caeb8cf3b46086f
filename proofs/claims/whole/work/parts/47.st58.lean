/-! the story at 58 -/
theorem SC58_u2 {n nl w v : Int} {τ : Nat → Int → Int} (hw : 0 ≤ w ∧ w < n) : SC 58 n nl (upq τ 60 w v) = upq (SC 58 n nl τ) 2 w v := (StG_cong (b := upq (fun j => τ (58 + j)) 2 w v) rfl rfl rfl rfl rfl rfl rfl rfl rfl rfl rfl rfl ).trans (StG_u2 hw)
theorem SC58_u3 {n nl w v : Int} {τ : Nat → Int → Int} (hw : SC 58 n nl τ 1 w = 1) : SC 58 n nl (upq τ 61 w v) = upq (SC 58 n nl τ) 3 w v := (StG_cong (b := upq (fun j => τ (58 + j)) 3 w v) rfl rfl rfl rfl rfl rfl rfl rfl rfl rfl rfl rfl ).trans (StG_u3 ⟨(StG_rd hw).1, (StG_rd hw).2.1⟩)
theorem SC58_u4 {n nl w v : Int} {τ : Nat → Int → Int} (hw : SC 58 n nl τ 1 w = 1) : SC 58 n nl (upq τ 62 w v) = upq (SC 58 n nl τ) 4 w v := (StG_cong (b := upq (fun j => τ (58 + j)) 4 w v) rfl rfl rfl rfl rfl rfl rfl rfl rfl rfl rfl rfl ).trans (StG_u4 ⟨(StG_rd hw).1, (StG_rd hw).2.1⟩)
theorem SC58_u5 {n nl w v : Int} {τ : Nat → Int → Int} (hw : SC 58 n nl τ 1 w = 1) : SC 58 n nl (upq τ 63 w v) = upq (SC 58 n nl τ) 5 w v := (StG_cong (b := upq (fun j => τ (58 + j)) 5 w v) rfl rfl rfl rfl rfl rfl rfl rfl rfl rfl rfl rfl ).trans (StG_u5 ⟨(StG_rd hw).1, (StG_rd hw).2.1⟩)
theorem SC58_u6 {n nl w v : Int} {τ : Nat → Int → Int} (hw : SC 58 n nl τ 1 w = 1) : SC 58 n nl (upq τ 64 w v) = upq (SC 58 n nl τ) 6 w v := (StG_cong (b := upq (fun j => τ (58 + j)) 6 w v) rfl rfl rfl rfl rfl rfl rfl rfl rfl rfl rfl rfl ).trans (StG_u6 ⟨(StG_rd hw).1, (StG_rd hw).2.1⟩)
theorem SC58_u7 {n nl w v : Int} {τ : Nat → Int → Int} (hw : SC 58 n nl τ 1 w = 1) : SC 58 n nl (upq τ 65 w v) = upq (SC 58 n nl τ) 7 w v := (StG_cong (b := upq (fun j => τ (58 + j)) 7 w v) rfl rfl rfl rfl rfl rfl rfl rfl rfl rfl rfl rfl ).trans (StG_u7 ⟨(StG_rd hw).1, (StG_rd hw).2.1⟩)
theorem SC58_u8 {n nl w v : Int} {τ : Nat → Int → Int} (hw : SC 58 n nl τ 1 w = 1) : SC 58 n nl (upq τ 66 w v) = upq (SC 58 n nl τ) 8 w v := (StG_cong (b := upq (fun j => τ (58 + j)) 8 w v) rfl rfl rfl rfl rfl rfl rfl rfl rfl rfl rfl rfl ).trans (StG_u8 ⟨(StG_rd hw).1, (StG_rd hw).2.1⟩)
theorem SC58_u9 {n nl w v : Int} {τ : Nat → Int → Int} (hw : SC 58 n nl τ 1 w = 1) : SC 58 n nl (upq τ 67 w v) = upq (SC 58 n nl τ) 9 w v := (StG_cong (b := upq (fun j => τ (58 + j)) 9 w v) rfl rfl rfl rfl rfl rfl rfl rfl rfl rfl rfl rfl ).trans (StG_u9 ⟨(StG_rd hw).1, (StG_rd hw).2.1⟩)
theorem SC58_u10 {n nl w v : Int} {τ : Nat → Int → Int} (hw : 0 ≤ w ∧ w < nl) : SC 58 n nl (upq τ 68 w v) = upq (SC 58 n nl τ) 10 w v := (StG_cong (b := upq (fun j => τ (58 + j)) 10 w v) rfl rfl rfl rfl rfl rfl rfl rfl rfl rfl rfl rfl ).trans (StG_u10 hw)
theorem SC58_u11 {n nl w v : Int} {τ : Nat → Int → Int} (hw : 0 ≤ w ∧ w < nl) : SC 58 n nl (upq τ 69 w v) = upq (SC 58 n nl τ) 11 w v := (StG_cong (b := upq (fun j => τ (58 + j)) 11 w v) rfl rfl rfl rfl rfl rfl rfl rfl rfl rfl rfl rfl ).trans (StG_u11 hw)
def mkT58 (τ : Nat → Int → Int) (w l c p q : Int) : Nat → Int → Int := upq (upq (upq (upq (upq (upq (upq (upq τ 59 w 1) 61 w l) 62 w c) 63 w p) 64 w q) 65 w (-1)) 66 w 0) 67 w (-1)
theorem SC58_mk {n nl w l c p q : Int} {τ : Nat → Int → Int} (hw : 0 ≤ w ∧ w < n) : SC 58 n nl (mkT58 τ w l c p q) = mkS (SC 58 n nl τ) w l c p q := (StG_cong (b := mkS (fun j => τ (58 + j)) w l c p q) rfl rfl rfl rfl rfl rfl rfl rfl rfl rfl rfl rfl ).trans (StG_mk hw)
theorem SC58_on {n nl w v : Int} {τ : Nat → Int → Int} : SC 58 n nl (upq τ 70 w v) = SC 58 n nl τ := StG_cong rfl rfl rfl rfl rfl rfl rfl rfl rfl rfl rfl rfl 
theorem SC58_12 {n nl v : Int} {τ : Nat → Int → Int} : SC 58 n nl (upq τ 58 15 v) = setc (SC 58 n nl τ) 12 (fun _ => v) := by
  funext k
  match k with
  | 0 => rfl
  | 1 => rfl
  | 2 => rfl
  | 3 => rfl
  | 4 => rfl
  | 5 => rfl
  | 6 => rfl
  | 7 => rfl
  | 8 => rfl
  | 9 => rfl
  | 10 => rfl
  | 11 => rfl
  | 12 => rfl
  | k + 13 => rw [setc_ne (by omega)]; rfl
theorem SC58_fr {n nl : Int} {σ τ : Nat → Int → Int} (h : ∀ k, 58 ≤ k → k ≤ 69 → τ k = σ k) : SC 58 n nl τ = SC 58 n nl σ := StG_cong (h 59 (by decide) (by decide)) (h 60 (by decide) (by decide)) (h 61 (by decide) (by decide)) (h 62 (by decide) (by decide)) (h 63 (by decide) (by decide)) (h 64 (by decide) (by decide)) (h 65 (by decide) (by decide)) (h 66 (by decide) (by decide)) (h 67 (by decide) (by decide)) (h 68 (by decide) (by decide)) (h 69 (by decide) (by decide)) (congrFun (h 58 (by decide) (by decide)) 15)
/-- on the way: the story is y, casks on papers f -/
def Mid58 (dt : Nat → Int → Int) (hd : Int → Int → Int) (n : Nat) (nl : Int) (y : Nat → Int → Int) (f : Int → Int) (σ τ : Nat → Int → Int) : Prop := SC 58 n nl τ = y ∧ τ 70 = f ∧ LD dt hd n nl τ ∧ Fr [17, 39, 40, 58, 59, 60, 61, 62, 63, 64, 65, 66, 67, 68, 69, 70] σ τ ∧ Fo 58 [15] σ τ ∧ Fo 17 [7] σ τ
section
variable {dt : Nat → Int → Int} {hd : Int → Int → Int} {n : Nat} {nl : Int} {y : Nat → Int → Int} {f : Int → Int} {σ τ : Nat → Int → Int} {w v : Int}
theorem Mid58.rf (hL : LD dt hd n nl σ) : Mid58 dt hd n nl (SC 58 n nl σ) (σ 70) σ σ := ⟨rfl, rfl, hL, Fr.rf, Fo.rf, Fo.rf⟩
theorem Mid58.ld (h : Mid58 dt hd n nl y f σ τ) {c : Nat} {i : Int} (hc : 44 < c) : LD dt hd n nl (upq τ c i v) := h.2.2.1.low (fun k hk => upq_ne (by omega))
theorem Mid58.u3 (h : Mid58 dt hd n nl y f σ τ) (hw : y 1 w = 1) : Mid58 dt hd n nl (upq y 3 w v) f σ (upq τ 61 w v) := ⟨(SC58_u3 (by rw [h.1]; exact hw)).trans (by rw [h.1]), h.2.1, h.ld (by decide), h.2.2.2.1.up (by decide), h.2.2.2.2.1.un (by decide), h.2.2.2.2.2.un (by decide)⟩
theorem Mid58.u4 (h : Mid58 dt hd n nl y f σ τ) (hw : y 1 w = 1) : Mid58 dt hd n nl (upq y 4 w v) f σ (upq τ 62 w v) := ⟨(SC58_u4 (by rw [h.1]; exact hw)).trans (by rw [h.1]), h.2.1, h.ld (by decide), h.2.2.2.1.up (by decide), h.2.2.2.2.1.un (by decide), h.2.2.2.2.2.un (by decide)⟩
theorem Mid58.u5 (h : Mid58 dt hd n nl y f σ τ) (hw : y 1 w = 1) : Mid58 dt hd n nl (upq y 5 w v) f σ (upq τ 63 w v) := ⟨(SC58_u5 (by rw [h.1]; exact hw)).trans (by rw [h.1]), h.2.1, h.ld (by decide), h.2.2.2.1.up (by decide), h.2.2.2.2.1.un (by decide), h.2.2.2.2.2.un (by decide)⟩
theorem Mid58.u6 (h : Mid58 dt hd n nl y f σ τ) (hw : y 1 w = 1) : Mid58 dt hd n nl (upq y 6 w v) f σ (upq τ 64 w v) := ⟨(SC58_u6 (by rw [h.1]; exact hw)).trans (by rw [h.1]), h.2.1, h.ld (by decide), h.2.2.2.1.up (by decide), h.2.2.2.2.1.un (by decide), h.2.2.2.2.2.un (by decide)⟩
theorem Mid58.u7 (h : Mid58 dt hd n nl y f σ τ) (hw : y 1 w = 1) : Mid58 dt hd n nl (upq y 7 w v) f σ (upq τ 65 w v) := ⟨(SC58_u7 (by rw [h.1]; exact hw)).trans (by rw [h.1]), h.2.1, h.ld (by decide), h.2.2.2.1.up (by decide), h.2.2.2.2.1.un (by decide), h.2.2.2.2.2.un (by decide)⟩
theorem Mid58.u8 (h : Mid58 dt hd n nl y f σ τ) (hw : y 1 w = 1) : Mid58 dt hd n nl (upq y 8 w v) f σ (upq τ 66 w v) := ⟨(SC58_u8 (by rw [h.1]; exact hw)).trans (by rw [h.1]), h.2.1, h.ld (by decide), h.2.2.2.1.up (by decide), h.2.2.2.2.1.un (by decide), h.2.2.2.2.2.un (by decide)⟩
theorem Mid58.u9 (h : Mid58 dt hd n nl y f σ τ) (hw : y 1 w = 1) : Mid58 dt hd n nl (upq y 9 w v) f σ (upq τ 67 w v) := ⟨(SC58_u9 (by rw [h.1]; exact hw)).trans (by rw [h.1]), h.2.1, h.ld (by decide), h.2.2.2.1.up (by decide), h.2.2.2.2.1.un (by decide), h.2.2.2.2.2.un (by decide)⟩
theorem Mid58.u2 (h : Mid58 dt hd n nl y f σ τ) (hw : 0 ≤ w ∧ w < (n : Int)) : Mid58 dt hd n nl (upq y 2 w v) f σ (upq τ 60 w v) := ⟨(SC58_u2 hw).trans (by rw [h.1]), h.2.1, h.ld (by decide), h.2.2.2.1.up (by decide), h.2.2.2.2.1.un (by decide), h.2.2.2.2.2.un (by decide)⟩
theorem Mid58.u10 (h : Mid58 dt hd n nl y f σ τ) (hw : 0 ≤ w ∧ w < nl) : Mid58 dt hd n nl (upq y 10 w v) f σ (upq τ 68 w v) := ⟨(SC58_u10 hw).trans (by rw [h.1]), h.2.1, h.ld (by decide), h.2.2.2.1.up (by decide), h.2.2.2.2.1.un (by decide), h.2.2.2.2.2.un (by decide)⟩
theorem Mid58.u11 (h : Mid58 dt hd n nl y f σ τ) (hw : 0 ≤ w ∧ w < nl) : Mid58 dt hd n nl (upq y 11 w v) f σ (upq τ 69 w v) := ⟨(SC58_u11 hw).trans (by rw [h.1]), h.2.1, h.ld (by decide), h.2.2.2.1.up (by decide), h.2.2.2.2.1.un (by decide), h.2.2.2.2.2.un (by decide)⟩
theorem Mid58.on (h : Mid58 dt hd n nl y f σ τ) : Mid58 dt hd n nl y (updI f w v) σ (upq τ 70 w v) := ⟨SC58_on.trans h.1, by show (fun b => if b = w then v else τ 70 b) = _; rw [h.2.1]; rfl, h.ld (by decide), h.2.2.2.1.up (by decide), h.2.2.2.2.1.un (by decide), h.2.2.2.2.2.un (by decide)⟩
theorem Mid58.db (h : Mid58 dt hd n nl y f σ τ) : Mid58 dt hd n nl (setc y 12 (fun _ => v)) f σ (upq τ 58 15 v) := ⟨SC58_12.trans (by rw [h.1]), h.2.1, h.ld (by decide), h.2.2.2.1.up (by decide), h.2.2.2.2.1.up (by decide), h.2.2.2.2.2.un (by decide)⟩
theorem Mid58.hold (h : Mid58 dt hd n nl y f σ τ) {d : Int} {υ : Nat → Int → Int} (q : HoldP d τ υ) (hd9 : 0 ≤ d ∧ d ≤ 2000) : Mid58 dt hd n nl y f σ υ := ⟨(SC58_fr (fun k a b => q.2.2.1 k (by simp; omega))).trans h.1, (q.2.2.1 70 (by decide)).trans h.2.1, h.2.2.1.hold q hd9, Fr.trans h.2.2.2.1 q.2.2.1 (fun k a => a) (by decide), fun j a => (congrFun (q.2.2.1 58 (by decide)) j).trans (h.2.2.2.2.1 j a), Fo.trans h.2.2.2.2.2 q.2.2.2 (fun k a => a) (fun k a => a)⟩
theorem Mid58.mk (h : Mid58 dt hd n nl y f σ τ) (hw : 0 ≤ w ∧ w < (n : Int)) {l c p q : Int} : Mid58 dt hd n nl (mkS y w l c p q) f σ (mkT58 τ w l c p q) := ⟨(SC58_mk hw).trans (by rw [h.1]), h.2.1, h.2.2.1.low (fun k hk => by unfold mkT58; rw [upq_ne (by omega), upq_ne (by omega), upq_ne (by omega), upq_ne (by omega), upq_ne (by omega), upq_ne (by omega), upq_ne (by omega), upq_ne (by omega)]), ((((((((h.2.2.2.1.up (by decide)).up (by decide)).up (by decide)).up (by decide)).up (by decide)).up (by decide)).up (by decide)).up (by decide)), ((((((((h.2.2.2.2.1.un (by decide)).un (by decide)).un (by decide)).un (by decide)).un (by decide)).un (by decide)).un (by decide)).un (by decide)), ((((((((h.2.2.2.2.2.un (by decide)).un (by decide)).un (by decide)).un (by decide)).un (by decide)).un (by decide)).un (by decide)).un (by decide))⟩
/-- what isDone and its like leave -/
def DoP58 (dt : Nat → Int → Int) (hd : Int → Int → Int) (n : Nat) (nl i : Int) (σ : Nat → Int → Int) (z : Int) (τ : Nat → Int → Int) : Prop := z = (if okS dt hd (SC 58 n nl σ) i = true then 1 else 0) ∧ ∃ f, Mid58 dt hd n nl (enS dt hd n (SC 58 n nl σ) i) f σ τ ∧ ∀ l, 0 ≤ l → l < nl → f l = onS (enS dt hd n (SC 58 n nl σ) i) n l
theorem DoP58.yes {i : Int} (ok : okS dt hd (SC 58 n nl σ) i = true) (m : Mid58 dt hd n nl (efS dt hd n (SC 58 n nl σ) i) f σ τ) (h : ∀ l, 0 ≤ l → l < nl → f l = onS (efS dt hd n (SC 58 n nl σ) i) n l) : DoP58 dt hd n nl i σ 1 τ := ⟨(if_pos ok).symm, f, by rw [enS_y ok]; exact m, by rw [enS_y ok]; exact h⟩
theorem DoP58.no {i : Int} (ok : okS dt hd (SC 58 n nl σ) i = false) (m : Mid58 dt hd n nl (SC 58 n nl σ) f σ τ) (h : ∀ l, 0 ≤ l → l < nl → f l = onS (SC 58 n nl σ) n l) : DoP58 dt hd n nl i σ 0 τ := ⟨(if_neg (by rw [ok]; decide)).symm, f, by rw [enS_n ok]; exact m, by rw [enS_n ok]; exact h⟩
end
variable {l : Launch} {G : GC} {σ : Nat → Int → Int}
variable {dt : Nat → Int → Int} {hd : Int → Int → Int} {n : Nat} {nl : Int}
theorem c_X7_thereOf_58 {x : Int} (hx : 0 ≤ x ∧ x < nl) (hL : LD dt hd n nl σ) (hD : DOk dt hd n nl) : CI l G M_X7_thereOf 0 [vr 58, vi x] σ (IP (thS (dt 6) (SC 58 n nl σ) x) σ) := by
  obtain ⟨⟨e8, e9, e11, e12, e13, e14, e3⟩, ⟨e79, e15⟩, -⟩ := id hL
  obtain ⟨n120, nl12, hln, hck, hhd⟩ := id hD
  have t3 := congrFun e3 x
  have t10 : (SC 58 n nl σ) 10 x = σ 68 x := StG_10 hx
  have t11 : (SC 58 n nl σ) 11 x = σ 69 x := StG_11 hx
  refine Ct.of rfl (Nat.le_of_ble_eq_true rfl) ?_
  refine x_aload_n (E_X7_thereOf_0 0 rfl) rfl ?_
  refine x_getR (E_X7_thereOf_0 1 rfl) fl_X7_49 rfl (by decide) rfl ?_
  refine x_getR (E_X7_thereOf_0 2 rfl) fl_X7_159 rfl (by decide) rfl ?_
  refine x_iload_n (E_X7_thereOf_0 3 rfl) rfl ?_
  refine x_ialde (f := σ 3) (E_X7_thereOf_0 4 rfl) rfl (by decide) (by omega) rfl ?_
  refine x_aload_n (E_X7_thereOf_0 5 rfl) rfl ?_
  refine x_getR (E_X7_thereOf_0 6 rfl) fl_X7_40 rfl (by decide) rfl ?_
  refine x_iload_n (E_X7_thereOf_0 7 rfl) rfl ?_
  refine x_ialde (f := σ 68) (E_X7_thereOf_0 8 rfl) rfl (by decide) (by omega) rfl ?_
  refine x_isub (E_X7_thereOf_0 9 rfl) ?_
  refine x_aload_n (E_X7_thereOf_0 10 rfl) rfl ?_
  refine x_getR (E_X7_thereOf_0 11 rfl) fl_X7_43 rfl (by decide) rfl ?_
  refine x_iload_n (E_X7_thereOf_0 12 rfl) rfl ?_
  refine x_ialde (f := σ 69) (E_X7_thereOf_0 13 rfl) rfl (by decide) (by omega) rfl ?_
  refine x_isub (E_X7_thereOf_0 14 rfl) ?_
  refine z_iret (E_X7_thereOf_0 15 rfl) trivial ?_
  exact ⟨by unfold thS; omega, rfl⟩
theorem th_rg_58 {x : Int} (hx : 0 ≤ x ∧ x < nl) (hD : DOk dt hd n nl) (hy : YOk n nl (dt 6) (SC 58 n nl σ)) : 0 ≤ thS (dt 6) (SC 58 n nl σ) x ∧ thS (dt 6) (SC 58 n nl σ) x ≤ 200 := by
  have a := hD.2.2.2.1 x hx.1 hx.2
  have b := hy.2.2 x
  have b' := b.2.2 hx.1 hx.2
  unfold thS
  omega
theorem c_X7_overOf_58 {x : Int} (hx : 0 ≤ x ∧ x < nl) (hL : LD dt hd n nl σ) (hD : DOk dt hd n nl) (hy : YOk n nl (dt 6) (SC 58 n nl σ)) (hon : ∀ l, 0 ≤ l → l < nl → σ 70 l = onS (SC 58 n nl σ) n l) : CI l G M_X7_overOf 1 [vr 58, vi x] σ (IP (max 0 (onS (SC 58 n nl σ) n x - thS (dt 6) (SC 58 n nl σ) x)) σ) := by
  have o1 := hon x hx.1 hx.2
  have o2 := onS_rg hy (l := x)
  have o3 := th_rg_58 hx hD hy
  have n120 := hD.1
  have nl12 := hD.2.1
  refine Ct.of rfl (Nat.le_of_ble_eq_true rfl) ?_
  refine x_iconst (E_X7_overOf_0 0 rfl) ?_
  refine x_aload_n (E_X7_overOf_0 1 rfl) rfl ?_
  refine x_getR (E_X7_overOf_0 2 rfl) fl_X7_46 rfl (by decide) rfl ?_
  refine x_iload_n (E_X7_overOf_0 3 rfl) rfl ?_
  refine x_ialde (f := σ 70) (E_X7_overOf_0 4 rfl) rfl (by decide) (by omega) rfl ?_
  refine x_aload_n (E_X7_overOf_0 5 rfl) rfl ?_
  refine x_iload_n (E_X7_overOf_0 6 rfl) rfl ?_
  refine z_callVi (E_X7_overOf_0 7 rfl) ml_X7_144 mv_X7_thereOf rfl (by decide) (by decide) (c_X7_thereOf_58 hx hL hD) (by decide) rfl rfl (Nat.le_of_ble_eq_true rfl) (fun z9 τ9 h9 => ?_)
  obtain ⟨rfl, rfl⟩ := h9
  refine x_isub (E_X7_overOf_0 8 rfl) ?_
  refine x_mmax (E_X7_overOf_0 9 rfl) ml_X7_160 (by omega) (by omega) (by decide) ?_
  refine z_iret (E_X7_overOf_0 10 rfl) trivial ?_
  exact ⟨by rw [o1], rfl⟩
theorem c_X7_isBound_58 {w : Int} (hw : 0 ≤ w ∧ w < 120) (h1 : rgi (σ 65 w)) (h2 : rgi (σ 67 w)) : CI l G M_X7_isBound 0 [vr 58, vi w] σ (BP (σ 65 w ≠ -1 ∨ σ 67 w ≠ -1) σ) := by
  refine Ct.of rfl (Nat.le_of_ble_eq_true rfl) ?_
  refine x_aload_n (E_X7_isBound_0 0 rfl) rfl ?_
  refine x_getR (E_X7_isBound_0 1 rfl) fl_X7_31 rfl (by decide) rfl ?_
  refine x_iload_n (E_X7_isBound_0 2 rfl) rfl ?_
  refine x_ialde (f := σ 65) (E_X7_isBound_0 3 rfl) rfl (by decide) (by omega) rfl ?_
  refine x_iconst (E_X7_isBound_0 4 rfl) ?_
  refine x_icmp_ne (E_X7_isBound_0 5 rfl) (by omega) (by decide) (fun c1 => ?_) (fun c1 => ?_)
  · refine x_iconst (E_X7_isBound_0 12 rfl) ?_
    refine x_goto (E_X7_isBound_0 13 rfl) ?_
    refine z_iret (E_X7_isBound_0 15 rfl) (Or.inr rfl) ?_
    exact ⟨rfl, by first | exact Or.inl ⟨rfl, by omega⟩ | exact Or.inr ⟨rfl, by omega⟩⟩
  · refine x_aload_n (E_X7_isBound_0 6 rfl) rfl ?_
    refine x_getR (E_X7_isBound_0 7 rfl) fl_X7_37 rfl (by decide) rfl ?_
    refine x_iload_n (E_X7_isBound_0 8 rfl) rfl ?_
    refine x_ialde (f := σ 67) (E_X7_isBound_0 9 rfl) rfl (by decide) (by omega) rfl ?_
    refine x_iconst (E_X7_isBound_0 10 rfl) ?_
    refine x_icmp_eq (E_X7_isBound_0 11 rfl) (by omega) (by decide) (fun c2 => ?_) (fun c2 => ?_)
    · refine x_iconst (E_X7_isBound_0 14 rfl) ?_
      refine z_iret (E_X7_isBound_0 15 rfl) (Or.inl rfl) ?_
      exact ⟨rfl, by first | exact Or.inl ⟨rfl, by omega⟩ | exact Or.inr ⟨rfl, by omega⟩⟩
    · refine x_iconst (E_X7_isBound_0 12 rfl) ?_
      refine x_goto (E_X7_isBound_0 13 rfl) ?_
      refine z_iret (E_X7_isBound_0 15 rfl) (Or.inr rfl) ?_
      exact ⟨rfl, by first | exact Or.inl ⟨rfl, by omega⟩ | exact Or.inr ⟨rfl, by omega⟩⟩
theorem c_X7_make_58 {w x c p q : Int} (hw : 0 ≤ w ∧ w < 120) : CV l G M_X7_make 0 [vr 58, vi w, vi x, vi c, vi p, vi q] σ (fun τ => τ = mkT58 σ w x c p q) := by
  refine Ct.of rfl (Nat.le_of_ble_eq_true rfl) ?_
  refine x_aload_n (E_X7_make_0 0 rfl) rfl ?_
  refine x_getR (E_X7_make_0 1 rfl) fl_X7_9 rfl (by decide) rfl ?_
  refine x_iload_n (E_X7_make_0 2 rfl) rfl ?_
  refine x_iconst (E_X7_make_0 3 rfl) ?_
  refine x_zast (E_X7_make_0 4 rfl) rfl (by decide) (by omega) (Or.inr rfl) ?_
  refine x_aload_n (E_X7_make_0 5 rfl) rfl ?_
  refine x_getR (E_X7_make_0 6 rfl) fl_X7_18 rfl (by decide) rfl ?_
  refine x_iload_n (E_X7_make_0 7 rfl) rfl ?_
  refine x_iload_n (E_X7_make_0 8 rfl) rfl ?_
  refine x_iast (E_X7_make_0 9 rfl) rfl (by decide) (by omega) ?_
  refine x_aload_n (E_X7_make_0 10 rfl) rfl ?_
  refine x_getR (E_X7_make_0 11 rfl) fl_X7_22 rfl (by decide) rfl ?_
  refine x_iload_n (E_X7_make_0 12 rfl) rfl ?_
  refine x_iload_n (E_X7_make_0 13 rfl) rfl ?_
  refine x_iast (E_X7_make_0 14 rfl) rfl (by decide) (by omega) ?_
  refine x_aload_n (E_X7_make_0 15 rfl) rfl ?_
  refine x_getR (E_X7_make_0 16 rfl) fl_X7_25 rfl (by decide) rfl ?_
  refine x_iload_n (E_X7_make_0 17 rfl) rfl ?_
  refine x_iload (E_X7_make_0 18 rfl) rfl ?_
  refine x_iast (E_X7_make_0 19 rfl) rfl (by decide) (by omega) ?_
  refine x_aload_n (E_X7_make_0 20 rfl) rfl ?_
  refine x_getR (E_X7_make_0 21 rfl) fl_X7_28 rfl (by decide) rfl ?_
  refine x_iload_n (E_X7_make_0 22 rfl) rfl ?_
  refine x_iload (E_X7_make_0 23 rfl) rfl ?_
  refine x_iast (E_X7_make_0 24 rfl) rfl (by decide) (by omega) ?_
  refine x_aload_n (E_X7_make_0 25 rfl) rfl ?_
  refine x_getR (E_X7_make_0 26 rfl) fl_X7_31 rfl (by decide) rfl ?_
  refine x_iload_n (E_X7_make_0 27 rfl) rfl ?_
  refine x_iconst (E_X7_make_0 28 rfl) ?_
  refine x_iast (E_X7_make_0 29 rfl) rfl (by decide) (by omega) ?_
  refine x_aload_n (E_X7_make_0 30 rfl) rfl ?_
  refine x_getR (E_X7_make_0 31 rfl) fl_X7_34 rfl (by decide) rfl ?_
  refine x_iload_n (E_X7_make_0 32 rfl) rfl ?_
  refine x_iconst (E_X7_make_0 33 rfl) ?_
  refine x_iast (E_X7_make_0 34 rfl) rfl (by decide) (by omega) ?_
  refine x_aload_n (E_X7_make_0 35 rfl) rfl ?_
  refine x_getR (E_X7_make_0 36 rfl) fl_X7_37 rfl (by decide) rfl ?_
  refine x_iload_n (E_X7_make_0 37 rfl) rfl ?_
  refine x_iconst (E_X7_make_0 38 rfl) ?_
  refine x_iast (E_X7_make_0 39 rfl) rfl (by decide) (by omega) ?_
  refine z_vret (E_X7_make_0 40 rfl) trivial ?_
  rfl
set_option maxHeartbeats 1000000 in
theorem c_X7_issue_58 {i : Int} (hi : 0 ≤ i ∧ i < (n : Int)) (k : dt 0 i = 0) (h0 : (SC 58 n nl σ) 1 i = 0) (hL : LD dt hd n nl σ) (hD : DOk dt hd n nl) (hy : YOk n nl (dt 6) (SC 58 n nl σ)) (hon : ∀ l, 0 ≤ l → l < nl → σ 70 l = onS (SC 58 n nl σ) n l) : CI l G M_X7_issue 2 [vr 58, vi (dt 2 i), vi i] σ (DoP58 dt hd n nl i σ) := by
  obtain ⟨⟨e8, e9, e11, e12, e13, e14, e3⟩, ⟨e79, e15⟩, -⟩ := id hL
  obtain ⟨n120, nl12, hln, hck, hhd⟩ := id hD
  obtain ⟨l0, l1, l2, l3, l4, l5, l6, l7, l8, l9⟩ := hln i hi.1 hi.2
  unfold hasPq at l4
  have f8 := congrFun e8 i
  have f9 := congrFun e9 i
  have f11 := congrFun e11 i
  have f12 := congrFun e12 i
  have f13 := congrFun e13 i
  have f14 := congrFun e14 i
  have hw : 0 ≤ dt 2 i ∧ dt 2 i < nl := by omega
  have ok : okS dt hd (SC 58 n nl σ) i = true := okS_t (Or.inl k)
  have o1 := hon (dt 2 i) hw.1 hw.2
  have ym := YOk.mk hy hi hw (c := dt 5 i) (p := dt 3 i) (q := dt 3 i) (by omega) (by omega) (by omega)
  have o4 := th_rg_58 hw hD hy
  refine Ct.of rfl (Nat.le_of_ble_eq_true rfl) ?_
  refine x_aload_n (E_X7_issue_0 0 rfl) rfl ?_
  refine x_iload_n (E_X7_issue_0 1 rfl) rfl ?_
  refine x_iload_n (E_X7_issue_0 2 rfl) rfl ?_
  refine x_aload_n (E_X7_issue_0 3 rfl) rfl ?_
  refine x_getR (E_X7_issue_0 4 rfl) fl_X7_53 rfl (by decide) rfl ?_
  refine x_getR (E_X7_issue_0 5 rfl) fl_X7_130 rfl (by decide) rfl ?_
  refine x_iload_n (E_X7_issue_0 6 rfl) rfl ?_
  refine x_ialde (f := σ 14) (E_X7_issue_0 7 rfl) rfl (by decide) (by omega) rfl ?_
  refine x_aload_n (E_X7_issue_0 8 rfl) rfl ?_
  refine x_getR (E_X7_issue_0 9 rfl) fl_X7_53 rfl (by decide) rfl ?_
  refine x_getR (E_X7_issue_0 10 rfl) fl_X7_133 rfl (by decide) rfl ?_
  refine x_iload_n (E_X7_issue_0 11 rfl) rfl ?_
  refine x_ialde (f := σ 12) (E_X7_issue_0 12 rfl) rfl (by decide) (by omega) rfl ?_
  refine x_aload_n (E_X7_issue_0 13 rfl) rfl ?_
  refine x_getR (E_X7_issue_0 14 rfl) fl_X7_53 rfl (by decide) rfl ?_
  refine x_getR (E_X7_issue_0 15 rfl) fl_X7_133 rfl (by decide) rfl ?_
  refine x_iload_n (E_X7_issue_0 16 rfl) rfl ?_
  refine x_ialde (f := σ 12) (E_X7_issue_0 17 rfl) rfl (by decide) (by omega) rfl ?_
  refine z_callVv (E_X7_issue_0 18 rfl) ml_X7_136 mv_X7_make rfl (by decide) (by decide) (c_X7_make_58 (by omega)) (by decide) rfl rfl (Nat.le_of_ble_eq_true rfl) (fun τ9 h9 => ?_)
  subst h9
  have m1 := (Mid58.rf hL).mk hi (l := dt 2 i) (c := σ 14 i) (p := σ 12 i) (q := σ 12 i)
  refine x_aload_n (E_X7_issue_0 19 rfl) rfl ?_
  refine x_getR (E_X7_issue_0 20 rfl) fl_X7_46 rfl (by decide) rfl ?_
  refine x_iload_n (E_X7_issue_0 21 rfl) rfl ?_
  refine x_dup2 (E_X7_issue_0 22 rfl) ?_
  refine x_ialde (f := (mkT58 σ i (dt 2 i) (σ 14 i) (σ 12 i) (σ 12 i)) 70) (E_X7_issue_0 23 rfl) rfl (by decide) (by omega) rfl ?_
  refine x_aload_n (E_X7_issue_0 24 rfl) rfl ?_
  refine x_getR (E_X7_issue_0 25 rfl) fl_X7_53 rfl (by decide) rfl ?_
  refine x_getR (E_X7_issue_0 26 rfl) fl_X7_130 rfl (by decide) rfl ?_
  refine x_iload_n (E_X7_issue_0 27 rfl) rfl ?_
  refine x_ialde (f := (mkT58 σ i (dt 2 i) (σ 14 i) (σ 12 i) (σ 12 i)) 14) (E_X7_issue_0 28 rfl) rfl (by decide) (by omega) rfl ?_
  refine x_iadd (E_X7_issue_0 29 rfl) ?_
  refine x_iast (E_X7_issue_0 30 rfl) rfl (by decide) (by omega) ?_
  have q14 : mkT58 σ i (dt 2 i) (σ 14 i) (σ 12 i) (σ 12 i) 14 i = dt 5 i := f14
  have q57 : mkT58 σ i (dt 2 i) (σ 14 i) (σ 12 i) (σ 12 i) 70 (dt 2 i) = σ 70 (dt 2 i) := rfl
  have m2 := m1.on (w := dt 2 i) (v := mkT58 σ i (dt 2 i) (σ 14 i) (σ 12 i) (σ 12 i) 70 (dt 2 i) + mkT58 σ i (dt 2 i) (σ 14 i) (σ 12 i) (σ 12 i) 14 i)
  rw [q14, q57, f14, f12] at m2
  have o3 : ∀ x, 0 ≤ x → x < nl → updI (σ 70) (dt 2 i) (σ 70 (dt 2 i) + dt 5 i) x = onS (mkS (SC 58 n nl σ) i (dt 2 i) (dt 5 i) (dt 3 i) (dt 3 i)) n x := fun x a b => by
    rw [onS_mk hi (by omega)]
    unfold updI
    have := hon x a b
    by_cases e : x = dt 2 i
    · rw [if_pos e, if_pos e.symm, o1, e]
    · rw [if_neg e, if_neg (fun h => e h.symm), this]; omega
  have ov := c_X7_overOf_58 (l := l) (G := G) (dt := dt) (hd := hd) (n := n) (nl := nl) hw m2.2.2.1 hD (by rw [m2.1]; exact ym) (fun x a b => by rw [m2.1, m2.2.1]; exact o3 x a b)
  rw [m2.1] at ov
  rw [q14, q57, f14, f12]
  have o5 := onS_rg ym (l := dt 2 i)
  have e6 : thS (dt 6) (mkS (SC 58 n nl σ) i (dt 2 i) (dt 5 i) (dt 3 i) (dt 3 i)) (dt 2 i) = thS (dt 6) (SC 58 n nl σ) (dt 2 i) := rfl
  rw [e6] at ov
  refine x_aload_n (E_X7_issue_0 31 rfl) rfl ?_
  refine x_iload_n (E_X7_issue_0 32 rfl) rfl ?_
  refine z_callVi (E_X7_issue_0 33 rfl) ml_X7_140 mv_X7_overOf rfl (by decide) (by decide) ov (by decide) rfl rfl (Nat.le_of_ble_eq_true rfl) (fun z9 τ9 h9 => ?_)
  obtain ⟨rfl, rfl⟩ := h9
  refine x_if_le (E_X7_issue_0 34 rfl) (by omega) (fun c1 => ?_) (fun c1 => ?_)
  · refine x_iconst (E_X7_issue_0 41 rfl) ?_
    refine z_iret (E_X7_issue_0 42 rfl) (Or.inr rfl) ?_
    have ee : setc (mkS (SC 58 n nl σ) i (dt 2 i) (dt 5 i) (dt 3 i) (dt 3 i)) 12 (fun _ => (SC 58 n nl σ) 12 0 + 0) = efS dt hd n (SC 58 n nl σ) i := by
      rw [efS_0 k, if_neg (by omega)]
    have s0 : setc (mkS (SC 58 n nl σ) i (dt 2 i) (dt 5 i) (dt 3 i) (dt 3 i)) 12 (fun _ => (SC 58 n nl σ) 12 0 + 0) = mkS (SC 58 n nl σ) i (dt 2 i) (dt 5 i) (dt 3 i) (dt 3 i) := by
      rw [Int.add_zero]
      funext q
      by_cases e : q = 12
      · rw [e]; rfl
      · rw [setc_ne e]
    refine DoP58.yes ok (by rw [← ee, s0]; exact m2) (fun x a b => ?_)
    rw [← ee, s0]
    exact o3 x a b
  · refine x_aload_n (E_X7_issue_0 35 rfl) rfl ?_
    refine x_dupr (E_X7_issue_0 36 rfl) ?_
    refine x_getIe (v := (mkT58 σ i (dt 2 i) (σ 14 i) (σ 12 i) (σ 12 i)) 58 15) (E_X7_issue_0 37 rfl) fl_X7_90 rfl (by decide) rfl ?_
    refine x_iconst (E_X7_issue_0 38 rfl) ?_
    refine x_iadd (E_X7_issue_0 39 rfl) ?_
    refine x_putI (E_X7_issue_0 40 rfl) fl_X7_90 rfl (by decide) ?_
    refine x_iconst (E_X7_issue_0 41 rfl) ?_
    refine z_iret (E_X7_issue_0 42 rfl) (Or.inr rfl) ?_
    have ee : setc (mkS (SC 58 n nl σ) i (dt 2 i) (dt 5 i) (dt 3 i) (dt 3 i)) 12 (fun _ => (SC 58 n nl σ) 12 0 + 1) = efS dt hd n (SC 58 n nl σ) i := by
      rw [efS_0 k, if_pos (by omega)]
    refine DoP58.yes ok (by rw [← ee]; exact m2.db) (fun x a b => ?_)
    rw [← ee]
    exact o3 x a b
theorem c_X7_burn_58 {i : Int} (hi : 0 ≤ i ∧ i < (n : Int)) (k : dt 0 i = 8) (hL : LD dt hd n nl σ) (hD : DOk dt hd n nl) (hy : YOk n nl (dt 6) (SC 58 n nl σ)) (hon : ∀ l, 0 ≤ l → l < nl → σ 70 l = onS (SC 58 n nl σ) n l) : CI l G M_X7_burn 1 [vr 58, vi (dt 2 i), vi i] σ (DoP58 dt hd n nl i σ) := by
  obtain ⟨⟨e8, e9, e11, e12, e13, e14, e3⟩, ⟨e79, e15⟩, -⟩ := id hL
  obtain ⟨n120, nl12, hln, hck, hhd⟩ := id hD
  obtain ⟨l0, l1, l2, l3, l4, l5, l6, l7, l8, l9⟩ := hln i hi.1 hi.2
  unfold hasPq at l4
  have f8 := congrFun e8 i
  have f9 := congrFun e9 i
  have f11 := congrFun e11 i
  have f12 := congrFun e12 i
  have f13 := congrFun e13 i
  have f14 := congrFun e14 i
  have hw : 0 ≤ dt 2 i ∧ dt 2 i < nl := by omega
  have o4 := th_rg_58 hw hD hy
  have t11 : (SC 58 n nl σ) 11 (dt 2 i) = σ 69 (dt 2 i) := StG_11 hw
  refine Ct.of rfl (Nat.le_of_ble_eq_true rfl) ?_
  refine x_aload_n (E_X7_burn_0 0 rfl) rfl ?_
  refine x_getR (E_X7_burn_0 1 rfl) fl_X7_53 rfl (by decide) rfl ?_
  refine x_getR (E_X7_burn_0 2 rfl) fl_X7_130 rfl (by decide) rfl ?_
  refine x_iload_n (E_X7_burn_0 3 rfl) rfl ?_
  refine x_ialde (f := σ 14) (E_X7_burn_0 4 rfl) rfl (by decide) (by omega) rfl ?_
  refine x_aload_n (E_X7_burn_0 5 rfl) rfl ?_
  refine x_iload_n (E_X7_burn_0 6 rfl) rfl ?_
  refine z_callVi (E_X7_burn_0 7 rfl) ml_X7_144 mv_X7_thereOf rfl (by decide) (by decide) (c_X7_thereOf_58 hw hL hD) (by decide) rfl rfl (Nat.le_of_ble_eq_true rfl) (fun z9 τ9 h9 => ?_)
  obtain ⟨rfl, rfl⟩ := h9
  refine x_icmp_le (E_X7_burn_0 8 rfl) (by omega) (by omega) (fun c1 => ?_) (fun c1 => ?_)
  · refine x_aload_n (E_X7_burn_0 11 rfl) rfl ?_
    refine x_getR (E_X7_burn_0 12 rfl) fl_X7_43 rfl (by decide) rfl ?_
    refine x_iload_n (E_X7_burn_0 13 rfl) rfl ?_
    refine x_dup2 (E_X7_burn_0 14 rfl) ?_
    refine x_ialde (f := σ 69) (E_X7_burn_0 15 rfl) rfl (by decide) (by omega) rfl ?_
    refine x_aload_n (E_X7_burn_0 16 rfl) rfl ?_
    refine x_getR (E_X7_burn_0 17 rfl) fl_X7_53 rfl (by decide) rfl ?_
    refine x_getR (E_X7_burn_0 18 rfl) fl_X7_130 rfl (by decide) rfl ?_
    refine x_iload_n (E_X7_burn_0 19 rfl) rfl ?_
    refine x_ialde (f := σ 14) (E_X7_burn_0 20 rfl) rfl (by decide) (by omega) rfl ?_
    refine x_iadd (E_X7_burn_0 21 rfl) ?_
    refine x_iast (E_X7_burn_0 22 rfl) rfl (by decide) (by omega) ?_
    refine x_iconst (E_X7_burn_0 23 rfl) ?_
    refine z_iret (E_X7_burn_0 24 rfl) (Or.inr rfl) ?_
    have ee : upq (SC 58 n nl σ) 11 (dt 2 i) (σ 69 (dt 2 i) + σ 14 i) = efS dt hd n (SC 58 n nl σ) i := by rw [efS_8 k, t11, f14]
    refine DoP58.yes (by rw [okS_8 k]; exact decide_eq_true (by omega)) (by rw [← ee]; exact (Mid58.rf hL).u11 hw) (fun x a b => ?_)
    rw [← ee]
    exact (hon x a b).trans (onS_eq rfl rfl rfl)
  · refine x_iconst (E_X7_burn_0 9 rfl) ?_
    refine z_iret (E_X7_burn_0 10 rfl) (Or.inl rfl) ?_
    exact DoP58.no (by rw [okS_8 k]; exact decide_eq_false (by omega)) (Mid58.rf hL) hon
theorem c_X7_lend_58 {i : Int} (hi : 0 ≤ i ∧ i < (n : Int)) (th : (SC 58 n nl σ) 1 (dt 2 i) = 1) (k : dt 0 i = 3) (hL : LD dt hd n nl σ) (hD : DOk dt hd n nl) (hy : YOk n nl (dt 6) (SC 58 n nl σ)) (hon : ∀ l, 0 ≤ l → l < nl → σ 70 l = onS (SC 58 n nl σ) n l) : CI l G M_X7_lend 0 [vr 58, vi (dt 2 i), vi i] σ (DoP58 dt hd n nl i σ) := by
  obtain ⟨⟨e8, e9, e11, e12, e13, e14, e3⟩, ⟨e79, e15⟩, -⟩ := id hL
  obtain ⟨n120, nl12, hln, hck, hhd⟩ := id hD
  obtain ⟨l0, l1, l2, l3, l4, l5, l6, l7, l8, l9⟩ := hln i hi.1 hi.2
  unfold hasPq at l4
  have f8 := congrFun e8 i
  have f9 := congrFun e9 i
  have f11 := congrFun e11 i
  have f12 := congrFun e12 i
  have f13 := congrFun e13 i
  have f14 := congrFun e14 i
  have rd : (0 ≤ dt 2 i ∧ dt 2 i < (n : Int)) ∧ σ 59 (dt 2 i) = 1 ∧ (SC 58 n nl σ) 3 (dt 2 i) = σ 61 (dt 2 i) ∧ (SC 58 n nl σ) 4 (dt 2 i) = σ 62 (dt 2 i) ∧ (SC 58 n nl σ) 5 (dt 2 i) = σ 63 (dt 2 i) ∧ (SC 58 n nl σ) 6 (dt 2 i) = σ 64 (dt 2 i) ∧ (SC 58 n nl σ) 7 (dt 2 i) = σ 65 (dt 2 i) ∧ (SC 58 n nl σ) 8 (dt 2 i) = σ 66 (dt 2 i) ∧ (SC 58 n nl σ) 9 (dt 2 i) = σ 67 (dt 2 i) := StG_rd th
  obtain ⟨d1, d2, d3, d4, d5, d6, d7, d8, d9⟩ := rd
  have yr := hy.2.1 _ th
  refine Ct.of rfl (Nat.le_of_ble_eq_true rfl) ?_
  refine x_aload_n (E_X7_lend_0 0 rfl) rfl ?_
  refine x_getR (E_X7_lend_0 1 rfl) fl_X7_31 rfl (by decide) rfl ?_
  refine x_iload_n (E_X7_lend_0 2 rfl) rfl ?_
  refine x_ialde (f := σ 65) (E_X7_lend_0 3 rfl) rfl (by decide) (by omega) rfl ?_
  refine x_iconst (E_X7_lend_0 4 rfl) ?_
  refine x_icmp_ne (E_X7_lend_0 5 rfl) (by omega) (by decide) (fun c1 => ?_) (fun c1 => ?_)
  · refine x_iconst (E_X7_lend_0 15 rfl) ?_
    refine z_iret (E_X7_lend_0 16 rfl) (Or.inl rfl) ?_
    exact DoP58.no (by rw [okS_3 k th]; exact decide_eq_false (by omega)) (Mid58.rf hL) hon
  · refine x_aload_n (E_X7_lend_0 6 rfl) rfl ?_
    refine x_getR (E_X7_lend_0 7 rfl) fl_X7_25 rfl (by decide) rfl ?_
    refine x_iload_n (E_X7_lend_0 8 rfl) rfl ?_
    refine x_ialde (f := σ 63) (E_X7_lend_0 9 rfl) rfl (by decide) (by omega) rfl ?_
    refine x_aload_n (E_X7_lend_0 10 rfl) rfl ?_
    refine x_getR (E_X7_lend_0 11 rfl) fl_X7_28 rfl (by decide) rfl ?_
    refine x_iload_n (E_X7_lend_0 12 rfl) rfl ?_
    refine x_ialde (f := σ 64) (E_X7_lend_0 13 rfl) rfl (by decide) (by omega) rfl ?_
    refine x_icmp_eq (E_X7_lend_0 14 rfl) (by omega) (by omega) (fun c2 => ?_) (fun c2 => ?_)
    · refine x_aload_n (E_X7_lend_0 17 rfl) rfl ?_
      refine x_getR (E_X7_lend_0 18 rfl) fl_X7_31 rfl (by decide) rfl ?_
      refine x_iload_n (E_X7_lend_0 19 rfl) rfl ?_
      refine x_aload_n (E_X7_lend_0 20 rfl) rfl ?_
      refine x_getR (E_X7_lend_0 21 rfl) fl_X7_53 rfl (by decide) rfl ?_
      refine x_getR (E_X7_lend_0 22 rfl) fl_X7_133 rfl (by decide) rfl ?_
      refine x_iload_n (E_X7_lend_0 23 rfl) rfl ?_
      refine x_ialde (f := σ 12) (E_X7_lend_0 24 rfl) rfl (by decide) (by omega) rfl ?_
      refine x_iast (E_X7_lend_0 25 rfl) rfl (by decide) (by omega) ?_
      refine x_aload_n (E_X7_lend_0 26 rfl) rfl ?_
      refine x_getR (E_X7_lend_0 27 rfl) fl_X7_34 rfl (by decide) rfl ?_
      refine x_iload_n (E_X7_lend_0 28 rfl) rfl ?_
      refine x_aload_n (E_X7_lend_0 29 rfl) rfl ?_
      refine x_getR (E_X7_lend_0 30 rfl) fl_X7_53 rfl (by decide) rfl ?_
      refine x_getR (E_X7_lend_0 31 rfl) fl_X7_130 rfl (by decide) rfl ?_
      refine x_iload_n (E_X7_lend_0 32 rfl) rfl ?_
      refine x_ialde (f := σ 14) (E_X7_lend_0 33 rfl) rfl (by decide) (by omega) rfl ?_
      refine x_iast (E_X7_lend_0 34 rfl) rfl (by decide) (by omega) ?_
      refine x_iconst (E_X7_lend_0 35 rfl) ?_
      refine z_iret (E_X7_lend_0 36 rfl) (Or.inr rfl) ?_
      have ee : upq (upq (SC 58 n nl σ) 7 (dt 2 i) (σ 12 i)) 8 (dt 2 i) (σ 14 i) = efS dt hd n (SC 58 n nl σ) i := by rw [efS_3 k, f12, f14]
      refine DoP58.yes (by rw [okS_3 k th]; exact decide_eq_true (by omega)) (by rw [← ee]; exact ((Mid58.rf hL).u7 th).u8 th) (fun x a b => ?_)
      rw [← ee]
      exact (hon x a b).trans (onS_eq rfl rfl rfl)
    · refine x_iconst (E_X7_lend_0 15 rfl) ?_
      refine z_iret (E_X7_lend_0 16 rfl) (Or.inl rfl) ?_
      exact DoP58.no (by rw [okS_3 k th]; exact decide_eq_false (by omega)) (Mid58.rf hL) hon
theorem c_X7_repay_58 {i : Int} (hi : 0 ≤ i ∧ i < (n : Int)) (th : (SC 58 n nl σ) 1 (dt 2 i) = 1) (k : dt 0 i = 4) (hL : LD dt hd n nl σ) (hD : DOk dt hd n nl) (hy : YOk n nl (dt 6) (SC 58 n nl σ)) (hon : ∀ l, 0 ≤ l → l < nl → σ 70 l = onS (SC 58 n nl σ) n l) : CI l G M_X7_repay 0 [vr 58, vi (dt 2 i)] σ (DoP58 dt hd n nl i σ) := by
  obtain ⟨⟨e8, e9, e11, e12, e13, e14, e3⟩, ⟨e79, e15⟩, -⟩ := id hL
  obtain ⟨n120, nl12, hln, hck, hhd⟩ := id hD
  obtain ⟨l0, l1, l2, l3, l4, l5, l6, l7, l8, l9⟩ := hln i hi.1 hi.2
  unfold hasPq at l4
  have f8 := congrFun e8 i
  have f9 := congrFun e9 i
  have f11 := congrFun e11 i
  have f12 := congrFun e12 i
  have f13 := congrFun e13 i
  have f14 := congrFun e14 i
  have rd : (0 ≤ dt 2 i ∧ dt 2 i < (n : Int)) ∧ σ 59 (dt 2 i) = 1 ∧ (SC 58 n nl σ) 3 (dt 2 i) = σ 61 (dt 2 i) ∧ (SC 58 n nl σ) 4 (dt 2 i) = σ 62 (dt 2 i) ∧ (SC 58 n nl σ) 5 (dt 2 i) = σ 63 (dt 2 i) ∧ (SC 58 n nl σ) 6 (dt 2 i) = σ 64 (dt 2 i) ∧ (SC 58 n nl σ) 7 (dt 2 i) = σ 65 (dt 2 i) ∧ (SC 58 n nl σ) 8 (dt 2 i) = σ 66 (dt 2 i) ∧ (SC 58 n nl σ) 9 (dt 2 i) = σ 67 (dt 2 i) := StG_rd th
  obtain ⟨d1, d2, d3, d4, d5, d6, d7, d8, d9⟩ := rd
  have yr := hy.2.1 _ th
  refine Ct.of rfl (Nat.le_of_ble_eq_true rfl) ?_
  refine x_aload_n (E_X7_repay_0 0 rfl) rfl ?_
  refine x_getR (E_X7_repay_0 1 rfl) fl_X7_31 rfl (by decide) rfl ?_
  refine x_iload_n (E_X7_repay_0 2 rfl) rfl ?_
  refine x_ialde (f := σ 65) (E_X7_repay_0 3 rfl) rfl (by decide) (by omega) rfl ?_
  refine x_iconst (E_X7_repay_0 4 rfl) ?_
  refine x_icmp_ne (E_X7_repay_0 5 rfl) (by omega) (by decide) (fun c1 => ?_) (fun c1 => ?_)
  · refine x_aload_n (E_X7_repay_0 8 rfl) rfl ?_
    refine x_getR (E_X7_repay_0 9 rfl) fl_X7_31 rfl (by decide) rfl ?_
    refine x_iload_n (E_X7_repay_0 10 rfl) rfl ?_
    refine x_iconst (E_X7_repay_0 11 rfl) ?_
    refine x_iast (E_X7_repay_0 12 rfl) rfl (by decide) (by omega) ?_
    refine x_aload_n (E_X7_repay_0 13 rfl) rfl ?_
    refine x_getR (E_X7_repay_0 14 rfl) fl_X7_34 rfl (by decide) rfl ?_
    refine x_iload_n (E_X7_repay_0 15 rfl) rfl ?_
    refine x_iconst (E_X7_repay_0 16 rfl) ?_
    refine x_iast (E_X7_repay_0 17 rfl) rfl (by decide) (by omega) ?_
    refine x_iconst (E_X7_repay_0 18 rfl) ?_
    refine z_iret (E_X7_repay_0 19 rfl) (Or.inr rfl) ?_
    have ee : upq (upq (SC 58 n nl σ) 7 (dt 2 i) (-1)) 8 (dt 2 i) 0 = efS dt hd n (SC 58 n nl σ) i := by rw [efS_4 k]
    refine DoP58.yes (by rw [okS_4 k th]; exact decide_eq_true (by omega)) (by rw [← ee]; exact ((Mid58.rf hL).u7 th).u8 th) (fun x a b => ?_)
    rw [← ee]
    exact (hon x a b).trans (onS_eq rfl rfl rfl)
  · refine x_iconst (E_X7_repay_0 6 rfl) ?_
    refine z_iret (E_X7_repay_0 7 rfl) (Or.inl rfl) ?_
    exact DoP58.no (by rw [okS_4 k th]; exact decide_eq_false (by omega)) (Mid58.rf hL) hon
theorem c_X7_stop_58 {i : Int} (hi : 0 ≤ i ∧ i < (n : Int)) (th : (SC 58 n nl σ) 1 (dt 2 i) = 1) (k : dt 0 i = 5) (hL : LD dt hd n nl σ) (hD : DOk dt hd n nl) (hy : YOk n nl (dt 6) (SC 58 n nl σ)) (hon : ∀ l, 0 ≤ l → l < nl → σ 70 l = onS (SC 58 n nl σ) n l) : CI l G M_X7_stop 0 [vr 58, vi (dt 2 i), vi i] σ (DoP58 dt hd n nl i σ) := by
  obtain ⟨⟨e8, e9, e11, e12, e13, e14, e3⟩, ⟨e79, e15⟩, -⟩ := id hL
  obtain ⟨n120, nl12, hln, hck, hhd⟩ := id hD
  obtain ⟨l0, l1, l2, l3, l4, l5, l6, l7, l8, l9⟩ := hln i hi.1 hi.2
  unfold hasPq at l4
  have f8 := congrFun e8 i
  have f9 := congrFun e9 i
  have f11 := congrFun e11 i
  have f12 := congrFun e12 i
  have f13 := congrFun e13 i
  have f14 := congrFun e14 i
  have rd : (0 ≤ dt 2 i ∧ dt 2 i < (n : Int)) ∧ σ 59 (dt 2 i) = 1 ∧ (SC 58 n nl σ) 3 (dt 2 i) = σ 61 (dt 2 i) ∧ (SC 58 n nl σ) 4 (dt 2 i) = σ 62 (dt 2 i) ∧ (SC 58 n nl σ) 5 (dt 2 i) = σ 63 (dt 2 i) ∧ (SC 58 n nl σ) 6 (dt 2 i) = σ 64 (dt 2 i) ∧ (SC 58 n nl σ) 7 (dt 2 i) = σ 65 (dt 2 i) ∧ (SC 58 n nl σ) 8 (dt 2 i) = σ 66 (dt 2 i) ∧ (SC 58 n nl σ) 9 (dt 2 i) = σ 67 (dt 2 i) := StG_rd th
  obtain ⟨d1, d2, d3, d4, d5, d6, d7, d8, d9⟩ := rd
  have yr := hy.2.1 _ th
  refine Ct.of rfl (Nat.le_of_ble_eq_true rfl) ?_
  refine x_aload_n (E_X7_stop_0 0 rfl) rfl ?_
  refine x_getR (E_X7_stop_0 1 rfl) fl_X7_37 rfl (by decide) rfl ?_
  refine x_iload_n (E_X7_stop_0 2 rfl) rfl ?_
  refine x_ialde (f := σ 67) (E_X7_stop_0 3 rfl) rfl (by decide) (by omega) rfl ?_
  refine x_iconst (E_X7_stop_0 4 rfl) ?_
  refine x_icmp_eq (E_X7_stop_0 5 rfl) (by omega) (by decide) (fun c1 => ?_) (fun c1 => ?_)
  · refine x_aload_n (E_X7_stop_0 8 rfl) rfl ?_
    refine x_getR (E_X7_stop_0 9 rfl) fl_X7_37 rfl (by decide) rfl ?_
    refine x_iload_n (E_X7_stop_0 10 rfl) rfl ?_
    refine x_aload_n (E_X7_stop_0 11 rfl) rfl ?_
    refine x_getR (E_X7_stop_0 12 rfl) fl_X7_53 rfl (by decide) rfl ?_
    refine x_getR (E_X7_stop_0 13 rfl) fl_X7_133 rfl (by decide) rfl ?_
    refine x_iload_n (E_X7_stop_0 14 rfl) rfl ?_
    refine x_ialde (f := σ 12) (E_X7_stop_0 15 rfl) rfl (by decide) (by omega) rfl ?_
    refine x_iast (E_X7_stop_0 16 rfl) rfl (by decide) (by omega) ?_
    refine x_iconst (E_X7_stop_0 17 rfl) ?_
    refine z_iret (E_X7_stop_0 18 rfl) (Or.inr rfl) ?_
    have ee : upq (SC 58 n nl σ) 9 (dt 2 i) (σ 12 i) = efS dt hd n (SC 58 n nl σ) i := by rw [efS_5 k, f12]
    refine DoP58.yes (by rw [okS_5 k th]; exact decide_eq_true (by omega)) (by rw [← ee]; exact (Mid58.rf hL).u9 th) (fun x a b => ?_)
    rw [← ee]
    exact (hon x a b).trans (onS_eq rfl rfl rfl)
  · refine x_iconst (E_X7_stop_0 6 rfl) ?_
    refine z_iret (E_X7_stop_0 7 rfl) (Or.inl rfl) ?_
    exact DoP58.no (by rw [okS_5 k th]; exact decide_eq_false (by omega)) (Mid58.rf hL) hon
theorem c_X7_free_58 {i : Int} (hi : 0 ≤ i ∧ i < (n : Int)) (th : (SC 58 n nl σ) 1 (dt 2 i) = 1) (k : dt 0 i = 6) (hL : LD dt hd n nl σ) (hD : DOk dt hd n nl) (hy : YOk n nl (dt 6) (SC 58 n nl σ)) (hon : ∀ l, 0 ≤ l → l < nl → σ 70 l = onS (SC 58 n nl σ) n l) : CI l G M_X7_free 0 [vr 58, vi (dt 2 i)] σ (DoP58 dt hd n nl i σ) := by
  obtain ⟨⟨e8, e9, e11, e12, e13, e14, e3⟩, ⟨e79, e15⟩, -⟩ := id hL
  obtain ⟨n120, nl12, hln, hck, hhd⟩ := id hD
  obtain ⟨l0, l1, l2, l3, l4, l5, l6, l7, l8, l9⟩ := hln i hi.1 hi.2
  unfold hasPq at l4
  have f8 := congrFun e8 i
  have f9 := congrFun e9 i
  have f11 := congrFun e11 i
  have f12 := congrFun e12 i
  have f13 := congrFun e13 i
  have f14 := congrFun e14 i
  have rd : (0 ≤ dt 2 i ∧ dt 2 i < (n : Int)) ∧ σ 59 (dt 2 i) = 1 ∧ (SC 58 n nl σ) 3 (dt 2 i) = σ 61 (dt 2 i) ∧ (SC 58 n nl σ) 4 (dt 2 i) = σ 62 (dt 2 i) ∧ (SC 58 n nl σ) 5 (dt 2 i) = σ 63 (dt 2 i) ∧ (SC 58 n nl σ) 6 (dt 2 i) = σ 64 (dt 2 i) ∧ (SC 58 n nl σ) 7 (dt 2 i) = σ 65 (dt 2 i) ∧ (SC 58 n nl σ) 8 (dt 2 i) = σ 66 (dt 2 i) ∧ (SC 58 n nl σ) 9 (dt 2 i) = σ 67 (dt 2 i) := StG_rd th
  obtain ⟨d1, d2, d3, d4, d5, d6, d7, d8, d9⟩ := rd
  have yr := hy.2.1 _ th
  refine Ct.of rfl (Nat.le_of_ble_eq_true rfl) ?_
  refine x_aload_n (E_X7_free_0 0 rfl) rfl ?_
  refine x_getR (E_X7_free_0 1 rfl) fl_X7_37 rfl (by decide) rfl ?_
  refine x_iload_n (E_X7_free_0 2 rfl) rfl ?_
  refine x_ialde (f := σ 67) (E_X7_free_0 3 rfl) rfl (by decide) (by omega) rfl ?_
  refine x_iconst (E_X7_free_0 4 rfl) ?_
  refine x_icmp_ne (E_X7_free_0 5 rfl) (by omega) (by decide) (fun c1 => ?_) (fun c1 => ?_)
  · refine x_aload_n (E_X7_free_0 8 rfl) rfl ?_
    refine x_getR (E_X7_free_0 9 rfl) fl_X7_37 rfl (by decide) rfl ?_
    refine x_iload_n (E_X7_free_0 10 rfl) rfl ?_
    refine x_iconst (E_X7_free_0 11 rfl) ?_
    refine x_iast (E_X7_free_0 12 rfl) rfl (by decide) (by omega) ?_
    refine x_iconst (E_X7_free_0 13 rfl) ?_
    refine z_iret (E_X7_free_0 14 rfl) (Or.inr rfl) ?_
    have ee : upq (SC 58 n nl σ) 9 (dt 2 i) (-1) = efS dt hd n (SC 58 n nl σ) i := by rw [efS_6 k]
    refine DoP58.yes (by rw [okS_6 k th]; exact decide_eq_true (by omega)) (by rw [← ee]; exact (Mid58.rf hL).u9 th) (fun x a b => ?_)
    rw [← ee]
    exact (hon x a b).trans (onS_eq rfl rfl rfl)
  · refine x_iconst (E_X7_free_0 6 rfl) ?_
    refine z_iret (E_X7_free_0 7 rfl) (Or.inl rfl) ?_
    exact DoP58.no (by rw [okS_6 k th]; exact decide_eq_false (by omega)) (Mid58.rf hL) hon
theorem c_X7_steal_58 {i : Int} (hi : 0 ≤ i ∧ i < (n : Int)) (th : (SC 58 n nl σ) 1 (dt 2 i) = 1) (k : dt 0 i = 9) (hL : LD dt hd n nl σ) (hD : DOk dt hd n nl) (hy : YOk n nl (dt 6) (SC 58 n nl σ)) (hon : ∀ l, 0 ≤ l → l < nl → σ 70 l = onS (SC 58 n nl σ) n l) : CI l G M_X7_steal 0 [vr 58, vi (dt 2 i), vi i] σ (DoP58 dt hd n nl i σ) := by
  obtain ⟨⟨e8, e9, e11, e12, e13, e14, e3⟩, ⟨e79, e15⟩, -⟩ := id hL
  obtain ⟨n120, nl12, hln, hck, hhd⟩ := id hD
  obtain ⟨l0, l1, l2, l3, l4, l5, l6, l7, l8, l9⟩ := hln i hi.1 hi.2
  unfold hasPq at l4
  have f8 := congrFun e8 i
  have f9 := congrFun e9 i
  have f11 := congrFun e11 i
  have f12 := congrFun e12 i
  have f13 := congrFun e13 i
  have f14 := congrFun e14 i
  have rd : (0 ≤ dt 2 i ∧ dt 2 i < (n : Int)) ∧ σ 59 (dt 2 i) = 1 ∧ (SC 58 n nl σ) 3 (dt 2 i) = σ 61 (dt 2 i) ∧ (SC 58 n nl σ) 4 (dt 2 i) = σ 62 (dt 2 i) ∧ (SC 58 n nl σ) 5 (dt 2 i) = σ 63 (dt 2 i) ∧ (SC 58 n nl σ) 6 (dt 2 i) = σ 64 (dt 2 i) ∧ (SC 58 n nl σ) 7 (dt 2 i) = σ 65 (dt 2 i) ∧ (SC 58 n nl σ) 8 (dt 2 i) = σ 66 (dt 2 i) ∧ (SC 58 n nl σ) 9 (dt 2 i) = σ 67 (dt 2 i) := StG_rd th
  obtain ⟨d1, d2, d3, d4, d5, d6, d7, d8, d9⟩ := rd
  have yr := hy.2.1 _ th
  refine Ct.of rfl (Nat.le_of_ble_eq_true rfl) ?_
  refine x_aload_n (E_X7_steal_0 0 rfl) rfl ?_
  refine x_getR (E_X7_steal_0 1 rfl) fl_X7_25 rfl (by decide) rfl ?_
  refine x_iload_n (E_X7_steal_0 2 rfl) rfl ?_
  refine x_ialde (f := σ 63) (E_X7_steal_0 3 rfl) rfl (by decide) (by omega) rfl ?_
  refine x_aload_n (E_X7_steal_0 4 rfl) rfl ?_
  refine x_getR (E_X7_steal_0 5 rfl) fl_X7_53 rfl (by decide) rfl ?_
  refine x_getR (E_X7_steal_0 6 rfl) fl_X7_133 rfl (by decide) rfl ?_
  refine x_iload_n (E_X7_steal_0 7 rfl) rfl ?_
  refine x_ialde (f := σ 12) (E_X7_steal_0 8 rfl) rfl (by decide) (by omega) rfl ?_
  refine x_icmp_ne (E_X7_steal_0 9 rfl) (by omega) (by omega) (fun c1 => ?_) (fun c1 => ?_)
  · refine x_aload_n (E_X7_steal_0 12 rfl) rfl ?_
    refine x_getR (E_X7_steal_0 13 rfl) fl_X7_25 rfl (by decide) rfl ?_
    refine x_iload_n (E_X7_steal_0 14 rfl) rfl ?_
    refine x_aload_n (E_X7_steal_0 15 rfl) rfl ?_
    refine x_getR (E_X7_steal_0 16 rfl) fl_X7_53 rfl (by decide) rfl ?_
    refine x_getR (E_X7_steal_0 17 rfl) fl_X7_133 rfl (by decide) rfl ?_
    refine x_iload_n (E_X7_steal_0 18 rfl) rfl ?_
    refine x_ialde (f := σ 12) (E_X7_steal_0 19 rfl) rfl (by decide) (by omega) rfl ?_
    refine x_iast (E_X7_steal_0 20 rfl) rfl (by decide) (by omega) ?_
    refine x_iconst (E_X7_steal_0 21 rfl) ?_
    refine z_iret (E_X7_steal_0 22 rfl) (Or.inr rfl) ?_
    have ee : upq (SC 58 n nl σ) 5 (dt 2 i) (σ 12 i) = efS dt hd n (SC 58 n nl σ) i := by rw [efS_9 k, f12]
    refine DoP58.yes (by rw [okS_9 k th]; exact decide_eq_true (by omega)) (by rw [← ee]; exact (Mid58.rf hL).u5 th) (fun x a b => ?_)
    rw [← ee]
    exact (hon x a b).trans (onS_eq rfl rfl rfl)
  · refine x_iconst (E_X7_steal_0 10 rfl) ?_
    refine z_iret (E_X7_steal_0 11 rfl) (Or.inl rfl) ?_
    exact DoP58.no (by rw [okS_9 k th]; exact decide_eq_false (by omega)) (Mid58.rf hL) hon
set_option maxHeartbeats 1000000 in
theorem c_X7_divide_58 {i : Int} (hi : 0 ≤ i ∧ i < (n : Int)) (th : (SC 58 n nl σ) 1 (dt 2 i) = 1) (k : dt 0 i = 2) (h0 : (SC 58 n nl σ) 1 i = 0) (hL : LD dt hd n nl σ) (hD : DOk dt hd n nl) (hy : YOk n nl (dt 6) (SC 58 n nl σ)) (hon : ∀ l, 0 ≤ l → l < nl → σ 70 l = onS (SC 58 n nl σ) n l) : CI l G M_X7_divide 1 [vr 58, vi (dt 2 i), vi i] σ (DoP58 dt hd n nl i σ) := by
  obtain ⟨⟨e8, e9, e11, e12, e13, e14, e3⟩, ⟨e79, e15⟩, -⟩ := id hL
  obtain ⟨n120, nl12, hln, hck, hhd⟩ := id hD
  obtain ⟨l0, l1, l2, l3, l4, l5, l6, l7, l8, l9⟩ := hln i hi.1 hi.2
  unfold hasPq at l4
  have f8 := congrFun e8 i
  have f9 := congrFun e9 i
  have f11 := congrFun e11 i
  have f12 := congrFun e12 i
  have f13 := congrFun e13 i
  have f14 := congrFun e14 i
  have rd : (0 ≤ dt 2 i ∧ dt 2 i < (n : Int)) ∧ σ 59 (dt 2 i) = 1 ∧ (SC 58 n nl σ) 3 (dt 2 i) = σ 61 (dt 2 i) ∧ (SC 58 n nl σ) 4 (dt 2 i) = σ 62 (dt 2 i) ∧ (SC 58 n nl σ) 5 (dt 2 i) = σ 63 (dt 2 i) ∧ (SC 58 n nl σ) 6 (dt 2 i) = σ 64 (dt 2 i) ∧ (SC 58 n nl σ) 7 (dt 2 i) = σ 65 (dt 2 i) ∧ (SC 58 n nl σ) 8 (dt 2 i) = σ 66 (dt 2 i) ∧ (SC 58 n nl σ) 9 (dt 2 i) = σ 67 (dt 2 i) := StG_rd th
  obtain ⟨d1, d2, d3, d4, d5, d6, d7, d8, d9⟩ := rd
  have yr := hy.2.1 _ th
  have wi : dt 2 i ≠ i := by omega
  refine Ct.of rfl (Nat.le_of_ble_eq_true rfl) ?_
  refine x_aload_n (E_X7_divide_0 0 rfl) rfl ?_
  refine x_getR (E_X7_divide_0 1 rfl) fl_X7_22 rfl (by decide) rfl ?_
  refine x_iload_n (E_X7_divide_0 2 rfl) rfl ?_
  refine x_ialde (f := σ 62) (E_X7_divide_0 3 rfl) rfl (by decide) (by omega) rfl ?_
  refine x_aload_n (E_X7_divide_0 4 rfl) rfl ?_
  refine x_getR (E_X7_divide_0 5 rfl) fl_X7_53 rfl (by decide) rfl ?_
  refine x_getR (E_X7_divide_0 6 rfl) fl_X7_130 rfl (by decide) rfl ?_
  refine x_iload_n (E_X7_divide_0 7 rfl) rfl ?_
  refine x_ialde (f := σ 14) (E_X7_divide_0 8 rfl) rfl (by decide) (by omega) rfl ?_
  refine x_icmp_le (E_X7_divide_0 9 rfl) (by omega) (by omega) (fun c1 => ?_) (fun c1 => ?_)
  · refine x_iconst (E_X7_divide_0 14 rfl) ?_
    refine z_iret (E_X7_divide_0 15 rfl) (Or.inl rfl) ?_
    exact DoP58.no (by rw [okS_2 k th]; exact decide_eq_false (by omega)) (Mid58.rf hL) hon
  · refine x_aload_n (E_X7_divide_0 10 rfl) rfl ?_
    refine x_iload_n (E_X7_divide_0 11 rfl) rfl ?_
    refine z_callVi (E_X7_divide_0 12 rfl) ml_X7_156 mv_X7_isBound rfl (by decide) (by decide) (c_X7_isBound_58 (by omega) (by omega) (by omega)) (by decide) rfl rfl (Nat.le_of_ble_eq_true rfl) (fun z9 τ9 h9 => ?_)
    obtain ⟨rfl, ⟨rfl, c2⟩ | ⟨rfl, c2⟩⟩ := h9
    · refine x_if_eq (E_X7_divide_0 13 rfl) (by decide) (fun c9 => absurd c9 (by decide)) (fun _ => ?_)
      refine x_iconst (E_X7_divide_0 14 rfl) ?_
      refine z_iret (E_X7_divide_0 15 rfl) (Or.inl rfl) ?_
      exact DoP58.no (by rw [okS_2 k th]; exact decide_eq_false (by omega)) (Mid58.rf hL) hon
    · refine x_if_eq (E_X7_divide_0 13 rfl) (by decide) (fun _ => ?_) (fun c9 => absurd (by decide) c9)
      refine x_aload_n (E_X7_divide_0 16 rfl) rfl ?_
      refine x_getR (E_X7_divide_0 17 rfl) fl_X7_22 rfl (by decide) rfl ?_
      refine x_iload_n (E_X7_divide_0 18 rfl) rfl ?_
      refine x_dup2 (E_X7_divide_0 19 rfl) ?_
      refine x_ialde (f := σ 62) (E_X7_divide_0 20 rfl) rfl (by decide) (by omega) rfl ?_
      refine x_aload_n (E_X7_divide_0 21 rfl) rfl ?_
      refine x_getR (E_X7_divide_0 22 rfl) fl_X7_53 rfl (by decide) rfl ?_
      refine x_getR (E_X7_divide_0 23 rfl) fl_X7_130 rfl (by decide) rfl ?_
      refine x_iload_n (E_X7_divide_0 24 rfl) rfl ?_
      refine x_ialde (f := σ 14) (E_X7_divide_0 25 rfl) rfl (by decide) (by omega) rfl ?_
      refine x_isub (E_X7_divide_0 26 rfl) ?_
      refine x_iast (E_X7_divide_0 27 rfl) rfl (by decide) (by omega) ?_
      refine x_aload_n (E_X7_divide_0 28 rfl) rfl ?_
      refine x_iload_n (E_X7_divide_0 29 rfl) rfl ?_
      refine x_aload_n (E_X7_divide_0 30 rfl) rfl ?_
      refine x_getR (E_X7_divide_0 31 rfl) fl_X7_18 rfl (by decide) rfl ?_
      refine x_iload_n (E_X7_divide_0 32 rfl) rfl ?_
      refine x_ialde (f := σ 61) (E_X7_divide_0 33 rfl) rfl (by decide) (by omega) rfl ?_
      refine x_aload_n (E_X7_divide_0 34 rfl) rfl ?_
      refine x_getR (E_X7_divide_0 35 rfl) fl_X7_53 rfl (by decide) rfl ?_
      refine x_getR (E_X7_divide_0 36 rfl) fl_X7_130 rfl (by decide) rfl ?_
      refine x_iload_n (E_X7_divide_0 37 rfl) rfl ?_
      refine x_ialde (f := σ 14) (E_X7_divide_0 38 rfl) rfl (by decide) (by omega) rfl ?_
      refine x_aload_n (E_X7_divide_0 39 rfl) rfl ?_
      refine x_getR (E_X7_divide_0 40 rfl) fl_X7_25 rfl (by decide) rfl ?_
      refine x_iload_n (E_X7_divide_0 41 rfl) rfl ?_
      refine x_ialde (f := σ 63) (E_X7_divide_0 42 rfl) rfl (by decide) (by omega) rfl ?_
      refine x_aload_n (E_X7_divide_0 43 rfl) rfl ?_
      refine x_getR (E_X7_divide_0 44 rfl) fl_X7_28 rfl (by decide) rfl ?_
      refine x_iload_n (E_X7_divide_0 45 rfl) rfl ?_
      refine x_ialde (f := σ 64) (E_X7_divide_0 46 rfl) rfl (by decide) (by omega) rfl ?_
      refine z_callVv (E_X7_divide_0 47 rfl) ml_X7_136 mv_X7_make rfl (by decide) (by decide) (c_X7_make_58 (by omega)) (by decide) rfl rfl (Nat.le_of_ble_eq_true rfl) (fun τ9 h9 => ?_)
      subst h9
      refine x_iconst (E_X7_divide_0 48 rfl) ?_
      refine z_iret (E_X7_divide_0 49 rfl) (Or.inr rfl) ?_
      have ee : mkS (upq (SC 58 n nl σ) 4 (dt 2 i) (σ 62 (dt 2 i) - σ 14 i)) i (σ 61 (dt 2 i)) (σ 14 i) (σ 63 (dt 2 i)) (σ 64 (dt 2 i)) = efS dt hd n (SC 58 n nl σ) i := by rw [efS_2 k, d3, d4, d5, d6, f14]
      refine DoP58.yes (by rw [okS_2 k th]; exact decide_eq_true (by omega)) (by rw [← ee]; exact ((Mid58.rf hL).u4 th).mk hi) (fun x a b => ?_)
      rw [← ee, onS_mk hi (by show (SC 58 n nl σ) 1 i ≠ 1; omega), onS_u4 d1 th, d3, d4]
      have := hon x a b
      split <;> omega
set_option maxHeartbeats 1000000 in
theorem c_X7_handOut_58 {i : Int} (hi : 0 ≤ i ∧ i < (n : Int)) (th : (SC 58 n nl σ) 1 (dt 2 i) = 1) (k : dt 0 i = 7) (hL : LD dt hd n nl σ) (hD : DOk dt hd n nl) (hy : YOk n nl (dt 6) (SC 58 n nl σ)) (hon : ∀ l, 0 ≤ l → l < nl → σ 70 l = onS (SC 58 n nl σ) n l) : CI l G M_X7_handOut 1 [vr 58, vi (dt 2 i), vi i] σ (DoP58 dt hd n nl i σ) := by
  obtain ⟨⟨e8, e9, e11, e12, e13, e14, e3⟩, ⟨e79, e15⟩, -⟩ := id hL
  obtain ⟨n120, nl12, hln, hck, hhd⟩ := id hD
  obtain ⟨l0, l1, l2, l3, l4, l5, l6, l7, l8, l9⟩ := hln i hi.1 hi.2
  unfold hasPq at l4
  have f8 := congrFun e8 i
  have f9 := congrFun e9 i
  have f11 := congrFun e11 i
  have f12 := congrFun e12 i
  have f13 := congrFun e13 i
  have f14 := congrFun e14 i
  have rd : (0 ≤ dt 2 i ∧ dt 2 i < (n : Int)) ∧ σ 59 (dt 2 i) = 1 ∧ (SC 58 n nl σ) 3 (dt 2 i) = σ 61 (dt 2 i) ∧ (SC 58 n nl σ) 4 (dt 2 i) = σ 62 (dt 2 i) ∧ (SC 58 n nl σ) 5 (dt 2 i) = σ 63 (dt 2 i) ∧ (SC 58 n nl σ) 6 (dt 2 i) = σ 64 (dt 2 i) ∧ (SC 58 n nl σ) 7 (dt 2 i) = σ 65 (dt 2 i) ∧ (SC 58 n nl σ) 8 (dt 2 i) = σ 66 (dt 2 i) ∧ (SC 58 n nl σ) 9 (dt 2 i) = σ 67 (dt 2 i) := StG_rd th
  obtain ⟨d1, d2, d3, d4, d5, d6, d7, d8, d9⟩ := rd
  have yr := hy.2.1 _ th
  have hw : 0 ≤ σ 61 (dt 2 i) ∧ σ 61 (dt 2 i) < nl := by omega
  have o4 := th_rg_58 hw hD hy
  have t10 : (SC 58 n nl σ) 10 (σ 61 (dt 2 i)) = σ 68 (σ 61 (dt 2 i)) := StG_10 hw
  refine Ct.of rfl (Nat.le_of_ble_eq_true rfl) ?_
  refine x_aload_n (E_X7_handOut_0 0 rfl) rfl ?_
  refine x_getR (E_X7_handOut_0 1 rfl) fl_X7_18 rfl (by decide) rfl ?_
  refine x_iload_n (E_X7_handOut_0 2 rfl) rfl ?_
  refine x_ialde (f := σ 61) (E_X7_handOut_0 3 rfl) rfl (by decide) (by omega) rfl ?_
  refine x_istore_n (E_X7_handOut_0 4 rfl) rfl ?_
  refine x_aload_n (E_X7_handOut_0 5 rfl) rfl ?_
  refine x_getR (E_X7_handOut_0 6 rfl) fl_X7_53 rfl (by decide) rfl ?_
  refine x_getR (E_X7_handOut_0 7 rfl) fl_X7_130 rfl (by decide) rfl ?_
  refine x_iload_n (E_X7_handOut_0 8 rfl) rfl ?_
  refine x_ialde (f := σ 14) (E_X7_handOut_0 9 rfl) rfl (by decide) (by omega) rfl ?_
  refine x_istore (E_X7_handOut_0 10 rfl) rfl ?_
  refine x_aload_n (E_X7_handOut_0 11 rfl) rfl ?_
  refine x_getR (E_X7_handOut_0 12 rfl) fl_X7_22 rfl (by decide) rfl ?_
  refine x_iload_n (E_X7_handOut_0 13 rfl) rfl ?_
  refine x_ialde (f := σ 62) (E_X7_handOut_0 14 rfl) rfl (by decide) (by omega) rfl ?_
  refine x_iload (E_X7_handOut_0 15 rfl) rfl ?_
  refine x_icmp_lt (E_X7_handOut_0 16 rfl) (by omega) (by omega) (fun c1 => ?_) (fun c1 => ?_)
  · refine x_iconst (E_X7_handOut_0 26 rfl) ?_
    refine z_iret (E_X7_handOut_0 27 rfl) (Or.inl rfl) ?_
    exact DoP58.no (by rw [okS_7 k th, d3]; exact decide_eq_false (by omega)) (Mid58.rf hL) hon
  · refine x_aload_n (E_X7_handOut_0 17 rfl) rfl ?_
    refine x_iload_n (E_X7_handOut_0 18 rfl) rfl ?_
    refine z_callVi (E_X7_handOut_0 19 rfl) ml_X7_144 mv_X7_thereOf rfl (by decide) (by decide) (c_X7_thereOf_58 hw hL hD) (by decide) rfl rfl (Nat.le_of_ble_eq_true rfl) (fun z9 τ9 h9 => ?_)
    obtain ⟨rfl, rfl⟩ := h9
    refine x_iload (E_X7_handOut_0 20 rfl) rfl ?_
    refine x_icmp_lt (E_X7_handOut_0 21 rfl) (by omega) (by omega) (fun c2 => ?_) (fun c2 => ?_)
    · refine x_iconst (E_X7_handOut_0 26 rfl) ?_
      refine z_iret (E_X7_handOut_0 27 rfl) (Or.inl rfl) ?_
      exact DoP58.no (by rw [okS_7 k th, d3]; exact decide_eq_false (by omega)) (Mid58.rf hL) hon
    · refine x_aload_n (E_X7_handOut_0 22 rfl) rfl ?_
      refine x_iload_n (E_X7_handOut_0 23 rfl) rfl ?_
      refine z_callVi (E_X7_handOut_0 24 rfl) ml_X7_156 mv_X7_isBound rfl (by decide) (by decide) (c_X7_isBound_58 (by omega) (by omega) (by omega)) (by decide) rfl rfl (Nat.le_of_ble_eq_true rfl) (fun z9 τ9 h9 => ?_)
      obtain ⟨rfl, ⟨rfl, c3⟩ | ⟨rfl, c3⟩⟩ := h9
      · refine x_if_eq (E_X7_handOut_0 25 rfl) (by decide) (fun c9 => absurd c9 (by decide)) (fun _ => ?_)
        refine x_iconst (E_X7_handOut_0 26 rfl) ?_
        refine z_iret (E_X7_handOut_0 27 rfl) (Or.inl rfl) ?_
        exact DoP58.no (by rw [okS_7 k th, d3]; exact decide_eq_false (by omega)) (Mid58.rf hL) hon
      · refine x_if_eq (E_X7_handOut_0 25 rfl) (by decide) (fun _ => ?_) (fun c9 => absurd (by decide) c9)
        refine x_aload_n (E_X7_handOut_0 28 rfl) rfl ?_
        refine x_getR (E_X7_handOut_0 29 rfl) fl_X7_22 rfl (by decide) rfl ?_
        refine x_iload_n (E_X7_handOut_0 30 rfl) rfl ?_
        refine x_dup2 (E_X7_handOut_0 31 rfl) ?_
        refine x_ialde (f := σ 62) (E_X7_handOut_0 32 rfl) rfl (by decide) (by omega) rfl ?_
        refine x_iload (E_X7_handOut_0 33 rfl) rfl ?_
        refine x_isub (E_X7_handOut_0 34 rfl) ?_
        refine x_iast (E_X7_handOut_0 35 rfl) rfl (by decide) (by omega) ?_
        refine x_aload_n (E_X7_handOut_0 36 rfl) rfl ?_
        refine x_getR (E_X7_handOut_0 37 rfl) fl_X7_46 rfl (by decide) rfl ?_
        refine x_iload_n (E_X7_handOut_0 38 rfl) rfl ?_
        refine x_dup2 (E_X7_handOut_0 39 rfl) ?_
        refine x_ialde (f := σ 70) (E_X7_handOut_0 40 rfl) rfl (by decide) (by omega) rfl ?_
        refine x_iload (E_X7_handOut_0 41 rfl) rfl ?_
        refine x_isub (E_X7_handOut_0 42 rfl) ?_
        refine x_iast (E_X7_handOut_0 43 rfl) rfl (by decide) (by omega) ?_
        refine x_aload_n (E_X7_handOut_0 44 rfl) rfl ?_
        refine x_getR (E_X7_handOut_0 45 rfl) fl_X7_40 rfl (by decide) rfl ?_
        refine x_iload_n (E_X7_handOut_0 46 rfl) rfl ?_
        refine x_dup2 (E_X7_handOut_0 47 rfl) ?_
        refine x_ialde (f := σ 68) (E_X7_handOut_0 48 rfl) rfl (by decide) (by omega) rfl ?_
        refine x_iload (E_X7_handOut_0 49 rfl) rfl ?_
        refine x_iadd (E_X7_handOut_0 50 rfl) ?_
        refine x_iast (E_X7_handOut_0 51 rfl) rfl (by decide) (by omega) ?_
        refine x_iconst (E_X7_handOut_0 52 rfl) ?_
        refine z_iret (E_X7_handOut_0 53 rfl) (Or.inr rfl) ?_
        have ee : upq (upq (SC 58 n nl σ) 4 (dt 2 i) (σ 62 (dt 2 i) - σ 14 i)) 10 (σ 61 (dt 2 i)) (σ 68 (σ 61 (dt 2 i)) + σ 14 i) = efS dt hd n (SC 58 n nl σ) i := by rw [efS_7 k, d3, d4, f14, t10]
        refine DoP58.yes (by rw [okS_7 k th, d3]; exact decide_eq_true (by omega)) (by rw [← ee]; exact (((Mid58.rf hL).u4 th).on).u10 hw) (fun x a b => ?_)
        rw [← ee]
        refine Eq.trans ?_ (onS_eq (y := upq (SC 58 n nl σ) 4 (dt 2 i) (σ 62 (dt 2 i) - σ 14 i)) rfl rfl rfl)
        rw [onS_u4 d1 th, d3, d4]
        have := hon x a b
        show (if x = σ 61 (dt 2 i) then σ 70 (σ 61 (dt 2 i)) - σ 14 i else σ 70 x) = _
        by_cases e : x = σ 61 (dt 2 i)
        · rw [if_pos e, if_pos e.symm, ← e]; omega
        · rw [if_neg e, if_neg (fun h => e h.symm)]; omega
