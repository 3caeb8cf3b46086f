/-! plan: the model puts a lot on a floor -/
variable {l : Launch} {G : GC} {σ : Nat → Int → Int}

theorem c_X11_put {th : Int → Int} {x f b : Int} (hx : 0 ≤ x ∧ x < 12) (hf : 0 ≤ f ∧ f ≤ 5) (hso : 0 ≤ σ 115 x ∧ σ 115 x ≤ 3) (hT : CI l G M_X11_there 0 [vr 114, vi x] σ (IP (th x) σ)) : CV l G M_X11_put 1 [vr 114, vi x, vi f, vi b] σ (fun τ => τ = upq (upq σ 172 f (σ 172 f + b * th x)) 173 (4 * f + σ 115 x) (σ 173 (4 * f + σ 115 x) + b)) := by
  refine Ct.of rfl (Nat.le_of_ble_eq_true rfl) ?_
  refine x_aload_n (E_X11_put_0 0 rfl) rfl ?_
  refine x_getR (E_X11_put_0 1 rfl) fl_X11_186 rfl (by decide) rfl ?_
  refine x_iload_n (E_X11_put_0 2 rfl) rfl ?_
  refine x_dup2 (E_X11_put_0 3 rfl) ?_
  refine x_ialde (f := σ 172) (E_X11_put_0 4 rfl) rfl (by decide) (by omega) rfl ?_
  refine x_iload_n (E_X11_put_0 5 rfl) rfl ?_
  refine x_aload_n (E_X11_put_0 6 rfl) rfl ?_
  refine x_iload_n (E_X11_put_0 7 rfl) rfl ?_
  refine z_callVi (E_X11_put_0 8 rfl) ml_X11_348 mv_X11_there rfl (by decide) (by decide) hT (by decide) rfl rfl (Nat.le_of_ble_eq_true rfl) (fun z9 τ9 h9 => ?_)
  obtain ⟨rfl, rfl⟩ := h9
  refine x_imul (E_X11_put_0 9 rfl) ?_
  refine x_iadd (E_X11_put_0 10 rfl) ?_
  refine x_iast (E_X11_put_0 11 rfl) rfl (by decide) (by omega) ?_
  refine x_aload_n (E_X11_put_0 12 rfl) rfl ?_
  refine x_getR (E_X11_put_0 13 rfl) fl_X11_189 rfl (by decide) rfl ?_
  refine x_iconst (E_X11_put_0 14 rfl) ?_
  refine x_iload_n (E_X11_put_0 15 rfl) rfl ?_
  refine x_imul (E_X11_put_0 16 rfl) ?_
  refine x_aload_n (E_X11_put_0 17 rfl) rfl ?_
  refine x_getR (E_X11_put_0 18 rfl) fl_X11_7 rfl (by decide) rfl ?_
  refine x_iload_n (E_X11_put_0 19 rfl) rfl ?_
  refine x_ialde (f := σ 115) (E_X11_put_0 20 rfl) rfl (by decide) (by omega) rfl ?_
  refine x_iadd (E_X11_put_0 21 rfl) ?_
  refine x_dup2 (E_X11_put_0 22 rfl) ?_
  refine x_ialde (f := σ 173) (E_X11_put_0 23 rfl) rfl (by decide) (by omega) rfl ?_
  refine x_iload_n (E_X11_put_0 24 rfl) rfl ?_
  refine x_iadd (E_X11_put_0 25 rfl) ?_
  refine x_iast (E_X11_put_0 26 rfl) rfl (by decide) (by omega) ?_
  refine z_vret (E_X11_put_0 27 rfl) trivial ?_
  rfl

