/-! frames; the relation depends on what is kept alone -/
/-- cells outside cs are as they were -/
def Fr (cs : List Nat) (σ τ : Nat → Int → Int) : Prop := ∀ k, k ∉ cs → τ k = σ k
/-- fields of object k outside js are as they were -/
def Fo (k : Nat) (js : List Int) (σ τ : Nat → Int → Int) : Prop := ∀ j, j ∉ js → τ k j = σ k j
theorem Fr.rf {cs : List Nat} {σ : Nat → Int → Int} : Fr cs σ σ := fun _ _ => rfl
theorem Fo.rf {k : Nat} {js : List Int} {σ : Nat → Int → Int} : Fo k js σ σ := fun _ _ => rfl
theorem Fr.sub {cs ds : List Nat} {σ τ : Nat → Int → Int} (h : Fr cs σ τ) (hs : ∀ k ∈ cs, k ∈ ds) : Fr ds σ τ := fun k hk => h k (fun q => hk (hs k q))
theorem Fo.sub {k : Nat} {cs ds : List Int} {σ τ : Nat → Int → Int} (h : Fo k cs σ τ) (hs : ∀ j ∈ cs, j ∈ ds) : Fo k ds σ τ := fun j hj => h j (fun q => hj (hs j q))
theorem Fr.trans {cs ds es : List Nat} {σ τ υ : Nat → Int → Int} (h1 : Fr cs σ τ) (h2 : Fr ds τ υ) (a : ∀ k ∈ cs, k ∈ es) (b : ∀ k ∈ ds, k ∈ es) : Fr es σ υ := fun k hk => (h2 k (fun q => hk (b k q))).trans (h1 k (fun q => hk (a k q)))
theorem Fo.trans {k : Nat} {cs ds es : List Int} {σ τ υ : Nat → Int → Int} (h1 : Fo k cs σ τ) (h2 : Fo k ds τ υ) (a : ∀ j ∈ cs, j ∈ es) (b : ∀ j ∈ ds, j ∈ es) : Fo k es σ υ := fun j hj => (h2 j (fun q => hj (b j q))).trans (h1 j (fun q => hj (a j q)))
theorem Fo.of {k : Nat} {js : List Int} {cs : List Nat} {σ τ : Nat → Int → Int} (h : Fr cs σ τ) (hk : k ∉ cs) : Fo k js σ τ := fun j _ => by rw [h k hk]
theorem Fr.up {cs : List Nat} {k : Nat} {i v : Int} {σ τ : Nat → Int → Int} (h : Fr cs σ τ) (hk : k ∈ cs) : Fr cs σ (upq τ k i v) := fun a ha => by rw [upq_ne (show a ≠ k from fun e => ha (by rw [e]; exact hk))]; exact h a ha
theorem Fo.up {js : List Int} {k : Nat} {i v : Int} {σ τ : Nat → Int → Int} (h : Fo k js σ τ) (hk : i ∈ js) : Fo k js σ (upq τ k i v) := fun a ha => by rw [upq_eq, if_neg (show ¬ a = i from fun e => ha (by rw [e]; exact hk))]; exact h a ha
theorem Fo.un {js : List Int} {k k' : Nat} {i v : Int} {σ τ : Nat → Int → Int} (h : Fo k js σ τ) (hk : k ≠ k') : Fo k js σ (upq τ k' i v) := fun a ha => by rw [upq_ne hk]; exact h a ha
/-- a whole cell anew -/
def setc (σ : Nat → Int → Int) (k : Nat) (f : Int → Int) : Nat → Int → Int := fun a => if a = k then f else σ a
theorem setc_eq {σ : Nat → Int → Int} {k : Nat} {f : Int → Int} : setc σ k f k = f := if_pos rfl
theorem setc_ne {σ : Nat → Int → Int} {k a : Nat} {f : Int → Int} (h : a ≠ k) : setc σ k f a = σ a := if_neg h
def PCa : List Nat := [2, 3, 4, 5, 6, 115, 116, 117, 119, 120, 105, 121, 8, 9, 10, 11, 12, 13, 14, 122, 123, 124, 125, 126, 127, 128, 15, 18, 19, 133, 134, 21, 22, 23, 24, 25, 26, 27, 28, 30, 31, 32, 33, 34, 35, 36, 37, 135, 136, 137, 38, 42, 138, 75, 76, 77, 78, 155, 156, 157, 158, 80, 81, 82, 83, 84, 85, 86, 87, 159, 89, 90, 91, 92, 160, 97, 98, 99, 162, 163, 164, 101, 167, 106, 168]
def PCo : List (Nat × Int) := [(0, 0), (114, 0), (1, 5), (114, 1), (7, 9), (114, 9), (17, 8), (114, 22), (41, 1), (114, 29), (41, 6), (114, 32), (74, 4), (114, 54), (88, 7), (114, 60), (96, 4), (114, 63)]
set_option maxRecDepth 100000 in
theorem RR_of {σ τ : Nat → Int → Int} (hR : RR σ) (ha : ∀ k ∈ PCa, τ k = σ k) (ho : ∀ q ∈ PCo, τ q.1 q.2 = σ q.1 q.2) (hc : RCache (τ 17 7) (σ 17 8) (σ 18) (σ 19) (cdq σ) (vlq σ) (τ 40)) : RR τ := by
  have a2 : τ 2 = σ 2 := ha 2 (by decide)
  have a3 : τ 3 = σ 3 := ha 3 (by decide)
  have a4 : τ 4 = σ 4 := ha 4 (by decide)
  have a5 : τ 5 = σ 5 := ha 5 (by decide)
  have a6 : τ 6 = σ 6 := ha 6 (by decide)
  have a115 : τ 115 = σ 115 := ha 115 (by decide)
  have a116 : τ 116 = σ 116 := ha 116 (by decide)
  have a117 : τ 117 = σ 117 := ha 117 (by decide)
  have a119 : τ 119 = σ 119 := ha 119 (by decide)
  have a120 : τ 120 = σ 120 := ha 120 (by decide)
  have a105 : τ 105 = σ 105 := ha 105 (by decide)
  have a121 : τ 121 = σ 121 := ha 121 (by decide)
  have a8 : τ 8 = σ 8 := ha 8 (by decide)
  have a9 : τ 9 = σ 9 := ha 9 (by decide)
  have a10 : τ 10 = σ 10 := ha 10 (by decide)
  have a11 : τ 11 = σ 11 := ha 11 (by decide)
  have a12 : τ 12 = σ 12 := ha 12 (by decide)
  have a13 : τ 13 = σ 13 := ha 13 (by decide)
  have a14 : τ 14 = σ 14 := ha 14 (by decide)
  have a122 : τ 122 = σ 122 := ha 122 (by decide)
  have a123 : τ 123 = σ 123 := ha 123 (by decide)
  have a124 : τ 124 = σ 124 := ha 124 (by decide)
  have a125 : τ 125 = σ 125 := ha 125 (by decide)
  have a126 : τ 126 = σ 126 := ha 126 (by decide)
  have a127 : τ 127 = σ 127 := ha 127 (by decide)
  have a128 : τ 128 = σ 128 := ha 128 (by decide)
  have a15 : τ 15 = σ 15 := ha 15 (by decide)
  have a18 : τ 18 = σ 18 := ha 18 (by decide)
  have a19 : τ 19 = σ 19 := ha 19 (by decide)
  have a133 : τ 133 = σ 133 := ha 133 (by decide)
  have a134 : τ 134 = σ 134 := ha 134 (by decide)
  have a21 : τ 21 = σ 21 := ha 21 (by decide)
  have a22 : τ 22 = σ 22 := ha 22 (by decide)
  have a23 : τ 23 = σ 23 := ha 23 (by decide)
  have a24 : τ 24 = σ 24 := ha 24 (by decide)
  have a25 : τ 25 = σ 25 := ha 25 (by decide)
  have a26 : τ 26 = σ 26 := ha 26 (by decide)
  have a27 : τ 27 = σ 27 := ha 27 (by decide)
  have a28 : τ 28 = σ 28 := ha 28 (by decide)
  have a30 : τ 30 = σ 30 := ha 30 (by decide)
  have a31 : τ 31 = σ 31 := ha 31 (by decide)
  have a32 : τ 32 = σ 32 := ha 32 (by decide)
  have a33 : τ 33 = σ 33 := ha 33 (by decide)
  have a34 : τ 34 = σ 34 := ha 34 (by decide)
  have a35 : τ 35 = σ 35 := ha 35 (by decide)
  have a36 : τ 36 = σ 36 := ha 36 (by decide)
  have a37 : τ 37 = σ 37 := ha 37 (by decide)
  have a135 : τ 135 = σ 135 := ha 135 (by decide)
  have a136 : τ 136 = σ 136 := ha 136 (by decide)
  have a137 : τ 137 = σ 137 := ha 137 (by decide)
  have a38 : τ 38 = σ 38 := ha 38 (by decide)
  have a42 : τ 42 = σ 42 := ha 42 (by decide)
  have a138 : τ 138 = σ 138 := ha 138 (by decide)
  have a75 : τ 75 = σ 75 := ha 75 (by decide)
  have a76 : τ 76 = σ 76 := ha 76 (by decide)
  have a77 : τ 77 = σ 77 := ha 77 (by decide)
  have a78 : τ 78 = σ 78 := ha 78 (by decide)
  have a155 : τ 155 = σ 155 := ha 155 (by decide)
  have a156 : τ 156 = σ 156 := ha 156 (by decide)
  have a157 : τ 157 = σ 157 := ha 157 (by decide)
  have a158 : τ 158 = σ 158 := ha 158 (by decide)
  have a80 : τ 80 = σ 80 := ha 80 (by decide)
  have a81 : τ 81 = σ 81 := ha 81 (by decide)
  have a82 : τ 82 = σ 82 := ha 82 (by decide)
  have a83 : τ 83 = σ 83 := ha 83 (by decide)
  have a84 : τ 84 = σ 84 := ha 84 (by decide)
  have a85 : τ 85 = σ 85 := ha 85 (by decide)
  have a86 : τ 86 = σ 86 := ha 86 (by decide)
  have a87 : τ 87 = σ 87 := ha 87 (by decide)
  have a159 : τ 159 = σ 159 := ha 159 (by decide)
  have a89 : τ 89 = σ 89 := ha 89 (by decide)
  have a90 : τ 90 = σ 90 := ha 90 (by decide)
  have a91 : τ 91 = σ 91 := ha 91 (by decide)
  have a92 : τ 92 = σ 92 := ha 92 (by decide)
  have a160 : τ 160 = σ 160 := ha 160 (by decide)
  have a97 : τ 97 = σ 97 := ha 97 (by decide)
  have a98 : τ 98 = σ 98 := ha 98 (by decide)
  have a99 : τ 99 = σ 99 := ha 99 (by decide)
  have a162 : τ 162 = σ 162 := ha 162 (by decide)
  have a163 : τ 163 = σ 163 := ha 163 (by decide)
  have a164 : τ 164 = σ 164 := ha 164 (by decide)
  have a101 : τ 101 = σ 101 := ha 101 (by decide)
  have a167 : τ 167 = σ 167 := ha 167 (by decide)
  have a106 : τ 106 = σ 106 := ha 106 (by decide)
  have a168 : τ 168 = σ 168 := ha 168 (by decide)
  have o0_0 : τ 0 0 = σ 0 0 := ho (0, 0) (by decide)
  have o114_0 : τ 114 0 = σ 114 0 := ho (114, 0) (by decide)
  have o1_5 : τ 1 5 = σ 1 5 := ho (1, 5) (by decide)
  have o114_1 : τ 114 1 = σ 114 1 := ho (114, 1) (by decide)
  have o7_9 : τ 7 9 = σ 7 9 := ho (7, 9) (by decide)
  have o114_9 : τ 114 9 = σ 114 9 := ho (114, 9) (by decide)
  have o17_8 : τ 17 8 = σ 17 8 := ho (17, 8) (by decide)
  have o114_22 : τ 114 22 = σ 114 22 := ho (114, 22) (by decide)
  have o41_1 : τ 41 1 = σ 41 1 := ho (41, 1) (by decide)
  have o114_29 : τ 114 29 = σ 114 29 := ho (114, 29) (by decide)
  have o41_6 : τ 41 6 = σ 41 6 := ho (41, 6) (by decide)
  have o114_32 : τ 114 32 = σ 114 32 := ho (114, 32) (by decide)
  have o74_4 : τ 74 4 = σ 74 4 := ho (74, 4) (by decide)
  have o114_54 : τ 114 54 = σ 114 54 := ho (114, 54) (by decide)
  have o88_7 : τ 88 7 = σ 88 7 := ho (88, 7) (by decide)
  have o114_60 : τ 114 60 = σ 114 60 := ho (114, 60) (by decide)
  have o96_4 : τ 96 4 = σ 96 4 := ho (96, 4) (by decide)
  have o114_63 : τ 114 63 = σ 114 63 := ho (114, 63) (by decide)
  have hcd : cdq τ = cdq σ := by unfold cdq; rw [a21, a22, a23, a24, a25, a26, a27, a28]
  have hvl : vlq τ = vlq σ := by unfold vlq; rw [a30, a31, a32, a33, a34, a35, a36, a37]
  have hup : upaq τ = upaq σ := by unfold upaq; rw [a80, a81, a82, a83, a84, a85, a86, a87]
  unfold RR
  rw [a2, a3, a4, a5, a6, a115, a116, a117, a119, a120, a105, a121, a8, a9, a10, a11, a12, a13, a14, a122, a123, a124, a125, a126, a127, a128, a15, a18, a19, a133, a134, a135, a136, a137, a38, a42, a138, a75, a76, a77, a78, a155, a156, a157, a158, a159, a89, a90, a91, a92, a160, a97, a98, a99, a162, a163, a164, a101, a167, a106, a168, o0_0, o114_0, o1_5, o114_1, o7_9, o114_9, o17_8, o114_22, o41_1, o114_29, o41_6, o114_32, o74_4, o114_54, o88_7, o114_60, o96_4, o114_63, hcd, hvl, hup]
  obtain ⟨r1, r2, r3, r4, r5, r6, r7, r8, r9, r10, r11, r12⟩ := hR
  exact ⟨r1, r2, r3, r4, r5, r6, r7, r8, r9, r10, r11, hc⟩
