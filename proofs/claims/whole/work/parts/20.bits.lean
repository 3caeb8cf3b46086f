/-! bits of small numbers -/
theorem b_ofn (n : Nat) : Int32.ofInt (n : Int) = nI n := by unfold nI; exact Int32.ofInt_eq_ofNat
theorem bb_and (a b : Nat) : nI a &&& nI b = nI (a &&& b) := by
  apply Int32.toBitVec_inj.1
  show BitVec.ofNat 32 a &&& BitVec.ofNat 32 b = BitVec.ofNat 32 (a &&& b)
  apply BitVec.eq_of_getLsbD_eq
  intro i hi
  simp [hi]
theorem bb_or (a b : Nat) : nI a ||| nI b = nI (a ||| b) := by
  apply Int32.toBitVec_inj.1
  show BitVec.ofNat 32 a ||| BitVec.ofNat 32 b = BitVec.ofNat 32 (a ||| b)
  apply BitVec.eq_of_getLsbD_eq
  intro i hi
  simp [hi]
theorem bb_xor (a b : Nat) : nI a ^^^ nI b = nI (a ^^^ b) := by
  apply Int32.toBitVec_inj.1
  show BitVec.ofNat 32 a ^^^ BitVec.ofNat 32 b = BitVec.ofNat 32 (a ^^^ b)
  apply BitVec.eq_of_getLsbD_eq
  intro i hi
  simp [hi]
theorem bAnd_n {a b : Nat} (h : a &&& b < 2 ^ 31) : bAnd a b = ((a &&& b : Nat) : Int) := by
  unfold bAnd
  rw [b_ofn, b_ofn, bb_and, nI_toInt h]
theorem bOr_n {a b : Nat} (h : a ||| b < 2 ^ 31) : bOr a b = ((a ||| b : Nat) : Int) := by
  unfold bOr
  rw [b_ofn, b_ofn, bb_or, nI_toInt h]
theorem bXor_n {a b : Nat} (h : a ^^^ b < 2 ^ 31) : bXor a b = ((a ^^^ b : Nat) : Int) := by
  unfold bXor
  rw [b_ofn, b_ofn, bb_xor, nI_toInt h]
theorem bs_l : ∀ n, n < 32 → ((nI n &&& 31).toBitVec.smod 32).toNat = n := by decide +kernel
theorem bs_u : ∀ n, n < 32 → (((nI n).toUInt32 &&& Int32.toUInt32 31).toBitVec % 32).toNat = n := by decide +kernel
theorem bShl_n {a k : Nat} (hk : k < 32) (h : a * 2 ^ k < 2 ^ 31) : bShl a k = ((a * 2 ^ k : Nat) : Int) := by
  unfold bShl
  rw [b_ofn, b_ofn, pk_shlN _ k (bs_l k hk) (by omega), nI_toInt h]
theorem bShr_n {a k : Nat} (ha : a < 2 ^ 31) (hk : k < 32) : bShr a k = ((a / 2 ^ k : Nat) : Int) := by
  unfold bShr
  rw [b_ofn, b_ofn, pk_shrN ha _ k (bs_l k hk), nI_toInt (Nat.lt_of_le_of_lt (Nat.div_le_self _ _) ha)]
theorem bUsh_n {a k : Nat} (ha : a < 2 ^ 31) (hk : k < 32) : bUsh a k = ((a / 2 ^ k : Nat) : Int) := by
  unfold bUsh
  rw [b_ofn, b_ofn, pk_ushrN (by omega) _ k (bs_u k hk), nI_toInt (Nat.lt_of_le_of_lt (Nat.div_le_self _ _) ha)]
/-- the same over Int -/
theorem bShr_i {x k : Int} (hx : 0 ≤ x ∧ x < 2147483648) (hk : 0 ≤ k ∧ k < 32) : bShr x k = x / 2 ^ k.toNat := by
  obtain ⟨a, rfl⟩ : ∃ a : Nat, x = a := ⟨x.toNat, by omega⟩
  obtain ⟨b, rfl⟩ : ∃ b : Nat, k = b := ⟨k.toNat, by omega⟩
  rw [bShr_n (by omega) (by omega)]
  simp
theorem bAnd_1 {x : Int} (hx : 0 ≤ x ∧ x < 2147483648) : bAnd x 1 = x % 2 := by
  obtain ⟨a, rfl⟩ : ∃ a : Nat, x = a := ⟨x.toNat, by omega⟩
  have h : a &&& 1 = a % 2 := Nat.and_two_pow_sub_one_eq_mod a 1
  have := bAnd_n (a := a) (b := 1) (by omega)
  rw [h] at this
  rw [show (1 : Int) = ((1 : Nat) : Int) from rfl, this]
  omega
theorem bAnd_7 {x : Int} (hx : 0 ≤ x ∧ x < 2147483648) : bAnd x 7 = x % 8 := by
  obtain ⟨a, rfl⟩ : ∃ a : Nat, x = a := ⟨x.toNat, by omega⟩
  have h : a &&& 7 = a % 8 := Nat.and_two_pow_sub_one_eq_mod a 3
  have := bAnd_n (a := a) (b := 7) (by omega)
  rw [h] at this
  rw [show (7 : Int) = ((7 : Nat) : Int) from rfl, this]
  omega
theorem bAnd_3 {x : Int} (hx : 0 ≤ x ∧ x < 2147483648) : bAnd x 3 = x % 4 := by
  obtain ⟨a, rfl⟩ : ∃ a : Nat, x = a := ⟨x.toNat, by omega⟩
  have h : a &&& 3 = a % 4 := Nat.and_two_pow_sub_one_eq_mod a 2
  have := bAnd_n (a := a) (b := 3) (by omega)
  rw [h] at this
  rw [show (3 : Int) = ((3 : Nat) : Int) from rfl, this]
  omega
theorem b_bvn (x : Int) : (Int32.ofInt x).toBitVec.toNat = (x % 4294967296).toNat := by
  show (BitVec.ofInt 32 x).toNat = _
  rw [BitVec.toNat_ofInt]
  rfl
/-- a mask of k ones over any number -/
theorem bAnd_m (x : Int) {m : Int} (k : Nat) (hk : k ≤ 30) (hm : (Int32.ofInt m).toBitVec.toNat = 2 ^ k - 1) : bAnd x m = x % 2 ^ k := by
  unfold bAnd
  rw [pk_and _ k hm, nI_toInt (Nat.lt_of_lt_of_le (Nat.mod_lt _ (Nat.two_pow_pos k)) (Nat.pow_le_pow_right (by decide) (by omega))), b_bvn]
  have h0 : 0 ≤ x % 4294967296 := Int.emod_nonneg _ (by decide)
  have e : ((((x % 4294967296).toNat % 2 ^ k : Nat)) : Int) = (x % 4294967296) % 2 ^ k := by
    rw [Int.natCast_emod, Int.toNat_of_nonneg h0]
    simp
  rw [e, Int.emod_emod_of_dvd]
  exact ⟨2 ^ (32 - k), by rw [← Int.pow_add]; have : k + (32 - k) = 32 := by omega
                          rw [this]; rfl⟩
theorem bAnd_255 (x : Int) : bAnd x 255 = x % 256 := bAnd_m x 8 (by decide) (by decide)
theorem bAnd_31 (x : Int) : bAnd x 31 = x % 32 := bAnd_m x 5 (by decide) (by decide)
/-! longs -/
theorem bl_bvn (x : Int) : (Int64.ofInt x).toBitVec.toNat = (x % 18446744073709551616).toNat := by
  show (BitVec.ofInt 64 x).toNat = _
  rw [BitVec.toNat_ofInt]
  rfl
theorem bl_cu : ∀ k, k < 64 → ((nI k).toInt64.toUInt64 &&& Int64.toUInt64 63) = UInt64.ofNat k := by decide +kernel
theorem bl_c : ∀ k, k < 64 → ((nI k).toInt64 &&& 63).toBitVec = BitVec.ofNat 64 k := by decide +kernel
theorem bl_sm : ∀ k, k < 64 → (BitVec.ofNat 64 k).smod 64 = BitVec.ofNat 64 k := by decide +kernel
/-- the low 32 bits as an int, then the low byte -/
theorem l2i_255 (x : Int) : bAnd (l2iq x) 255 = x % 256 := by
  rw [bAnd_255]
  unfold l2iq
  rw [Int64.toInt32_ofInt, Int32.toInt_ofInt]
  have q : (Int32.size : Int) = 4294967296 := rfl
  unfold Int.bmod
  rw [q]
  dsimp only
  split <;> omega
theorem l2i_s {x : Int} (h : 0 ≤ x ∧ x < 2147483648) : l2iq x = x := by
  unfold l2iq
  rw [Int64.toInt32_ofInt, o32 (by omega)]
/-- byte k of a long: unsigned shift, in the class -/
theorem byte_u {x : Int} {k : Nat} (hx : rgl x) (hk : k < 8) : bAnd (l2iq (lUsh x (8 * (k : Int)))) 255 = x / 2 ^ (8 * k) % 256 := by
  rw [l2i_255]
  unfold lUsh
  rw [show (8 * (k : Int)) = ((8 * k : Nat) : Int) by omega, b_ofn, bl_cu _ (by omega)]
  have h1 : ((Int64.ofInt x).toUInt64 >>> UInt64.ofNat (8 * k)).toInt64.toBitVec.toNat = (x % 18446744073709551616).toNat / 2 ^ (8 * k) := by
    show ((Int64.ofInt x).toUInt64 >>> UInt64.ofNat (8 * k)).toNat = _
    rw [UInt64.toNat_shiftRight]
    have h2 : (UInt64.ofNat (8 * k)).toNat = 8 * k := by
      show (BitVec.ofNat 64 (8 * k)).toNat = _
      rw [BitVec.toNat_ofNat, Nat.mod_eq_of_lt (by omega)]
    have h3 : (Int64.ofInt x).toUInt64.toNat = (x % 18446744073709551616).toNat := bl_bvn x
    rw [h2, h3, Nat.mod_eq_of_lt (by omega), Nat.shiftRight_eq_div_pow]
  generalize ((Int64.ofInt x).toUInt64 >>> UInt64.ofNat (8 * k)).toInt64 = y at h1 ⊢
  have h4 : y.toInt % 256 = (y.toBitVec.toNat : Int) % 256 := by
    show y.toBitVec.toInt % 256 = _
    rw [BitVec.toInt_eq_toNat_cond]
    split <;> omega
  rw [h4, h1]
  have h5 : 0 ≤ x % 18446744073709551616 := Int.emod_nonneg _ (by decide)
  rw [Int.natCast_ediv, Int.toNat_of_nonneg h5]
  have h8 : k = 0 ∨ k = 1 ∨ k = 2 ∨ k = 3 ∨ k = 4 ∨ k = 5 ∨ k = 6 ∨ k = 7 := by omega
  clear h1 h4
  rcases h8 with rfl | rfl | rfl | rfl | rfl | rfl | rfl | rfl
  · rw [show ((2 ^ (8 * 0) : Nat) : Int) = 1 by decide, show (2 : Int) ^ (8 * 0) = 1 by decide]
    omega
  · rw [show ((2 ^ (8 * 1) : Nat) : Int) = 256 by decide, show (2 : Int) ^ (8 * 1) = 256 by decide]
    omega
  · rw [show ((2 ^ (8 * 2) : Nat) : Int) = 65536 by decide, show (2 : Int) ^ (8 * 2) = 65536 by decide]
    omega
  · rw [show ((2 ^ (8 * 3) : Nat) : Int) = 16777216 by decide, show (2 : Int) ^ (8 * 3) = 16777216 by decide]
    omega
  · rw [show ((2 ^ (8 * 4) : Nat) : Int) = 4294967296 by decide, show (2 : Int) ^ (8 * 4) = 4294967296 by decide]
    omega
  · rw [show ((2 ^ (8 * 5) : Nat) : Int) = 1099511627776 by decide, show (2 : Int) ^ (8 * 5) = 1099511627776 by decide]
    omega
  · rw [show ((2 ^ (8 * 6) : Nat) : Int) = 281474976710656 by decide, show (2 : Int) ^ (8 * 6) = 281474976710656 by decide]
    omega
  · rw [show ((2 ^ (8 * 7) : Nat) : Int) = 72057594037927936 by decide, show (2 : Int) ^ (8 * 7) = 72057594037927936 by decide]
    omega
theorem lAnd_255 (x : Int) : lAnd x 255 = x % 256 := by
  unfold lAnd
  have h1 : (Int64.ofInt x &&& Int64.ofInt 255).toBitVec.toNat = (x % 18446744073709551616).toNat % 256 := by
    show ((Int64.ofInt x).toBitVec &&& (Int64.ofInt 255).toBitVec).toNat = _
    rw [BitVec.toNat_and, bl_bvn]
    exact Nat.and_two_pow_sub_one_eq_mod _ 8
  generalize (Int64.ofInt x &&& Int64.ofInt 255) = y at h1 ⊢
  show y.toBitVec.toInt = _
  rw [BitVec.toInt_eq_toNat_cond, h1]
  have h5 : 0 ≤ x % 18446744073709551616 := Int.emod_nonneg _ (by decide)
  split <;> omega
theorem lShr_n {x : Int} {k : Nat} (hx : rgl x) (hk : k < 64) : lShr x k = x / 2 ^ k := by
  unfold lShr
  rw [b_ofn]
  show ((Int64.ofInt x >>> ((nI k).toInt64 &&& 63)).toBitVec).toInt = _
  rw [Int64.toBitVec_shiftRight, bl_c k hk, bl_sm k hk]
  show ((Int64.ofInt x).toBitVec.sshiftRight (BitVec.ofNat 64 k).toNat).toInt = _
  rw [BitVec.toInt_sshiftRight, BitVec.toNat_ofNat, Nat.mod_eq_of_lt (by omega), Int.shiftRight_eq_div_pow]
  rw [show (Int64.ofInt x).toBitVec.toInt = x from o64 hx]
  simp
theorem byte_s {x : Int} {k : Nat} (hx : rgl x) (hk : k < 8) : l2iq (lAnd (lShr x (8 * (k : Int))) 255) = x / 2 ^ (8 * k) % 256 := by
  rw [show (8 * (k : Int)) = ((8 * k : Nat) : Int) by omega, lShr_n hx (by omega), lAnd_255]
  exact l2i_s (by omega)
