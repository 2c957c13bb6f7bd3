/-! A SMALL MACHINE, III: arithmetic on plain numbers, and what it is in the JVM -/
theorem mn_bv (a : Nat) : (nI a).toBitVec = BitVec.ofNat 32 a := rfl
theorem mn_ext {x y : Int32} (h : x.toBitVec.toNat = y.toBitVec.toNat) : x = y := Int32.toBitVec_inj.mp (BitVec.eq_of_toNat_eq h)
theorem mn_tn (a : Nat) : (nI a).toBitVec.toNat = a % 4294967296 := by rw [mn_bv, BitVec.toNat_ofNat]
theorem mn_mod (a : Nat) : nI (a % 4294967296) = nI a := mn_ext (by rw [mn_tn, mn_tn]; omega)
theorem mn_of (x : Int32) : nI x.toBitVec.toNat = x := mn_ext (by rw [mn_tn]; exact Nat.mod_eq_of_lt x.toBitVec.isLt)
theorem mn_add (a b : Nat) : nI a + nI b = nI ((a + b) % 4294967296) := by rw [mn_mod, nI_add]
theorem mn_sub (a b : Nat) : nI a - nI b = nI ((a + (4294967296 - b % 4294967296)) % 4294967296) := by
  apply mn_ext
  rw [mn_tn, Int32.toBitVec_sub, BitVec.toNat_sub, mn_tn, mn_tn]
  omega
theorem mn_mul (a b : Nat) : nI a * nI b = nI ((a * b) % 4294967296) := by rw [mn_mod, pk_mul]
theorem mn_and (a b : Nat) : nI a &&& nI b = nI (a &&& b) := by
  apply mn_ext
  rw [mn_tn, Int32.toBitVec_and, BitVec.toNat_and, mn_tn, mn_tn]
  exact (Nat.and_mod_two_pow (n := 32)).symm
theorem mn_or (a b : Nat) : nI a ||| nI b = nI (a ||| b) := by
  apply mn_ext
  rw [mn_tn, Int32.toBitVec_or, BitVec.toNat_or, mn_tn, mn_tn]
  exact (Nat.or_mod_two_pow (n := 32)).symm
theorem mn_xor (a b : Nat) : nI a ^^^ nI b = nI (a ^^^ b) := by
  apply mn_ext
  rw [mn_tn, Int32.toBitVec_xor, BitVec.toNat_xor, mn_tn, mn_tn]
  exact (Nat.xor_mod_two_pow (n := 32)).symm
theorem mn_31 (b : Nat) : nI b &&& 31 = nI (b % 32) := by
  have e : (31 : Int32) = nI 31 := rfl
  rw [e, mn_and]
  have : b &&& 31 = b % 32 := Nat.and_two_pow_sub_one_eq_mod b 5
  rw [this]
theorem mn_sm : ∀ k, k < 32 → ((nI k).toBitVec.smod 32).toNat = k := by decide
theorem mn_um : ∀ k, k < 32 → (((nI k).toUInt32).toBitVec % 32).toNat = k := by decide
theorem mn_shl (a b : Nat) : nI a <<< (nI b &&& 31) = nI (a * 2 ^ (b % 32) % 4294967296) := by
  apply mn_ext
  rw [mn_31, pk_shl _ _ (b % 32) (mn_sm _ (Nat.mod_lt _ (by decide))), mn_tn, mn_tn, Nat.mod_mul_mod]
  show _ % 4294967296 = _ % 4294967296 % 4294967296
  omega
/-- the signed number that a is, with 2^31 added -/
def mn_up (a : Nat) : Nat := (a + 2147483648) % 4294967296
theorem mn_toInt (a : Nat) : (nI a).toInt + 2147483648 = (mn_up a : Int) := by
  have h : (nI a).toInt = (BitVec.ofNat 32 a).toInt := rfl
  rw [h, BitVec.toInt_ofNat']
  unfold mn_up
  simp only [Int.bmod]
  omega
theorem mn_shr_k (u : Nat) (hu : u < 4294967296) : ∀ k, k < 32 → ((u : Int) - 2147483648) / ((2 ^ k : Nat) : Int) + 2147483648 = ((u / 2 ^ k + (2147483648 - 2147483648 / 2 ^ k) : Nat) : Int) ∧ u / 2 ^ k + (2147483648 - 2147483648 / 2 ^ k) < 4294967296
  | 0, _ => by
    show ((u : Int) - 2147483648) / 1 + 2147483648 = ((u / 1 + (2147483648 - 2147483648) : Nat) : Int) ∧ u / 1 + (2147483648 - 2147483648) < 4294967296
    omega
  | 1, _ => by
    show ((u : Int) - 2147483648) / 2 + 2147483648 = ((u / 2 + (2147483648 - 1073741824) : Nat) : Int) ∧ u / 2 + (2147483648 - 1073741824) < 4294967296
    omega
  | 2, _ => by
    show ((u : Int) - 2147483648) / 4 + 2147483648 = ((u / 4 + (2147483648 - 536870912) : Nat) : Int) ∧ u / 4 + (2147483648 - 536870912) < 4294967296
    omega
  | 3, _ => by
    show ((u : Int) - 2147483648) / 8 + 2147483648 = ((u / 8 + (2147483648 - 268435456) : Nat) : Int) ∧ u / 8 + (2147483648 - 268435456) < 4294967296
    omega
  | 4, _ => by
    show ((u : Int) - 2147483648) / 16 + 2147483648 = ((u / 16 + (2147483648 - 134217728) : Nat) : Int) ∧ u / 16 + (2147483648 - 134217728) < 4294967296
    omega
  | 5, _ => by
    show ((u : Int) - 2147483648) / 32 + 2147483648 = ((u / 32 + (2147483648 - 67108864) : Nat) : Int) ∧ u / 32 + (2147483648 - 67108864) < 4294967296
    omega
  | 6, _ => by
    show ((u : Int) - 2147483648) / 64 + 2147483648 = ((u / 64 + (2147483648 - 33554432) : Nat) : Int) ∧ u / 64 + (2147483648 - 33554432) < 4294967296
    omega
  | 7, _ => by
    show ((u : Int) - 2147483648) / 128 + 2147483648 = ((u / 128 + (2147483648 - 16777216) : Nat) : Int) ∧ u / 128 + (2147483648 - 16777216) < 4294967296
    omega
  | 8, _ => by
    show ((u : Int) - 2147483648) / 256 + 2147483648 = ((u / 256 + (2147483648 - 8388608) : Nat) : Int) ∧ u / 256 + (2147483648 - 8388608) < 4294967296
    omega
  | 9, _ => by
    show ((u : Int) - 2147483648) / 512 + 2147483648 = ((u / 512 + (2147483648 - 4194304) : Nat) : Int) ∧ u / 512 + (2147483648 - 4194304) < 4294967296
    omega
  | 10, _ => by
    show ((u : Int) - 2147483648) / 1024 + 2147483648 = ((u / 1024 + (2147483648 - 2097152) : Nat) : Int) ∧ u / 1024 + (2147483648 - 2097152) < 4294967296
    omega
  | 11, _ => by
    show ((u : Int) - 2147483648) / 2048 + 2147483648 = ((u / 2048 + (2147483648 - 1048576) : Nat) : Int) ∧ u / 2048 + (2147483648 - 1048576) < 4294967296
    omega
  | 12, _ => by
    show ((u : Int) - 2147483648) / 4096 + 2147483648 = ((u / 4096 + (2147483648 - 524288) : Nat) : Int) ∧ u / 4096 + (2147483648 - 524288) < 4294967296
    omega
  | 13, _ => by
    show ((u : Int) - 2147483648) / 8192 + 2147483648 = ((u / 8192 + (2147483648 - 262144) : Nat) : Int) ∧ u / 8192 + (2147483648 - 262144) < 4294967296
    omega
  | 14, _ => by
    show ((u : Int) - 2147483648) / 16384 + 2147483648 = ((u / 16384 + (2147483648 - 131072) : Nat) : Int) ∧ u / 16384 + (2147483648 - 131072) < 4294967296
    omega
  | 15, _ => by
    show ((u : Int) - 2147483648) / 32768 + 2147483648 = ((u / 32768 + (2147483648 - 65536) : Nat) : Int) ∧ u / 32768 + (2147483648 - 65536) < 4294967296
    omega
  | 16, _ => by
    show ((u : Int) - 2147483648) / 65536 + 2147483648 = ((u / 65536 + (2147483648 - 32768) : Nat) : Int) ∧ u / 65536 + (2147483648 - 32768) < 4294967296
    omega
  | 17, _ => by
    show ((u : Int) - 2147483648) / 131072 + 2147483648 = ((u / 131072 + (2147483648 - 16384) : Nat) : Int) ∧ u / 131072 + (2147483648 - 16384) < 4294967296
    omega
  | 18, _ => by
    show ((u : Int) - 2147483648) / 262144 + 2147483648 = ((u / 262144 + (2147483648 - 8192) : Nat) : Int) ∧ u / 262144 + (2147483648 - 8192) < 4294967296
    omega
  | 19, _ => by
    show ((u : Int) - 2147483648) / 524288 + 2147483648 = ((u / 524288 + (2147483648 - 4096) : Nat) : Int) ∧ u / 524288 + (2147483648 - 4096) < 4294967296
    omega
  | 20, _ => by
    show ((u : Int) - 2147483648) / 1048576 + 2147483648 = ((u / 1048576 + (2147483648 - 2048) : Nat) : Int) ∧ u / 1048576 + (2147483648 - 2048) < 4294967296
    omega
  | 21, _ => by
    show ((u : Int) - 2147483648) / 2097152 + 2147483648 = ((u / 2097152 + (2147483648 - 1024) : Nat) : Int) ∧ u / 2097152 + (2147483648 - 1024) < 4294967296
    omega
  | 22, _ => by
    show ((u : Int) - 2147483648) / 4194304 + 2147483648 = ((u / 4194304 + (2147483648 - 512) : Nat) : Int) ∧ u / 4194304 + (2147483648 - 512) < 4294967296
    omega
  | 23, _ => by
    show ((u : Int) - 2147483648) / 8388608 + 2147483648 = ((u / 8388608 + (2147483648 - 256) : Nat) : Int) ∧ u / 8388608 + (2147483648 - 256) < 4294967296
    omega
  | 24, _ => by
    show ((u : Int) - 2147483648) / 16777216 + 2147483648 = ((u / 16777216 + (2147483648 - 128) : Nat) : Int) ∧ u / 16777216 + (2147483648 - 128) < 4294967296
    omega
  | 25, _ => by
    show ((u : Int) - 2147483648) / 33554432 + 2147483648 = ((u / 33554432 + (2147483648 - 64) : Nat) : Int) ∧ u / 33554432 + (2147483648 - 64) < 4294967296
    omega
  | 26, _ => by
    show ((u : Int) - 2147483648) / 67108864 + 2147483648 = ((u / 67108864 + (2147483648 - 32) : Nat) : Int) ∧ u / 67108864 + (2147483648 - 32) < 4294967296
    omega
  | 27, _ => by
    show ((u : Int) - 2147483648) / 134217728 + 2147483648 = ((u / 134217728 + (2147483648 - 16) : Nat) : Int) ∧ u / 134217728 + (2147483648 - 16) < 4294967296
    omega
  | 28, _ => by
    show ((u : Int) - 2147483648) / 268435456 + 2147483648 = ((u / 268435456 + (2147483648 - 8) : Nat) : Int) ∧ u / 268435456 + (2147483648 - 8) < 4294967296
    omega
  | 29, _ => by
    show ((u : Int) - 2147483648) / 536870912 + 2147483648 = ((u / 536870912 + (2147483648 - 4) : Nat) : Int) ∧ u / 536870912 + (2147483648 - 4) < 4294967296
    omega
  | 30, _ => by
    show ((u : Int) - 2147483648) / 1073741824 + 2147483648 = ((u / 1073741824 + (2147483648 - 2) : Nat) : Int) ∧ u / 1073741824 + (2147483648 - 2) < 4294967296
    omega
  | 31, _ => by
    show ((u : Int) - 2147483648) / 2147483648 + 2147483648 = ((u / 2147483648 + (2147483648 - 1) : Nat) : Int) ∧ u / 2147483648 + (2147483648 - 1) < 4294967296
    omega
  | k + 32, h => absurd h (by omega)
theorem mn_shr (a b : Nat) : nI a >>> (nI b &&& 31) = nI ((mn_up a / 2 ^ (b % 32) + (4294967296 - 2147483648 / 2 ^ (b % 32))) % 4294967296) := by
  rw [mn_31]
  have hk : b % 32 < 32 := Nat.mod_lt _ (by decide)
  generalize b % 32 = k at hk
  apply Int32.toInt_inj.mp
  have h1 := pk_shr (nI a) (nI k) k (mn_sm k hk)
  have h2 := mn_toInt a
  have h3 := mn_toInt ((mn_up a / 2 ^ k + (4294967296 - 2147483648 / 2 ^ k)) % 4294967296)
  have hm : mn_up a < 4294967296 := Nat.mod_lt _ (by decide)
  obtain ⟨h4, h6⟩ := mn_shr_k (mn_up a) hm k hk
  rw [Int.shiftRight_eq_div_pow] at h1
  have e1 : (nI a).toInt = (mn_up a : Int) - 2147483648 := by omega
  rw [e1] at h1
  rw [h1]
  have hq : mn_up a / 2 ^ k ≤ mn_up a := Nat.div_le_self _ _
  have hp2 : 2147483648 / 2 ^ k ≤ 2147483648 := Nat.div_le_self _ _
  have h5 : mn_up ((mn_up a / 2 ^ k + (4294967296 - 2147483648 / 2 ^ k)) % 4294967296) = ((mn_up a / 2 ^ k + (4294967296 - 2147483648 / 2 ^ k)) % 4294967296 + 2147483648) % 4294967296 := rfl
  rw [h5] at h3
  clear h5
  generalize ((mn_up a : Int) - 2147483648) / ((2 ^ k : Nat) : Int) = z at h4 ⊢
  generalize mn_up a / 2 ^ k = u at *
  generalize 2147483648 / 2 ^ k = v at *
  generalize (nI ((u + (4294967296 - v)) % 4294967296)).toInt = y at *
  omega
theorem mn_ushr (a b : Nat) : ((nI a).toUInt32 >>> ((nI b).toUInt32 &&& Int32.toUInt32 31)).toInt32 = nI (a % 4294967296 / 2 ^ (b % 32)) := by
  have e : (nI b).toUInt32 &&& Int32.toUInt32 31 = (nI b &&& 31).toUInt32 := rfl
  have hk : b % 32 < 32 := Nat.mod_lt _ (by decide)
  apply mn_ext
  have h := pk_ushr (nI a) (nI (b % 32)) (b % 32) (by
    have h31 : (nI (b % 32)).toUInt32 &&& Int32.toUInt32 31 = (nI (b % 32) &&& 31).toUInt32 := rfl
    rw [h31, mn_31, Nat.mod_mod]
    exact mn_um _ hk)
  have h31 : (nI (b % 32)).toUInt32 &&& Int32.toUInt32 31 = (nI (b % 32) &&& 31).toUInt32 := rfl
  rw [h31, mn_31, Nat.mod_mod] at h
  rw [e, mn_31, h, mn_tn, mn_tn]
  have h5 : a % 4294967296 / 2 ^ (b % 32) ≤ a % 4294967296 := Nat.div_le_self _ _
  exact (Nat.mod_eq_of_lt (Nat.lt_of_le_of_lt h5 (Nat.mod_lt _ (by decide)))).symm
/-! longs -/
theorem ml_bv (a : Nat) : (lN a).toBitVec = BitVec.ofNat 64 a := rfl
theorem ml_ext {x y : Int64} (h : x.toBitVec.toNat = y.toBitVec.toNat) : x = y := Int64.toBitVec_inj.mp (BitVec.eq_of_toNat_eq h)
theorem ml_tn (a : Nat) : (lN a).toBitVec.toNat = a % 18446744073709551616 := by rw [ml_bv, BitVec.toNat_ofNat]
theorem ml_mod (a : Nat) : lN (a % 18446744073709551616) = lN a := ml_ext (by rw [ml_tn, ml_tn]; omega)
theorem ml_add (a b : Nat) : lN a + lN b = lN ((a + b) % 18446744073709551616) := by rw [ml_mod, lN_add]
theorem ml_mul (a b : Nat) : lN a * lN b = lN ((a * b) % 18446744073709551616) := by rw [ml_mod, lN_mul]
theorem ml_sub (a b : Nat) : lN a - lN b = lN ((a + (18446744073709551616 - b % 18446744073709551616)) % 18446744073709551616) := by
  apply ml_ext
  rw [ml_tn, Int64.toBitVec_sub, BitVec.toNat_sub, ml_tn, ml_tn]
  omega
theorem ml_and (a b : Nat) : lN a &&& lN b = lN (a &&& b) := by
  apply ml_ext
  rw [ml_tn, Int64.toBitVec_and, BitVec.toNat_and, ml_tn, ml_tn]
  exact (Nat.and_mod_two_pow (n := 64)).symm
theorem ml_63 (b : Nat) : (nI b).toInt64.toUInt64 &&& Int64.toUInt64 63 = UInt64.ofNat (b % 64) := by
  apply UInt64.toBitVec_inj.mp
  apply BitVec.eq_of_toNat_eq
  have h1 : ((nI b).toInt64.toUInt64 &&& Int64.toUInt64 63).toBitVec = (BitVec.ofNat 32 b).signExtend 64 &&& 63#64 := rfl
  have h2 : (UInt64.ofNat (b % 64)).toBitVec = BitVec.ofNat 64 (b % 64) := rfl
  rw [h1, h2]
  have h3 : (BitVec.ofNat 32 b).signExtend 64 &&& 63#64 = BitVec.ofNat 64 (b % 64) := by
    apply BitVec.eq_of_getLsbD_eq
    intro i hi
    have h63 : (63#64).getLsbD i = decide (i < 6) := by
      revert i
      decide
    have h64 : b % 64 = b % 2 ^ 6 := rfl
    rw [BitVec.getLsbD_and, h63, BitVec.getLsbD_signExtend, BitVec.getLsbD_ofNat, BitVec.getLsbD_ofNat, h64, Nat.testBit_mod_two_pow]
    by_cases h6 : i < 6
    · have h32 : i < 32 := by omega
      simp [h6, h32, hi]
    · simp [h6]
  rw [h3]
theorem ml_ushr (a b : Nat) : ((lN a).toUInt64 >>> ((nI b).toInt64.toUInt64 &&& Int64.toUInt64 63)).toInt64 = lN (a % 18446744073709551616 / 2 ^ (b % 64)) := by
  rw [ml_63]
  apply ml_ext
  have h1 : ((lN a).toUInt64 >>> UInt64.ofNat (b % 64)).toInt64.toBitVec = (lN a).toBitVec >>> (BitVec.ofNat 64 (b % 64) % 64) := rfl
  have hk : b % 64 < 64 := Nat.mod_lt _ (by decide)
  have h2 : (BitVec.ofNat 64 (b % 64) % 64#64).toNat = b % 64 := by
    rw [BitVec.toNat_umod, BitVec.toNat_ofNat]
    show b % 64 % 18446744073709551616 % 64 = b % 64
    omega
  rw [h1, BitVec.ushiftRight_eq', BitVec.toNat_ushiftRight]
  rw [show (BitVec.ofNat 64 (b % 64) % 64).toNat = b % 64 from h2, ml_tn, ml_tn, Nat.shiftRight_eq_div_pow]
  have h5 : a % 18446744073709551616 / 2 ^ (b % 64) ≤ a % 18446744073709551616 := Nat.div_le_self _ _
  exact (Nat.mod_eq_of_lt (Nat.lt_of_le_of_lt h5 (Nat.mod_lt _ (by decide)))).symm
def ml_up (a : Nat) : Nat := (a + 9223372036854775808) % 18446744073709551616
theorem ml_toInt (a : Nat) : (lN a).toInt + 9223372036854775808 = (ml_up a : Int) := by
  have h : (lN a).toInt = (BitVec.ofNat 64 a).toInt := rfl
  rw [h, BitVec.toInt_ofNat']
  unfold ml_up
  simp only [Int.bmod]
  omega
/-- i2l, l2i, i2b -/
theorem mn_i2l (a : Nat) : (nI a).toInt64 = lN ((mn_up a + 18446744071562067968) % 18446744073709551616) := by
  apply Int64.toInt_inj.mp
  rw [Int32.toInt_toInt64]
  have h1 := mn_toInt a
  have h2 := ml_toInt ((mn_up a + 18446744071562067968) % 18446744073709551616)
  have hm : mn_up a < 4294967296 := Nat.mod_lt _ (by decide)
  have h5 : ml_up ((mn_up a + 18446744071562067968) % 18446744073709551616) = ((mn_up a + 18446744071562067968) % 18446744073709551616 + 9223372036854775808) % 18446744073709551616 := rfl
  rw [h5] at h2
  clear h5
  generalize mn_up a = u at *
  omega
theorem ml_l2i (a : Nat) : (lN a).toInt32 = nI (a % 4294967296) := by
  rw [mn_mod]
  exact lN_i a
/-- the low byte, with its sign -/
def mn_b (a : Nat) : Nat := (a % 256 + 128) % 256 + 4294967168
theorem mn_i2b (a : Nat) : (nI a).toInt8.toInt32 = nI (mn_b a) := by
  apply Int32.toInt_inj.mp
  rw [Int8.toInt_toInt32]
  rw [Int32.toInt_toInt8]
  have h1 := mn_toInt a
  have h2 := mn_toInt (mn_b a)
  unfold mn_up at h1
  unfold mn_up mn_b at h2
  simp only [Int.bmod]
  unfold mn_b
  generalize (nI ((a % 256 + 128) % 256 + 4294967168)).toInt = y at *
  generalize (nI a).toInt = z at *
  omega
