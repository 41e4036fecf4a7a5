theorem iI_tn (x : Int) : (iI x).toBitVec.toNat = (x % 4294967296).toNat := by
  have h : (iI x).toBitVec = BitVec.ofInt 32 x := Int32.toBitVec_ofInt _
  rw [h, BitVec.toNat_ofInt]
  rfl
theorem su_l : ∀ n, n < 32 → (((nI n).toUInt32 &&& Int32.toUInt32 31).toBitVec % 32).toNat = n := by decide +kernel
theorem iI_ushr {x : Int} {k : Nat} (hk : k < 32) : ((iI x).toUInt32 >>> ((iI (k : Int)).toUInt32 &&& Int32.toUInt32 31)).toInt32 = iI (((x % 4294967296).toNat / 2 ^ k : Nat) : Int) := by
  apply Int32.toBitVec_inj.mp
  apply BitVec.eq_of_toNat_eq
  rw [iI_nat k, pk_ushr _ _ k (su_l k hk), iI_tn, iI_tn]
  have h1 : (x % 4294967296).toNat < 4294967296 := by omega
  have h2 : (x % 4294967296).toNat / 2 ^ k ≤ (x % 4294967296).toNat := Nat.div_le_self _ _
  generalize (x % 4294967296).toNat / 2 ^ k = A at h2 ⊢
  omega
theorem iI_sar {x : Int} {k : Nat} (hx : -2147483648 ≤ x ∧ x ≤ 2147483647) (hk : k < 32) : iI x >>> (iI (k : Int) &&& 31) = iI (x / 2 ^ k) := by
  apply Int32.toInt_inj.mp
  have hp : (0 : Int) < 2 ^ k := Int.pow_pos (by decide)
  have h1 : -2147483648 ≤ x / 2 ^ k ∧ x / 2 ^ k ≤ 2147483647 := by
    constructor
    · apply Int.le_ediv_of_mul_le hp
      have : (1 : Int) ≤ 2 ^ k := hp
      have h3 : (-2147483648 : Int) * 2 ^ k ≤ -2147483648 * 1 := Int.mul_le_mul_of_nonpos_left (by decide) this
      omega
    · have h4 : x / 2 ^ k ≤ 2147483647 / 2 ^ k := Int.ediv_le_ediv hp hx.2
      have h5 : (2147483647 : Int) / 2 ^ k ≤ 2147483647 := Int.ediv_le_self _ (by decide)
      omega
  rw [iI_nat k, pk_shr _ _ k (sh_l k hk), iI_toInt hx, iI_toInt h1, Int.shiftRight_eq_div_pow]
  rfl
theorem iI_i2b (x : Int) : (iI x).toInt8.toInt32 = iI ((x + 128) % 256 - 128) := by
  apply Int32.toInt_inj.mp
  rw [iI_toInt (by omega), Int8.toInt_toInt32, Int32.toInt_toInt8]
  have h : (iI x).toInt = x.bmod 4294967296 := by unfold iI; rw [Int32.toInt_ofInt]
  rw [h, Int.bmod_bmod_of_dvd (by decide)]
  rw [Int.bmod_def]
  split <;> omega
theorem and255 (n : Nat) : n &&& 255 = n % 256 := Nat.and_two_pow_sub_one_eq_mod n 8
