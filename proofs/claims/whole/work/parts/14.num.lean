/-- the bits of s that t lacks -/
def ndf (s t : Nat) : Nat := s ^^^ (s &&& t)
theorem ndf_bit (s t i : Nat) : (ndf s t).testBit i = (s.testBit i && !t.testBit i) := by
  simp only [ndf, Nat.testBit_xor, Nat.testBit_and]
  cases s.testBit i <;> cases t.testBit i <;> rfl
theorem ndf_le (s t : Nat) : ndf s t ≤ s := by
  apply Nat.le_of_testBit
  intro i h
  rw [ndf_bit] at h
  simp at h
  exact h.1
theorem sh_l : ∀ n, n < 32 → ((nI n &&& 31).toBitVec.smod 32).toNat = n := by decide +kernel
theorem iI_shr {x k : Nat} (hx : x < 2147483648) (hk : k < 32) : iI (x : Int) >>> (iI (k : Int) &&& 31) = iI ((x / 2 ^ k : Nat) : Int) := by
  rw [iI_nat, iI_nat, iI_nat]
  exact pk_shrN (by omega) _ k (sh_l k hk)
theorem iI_shl {x k : Nat} (hk : k < 32) (h : x * 2 ^ k < 4294967296) : iI (x : Int) <<< (iI (k : Int) &&& 31) = iI ((x * 2 ^ k : Nat) : Int) := by
  rw [iI_nat, iI_nat, iI_nat]
  exact pk_shlN _ k (sh_l k hk) (by omega)
theorem iI_shl1 {k : Nat} (hk : k < 32) : iI 1 <<< (iI (k : Int) &&& 31) = iI ((2 ^ k : Nat) : Int) := by
  have h : 2 ^ k ≤ 2 ^ 31 := Nat.pow_le_pow_right (by omega) (by omega)
  have h2 := iI_shl (x := 1) hk (by omega)
  rw [Nat.one_mul] at h2
  exact h2
theorem iI_and (a b : Nat) : iI (a : Int) &&& iI (b : Int) = iI ((a &&& b : Nat) : Int) := by
  rw [iI_nat, iI_nat, iI_nat]
  apply Int32.toBitVec_inj.mp
  simp [nI, Int32.toBitVec_and, Int32.toBitVec_ofNat, BitVec.ofNat_and]
theorem iI_or (a b : Nat) : iI (a : Int) ||| iI (b : Int) = iI ((a ||| b : Nat) : Int) := by
  rw [iI_nat, iI_nat, iI_nat]
  apply Int32.toBitVec_inj.mp
  simp [nI, Int32.toBitVec_or, Int32.toBitVec_ofNat, BitVec.ofNat_or]
theorem iI_xor (a b : Nat) : iI (a : Int) ^^^ iI (b : Int) = iI ((a ^^^ b : Nat) : Int) := by
  rw [iI_nat, iI_nat, iI_nat]
  apply Int32.toBitVec_inj.mp
  simp [nI, Int32.toBitVec_xor, Int32.toBitVec_ofNat, BitVec.ofNat_xor]
theorem iI_not (x : Int) : iI x ^^^ iI (-1) = iI (-x - 1) := by
  apply Int32.toBitVec_inj.mp
  have h1 : (iI (-1)).toBitVec = BitVec.allOnes 32 := by decide
  rw [Int32.toBitVec_xor, h1]
  have h2 : (iI (-x - 1)).toBitVec = BitVec.ofInt 32 (-x - 1) := Int32.toBitVec_ofInt _
  have h3 : (iI x).toBitVec = BitVec.ofInt 32 x := Int32.toBitVec_ofInt _
  have h4 : (1 : BitVec 32) + BitVec.ofInt 32 (-1) = 0 := by decide
  rw [h2, h3, BitVec.xor_allOnes, Int.sub_eq_add_neg, BitVec.ofInt_add, BitVec.ofInt_neg, BitVec.neg_eq_not_add]
  have h5 : ∀ a : BitVec 32, a = a + 1 + BitVec.ofInt 32 (-1) := fun a => by rw [BitVec.add_assoc, h4]; simp
  exact h5 _
theorem iI_andn (a b : Nat) : iI (a : Int) &&& iI (-(b : Int) - 1) = iI ((ndf a b : Nat) : Int) := by
  have h : iI (-(b : Int) - 1) = iI (b : Int) ^^^ iI (-1) := (iI_not _).symm
  have hx : iI ((ndf a b : Nat) : Int) = iI (a : Int) ^^^ (iI (a : Int) &&& iI (b : Int)) := by rw [iI_and, iI_xor]; rfl
  rw [h, hx]
  apply Int32.toBitVec_inj.mp
  have h1 : (iI (-1)).toBitVec = BitVec.allOnes 32 := by decide
  simp only [Int32.toBitVec_xor, Int32.toBitVec_and, h1]
  apply BitVec.eq_of_getLsbD_eq
  intro i hi
  simp only [BitVec.getLsbD_and, BitVec.getLsbD_xor, BitVec.getLsbD_allOnes, hi, decide_true]
  cases (iI (a : Int)).toBitVec.getLsbD i <;> cases (iI (b : Int)).toBitVec.getLsbD i <;> rfl
theorem and1 (n : Nat) : n &&& 1 = n % 2 := Nat.and_one_is_mod n
theorem bit_div (s k : Nat) : (s / 2 ^ k &&& 1) = if s.testBit k = true then 1 else 0 := by
  rw [and1, Nat.testBit_eq_decide_div_mod_eq]
  by_cases h : s / 2 ^ k % 2 = 1 <;> simp [h]
  omega
